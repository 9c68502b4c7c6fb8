/-- letters of the document's text, as the model sees them -/
abbrev lt (c : Int32) : Prop := Wi c 97 122 ∨ c = 44 ∨ c = 59
def mtk (f : Nat → Int32) (l i : Nat) : Int32 := if i < l then (if dg (f i) then (if endF f l i - i ≤ 2 then 2 else 0) else (if lt (f i) then 1 else 0)) else 3
/-- the value of m figures from i on -/
def mv (f : Nat → Int32) (i : Nat) : Nat → Int32
  | 0 => 0
  | m + 1 => if mv f i m ≤ 99 then 10 * mv f i m + f (i + m) - 48 else mv f i m
/-- the model's scalars, a token read from i on -/
def tS (f : Nat → Int32) (l : Nat) (X : Nat → Int32) (i : Nat) : Prop := X 2 = nI l ∧ X 7 = nI i ∧ X 4 = nI (tkE f l i) ∧ X 5 = mtk f l i ∧ (tok f l i = 256 → X 6 = tkV f l i) ∧ (mtk f l i = 1 → X 6 = f i)
theorem dgW {c : Int32} : Wi c 48 57 ↔ dg c := by
  unfold dg Wi
  rw [i_le, i_le]
  exact Iff.rfl
/-- what nextToken has while it reads figures -/
def nS (l i q : Nat) (t v : Int32) (X0 X : Nat → Int32) : Prop := X 2 = nI l ∧ X 7 = nI i ∧ X 5 = t ∧ X 4 = nI q ∧ X 6 = v ∧ ∀ k, k < 4 ∨ 8 ≤ k → X k = X0 k
theorem nS_s {l i q : Nat} {t v v' : Int32} {X0 X : Nat → Int32} (h : nS l i q t v X0 X) : nS l i (q + 1) t v' X0 (upd (upd X 6 v') 4 (nI (q + 1))) := by
  obtain ⟨h1, h2, h3, h4, h5, h6⟩ := h
  refine ⟨?_, ?_, ?_, ?_, ?_, fun k hk => ?_⟩
  · rw [up_ne (by omega), up_ne (by omega)]; exact h1
  · rw [up_ne (by omega), up_ne (by omega)]; exact h2
  · rw [up_ne (by omega), up_ne (by omega)]; exact h3
  · rw [up_eq]
  · rw [up_ne (by omega), up_eq]
  · rw [up_ne (by omega), up_ne (by omega)]; exact h6 k hk
set_option maxRecDepth 100000 in
set_option maxHeartbeats 4000000 in
theorem l_nt {G : mj_G} {h0 : mj_H} {d l i : Nat} {t : Int32} {τ : Nat → Nat → Int32} {X0 : Nat → Int32} {Q : Option Value → mj_H → Prop} (hl : l ≤ 120) (hd : 1 ≤ d) : ∀ (r q : Nat), q + r = l → i ≤ q → ∀ (h : mj_H) (X : Nat → Int32), YS G h (u2 τ 12 X) → nS l i q t (mv (τ 5) i (q - i)) X0 X → mj_fr 220 13 h0 h → (∀ h' X', YS G h' (u2 τ 12 X') → nS l i (rnE (τ 5) l r q) t (mv (τ 5) i (rnE (τ 5) l r q - i)) X0 X' → mj_fr 220 13 h0 h' → mj_wp G MX5_nextToken d 0 0 119 [some (.ref (G.1 + 220))] [] h' 0 0 Q) → mj_wp G MX5_nextToken d 0 0 33 [some (.ref (G.1 + 220))] [] h 0 0 Q := by
  intro r
  induction r with
  | zero =>
    intro q hq hiq h X hY hS hF K
    obtain ⟨s1, s2, s3, s4, s5, s6⟩ := id hS
    obtain ⟨y0, y1, y2, y3, y4, y5, y6, y7, y8, y9, y10, y11, y12⟩ := id hY
    replace y0 : h.2 220 = YO G (X) := y0
    refine s_aload_n (n := 34) (i := 0) dX5_nextToken_33 rfl rfl rfl ?_
    refine gf_X5_82 (n := 37) rfl dX5_nextToken_34 rfl (by assumption) (by rfl) ?_
    refine s_aload_n (n := 38) (i := 0) dX5_nextToken_37 rfl rfl rfl ?_
    refine gf_X5_78 (n := 41) rfl dX5_nextToken_38 rfl (by assumption) (by rfl) ?_
    rw [s4, s1]
    refine s_icmp_ge (n := 44) (tgt := 119) dX5_nextToken_41 rfl rfl (fun b41 => ?_) (fun b41 => ?_)
    · exact K _ _ hY hS hF
    · exact absurd ((nI_leE (by omega) (by omega)).mpr (by omega)) b41
  | succ r ih =>
    intro q hq hiq h X hY hS hF K
    obtain ⟨s1, s2, s3, s4, s5, s6⟩ := id hS
    obtain ⟨y0, y1, y2, y3, y4, y5, y6, y7, y8, y9, y10, y11, y12⟩ := id hY
    replace y0 : h.2 220 = YO G (X) := y0
    replace y6 : h.2 226 = mj_ar 0 120 (τ 5) := y6
    refine s_aload_n (n := 34) (i := 0) dX5_nextToken_33 rfl rfl rfl ?_
    refine gf_X5_82 (n := 37) rfl dX5_nextToken_34 rfl (by assumption) (by rfl) ?_
    refine s_aload_n (n := 38) (i := 0) dX5_nextToken_37 rfl rfl rfl ?_
    refine gf_X5_78 (n := 41) rfl dX5_nextToken_38 rfl (by assumption) (by rfl) ?_
    rw [s4, s1]
    refine s_icmp_ge (n := 44) (tgt := 119) dX5_nextToken_41 rfl rfl (fun b41 => ?_) (fun b41 => ?_)
    · exact absurd ((nI_leE (by omega) (by omega)).mp b41) (by omega)
    · refine s_aload_n (n := 45) (i := 0) dX5_nextToken_44 rfl rfl rfl ?_
      refine gf_X5_25 (n := 48) rfl dX5_nextToken_45 rfl (by assumption) (by rfl) ?_
      refine s_aload_n (n := 49) (i := 0) dX5_nextToken_48 rfl rfl rfl ?_
      refine gf_X5_82 (n := 52) rfl dX5_nextToken_49 rfl (by assumption) (by rfl) ?_
      rw [s4]
      refine s_iald (n := 53) dX5_nextToken_52 rfl (by assumption) (mj_ixn (by omega)) ?_
      refine s_i2l (n := 54) dX5_nextToken_53 rfl ?_
      refine s_ldc2 (n := 57) dX5_nextToken_54 rfl wd_X5_94 ?_
      refine s_ldc2 (n := 60) dX5_nextToken_57 rfl wd_X5_96 ?_
      refine s_s3 (M' := MX5_in) (n := 63) dX5_nextToken_60 rfl wd_X5_54 okX5_in rfl (by omega) ⟨Nat.le_refl _, Nat.le_refl _⟩ (y_in (d := d - 1) (A := 48) (B := 57) (by decide) (by decide)) ?_
      rintro v60 hh60 ⟨rfl, rfl⟩
      refine s_if_eq (n := 66) (tgt := 119) dX5_nextToken_63 rfl rfl (fun b63 => ?_) (fun b63 => ?_)
      · have q0 : ¬ dg (τ 5 q) := fun z => if0 b63 (dgW.mpr z)
        rw [show rnE (τ 5) l (r + 1) q = q from if_neg (fun z => q0 z.2)] at K
        exact K _ _ hY hS hF
      · have q0 : dg (τ 5 q) := dgW.mp (if1 b63)
        rw [show rnE (τ 5) l (r + 1) q = rnE (τ 5) l r (q + 1) from if_pos ⟨by omega, q0⟩] at K
        refine s_aload_n (n := 67) (i := 0) dX5_nextToken_66 rfl rfl rfl ?_
        refine s_aload_n (n := 68) (i := 0) dX5_nextToken_67 rfl rfl rfl ?_
        refine gf_X5_91 (n := 71) rfl dX5_nextToken_68 rfl (by assumption) (by rfl) ?_
        refine s_bipush (n := 73) (v := 99) dX5_nextToken_71 rfl (by decide) ?_
        rw [s5]
        refine s_icmp_le (n := 76) (tgt := 83) dX5_nextToken_73 rfl rfl (fun b73 => ?_) (fun b73 => ?_)
        · have hv : (if mv (τ 5) i (q - i) ≤ 99 then 10 * mv (τ 5) i (q - i) + τ 5 q - 48 else mv (τ 5) i (q - i)) = 10 * mv (τ 5) i (q - i) + τ 5 q - 48 := if_pos b73
          refine s_bipush (n := 85) (v := 10) dX5_nextToken_83 rfl (by decide) ?_
          refine s_aload_n (n := 86) (i := 0) dX5_nextToken_85 rfl rfl rfl ?_
          refine gf_X5_91 (n := 89) rfl dX5_nextToken_86 rfl (by assumption) (by rfl) ?_
          rw [s5]
          refine s_imul (n := 90) dX5_nextToken_89 rfl ?_
          refine s_aload_n (n := 91) (i := 0) dX5_nextToken_90 rfl rfl rfl ?_
          refine gf_X5_25 (n := 94) rfl dX5_nextToken_91 rfl (by assumption) (by rfl) ?_
          refine s_aload_n (n := 95) (i := 0) dX5_nextToken_94 rfl rfl rfl ?_
          refine gf_X5_82 (n := 98) rfl dX5_nextToken_95 rfl (by assumption) (by rfl) ?_
          rw [s4]
          refine s_iald (n := 99) dX5_nextToken_98 rfl (by assumption) (mj_ixn (by omega)) ?_
          refine s_iadd (n := 100) dX5_nextToken_99 rfl ?_
          refine s_bipush (n := 102) (v := 48) dX5_nextToken_100 rfl (by decide) ?_
          refine s_isub (n := 103) dX5_nextToken_102 rfl ?_
          refine pf_X5_91 (n := 106) (fs' := [_, _, _, _, _, _, _, _, _, _, _, _, _, _, _, _, _, _, _, _, _, _, _]) rfl dX5_nextToken_103 rfl (by assumption) (by rfl) (by rfl) ?_
          rw [← hv]
          refine YF_6 (τ := u2 τ 12 X) hY (fun h1 hY1 hF1 => ?_)
          rw [u2_u2] at hY1
          obtain ⟨y0, y1, y2, y3, y4, y5, y6, y7, y8, y9, y10, y11, y12⟩ := id hY1
          replace y0 : h1.2 220 = YO G (upd X 6 (if mv (τ 5) i (q - i) ≤ 99 then 10 * mv (τ 5) i (q - i) + τ 5 q - 48 else mv (τ 5) i (q - i))) := y0
          have s4b : (upd X 6 (if mv (τ 5) i (q - i) ≤ 99 then 10 * mv (τ 5) i (q - i) + τ 5 q - 48 else mv (τ 5) i (q - i))) 4 = nI q := (up_ne (by omega)).trans s4
          refine s_aload_n (n := 107) (i := 0) dX5_nextToken_106 rfl rfl rfl ?_
          refine s_dup (n := 108) dX5_nextToken_107 rfl rfl ?_
          refine gf_X5_82 (n := 111) rfl dX5_nextToken_108 rfl (by assumption) (by rfl) ?_
          refine s_iconst (n := 112) (v := 1) dX5_nextToken_111 rfl (by decide) ?_
          refine s_iadd (n := 113) dX5_nextToken_112 rfl ?_
          refine pf_X5_82 (n := 116) (fs' := [_, _, _, _, _, _, _, _, _, _, _, _, _, _, _, _, _, _, _, _, _, _, _]) rfl dX5_nextToken_113 rfl (by assumption) (by rfl) (by rfl) ?_
          rw [s4b, nI_1]
          refine YF_4 (τ := u2 τ 12 (upd X 6 (if mv (τ 5) i (q - i) ≤ 99 then 10 * mv (τ 5) i (q - i) + τ 5 q - 48 else mv (τ 5) i (q - i)))) hY1 (fun h2 hY2 hF2 => ?_)
          rw [u2_u2] at hY2
          refine s_goto (tgt := 33) dX5_nextToken_116 rfl ?_
          refine ih (q + 1) (by omega) (by omega) h2 _ hY2 ?_ (fr_tr hF (fr_tr hF1 hF2)) K
          rw [show q + 1 - i = (q - i) + 1 from by omega]
          have e : mv (τ 5) i (q - i + 1) = (if mv (τ 5) i (q - i) ≤ 99 then 10 * mv (τ 5) i (q - i) + τ 5 q - 48 else mv (τ 5) i (q - i)) := by
            show (if _ then _ else _) = _
            rw [show i + (q - i) = q from by omega]
          rw [e]
          exact nS_s hS
        · have hv : (if mv (τ 5) i (q - i) ≤ 99 then 10 * mv (τ 5) i (q - i) + τ 5 q - 48 else mv (τ 5) i (q - i)) = mv (τ 5) i (q - i) := if_neg b73
          refine s_aload_n (n := 77) (i := 0) dX5_nextToken_76 rfl rfl rfl ?_
          refine gf_X5_91 (n := 80) rfl dX5_nextToken_77 rfl (by assumption) (by rfl) ?_
          rw [s5]
          refine s_goto (tgt := 103) dX5_nextToken_80 rfl ?_
          refine pf_X5_91 (n := 106) (fs' := [_, _, _, _, _, _, _, _, _, _, _, _, _, _, _, _, _, _, _, _, _, _, _]) rfl dX5_nextToken_103 rfl (by assumption) (by rfl) (by rfl) ?_
          rw [← hv]
          refine YF_6 (τ := u2 τ 12 X) hY (fun h1 hY1 hF1 => ?_)
          rw [u2_u2] at hY1
          obtain ⟨y0, y1, y2, y3, y4, y5, y6, y7, y8, y9, y10, y11, y12⟩ := id hY1
          replace y0 : h1.2 220 = YO G (upd X 6 (if mv (τ 5) i (q - i) ≤ 99 then 10 * mv (τ 5) i (q - i) + τ 5 q - 48 else mv (τ 5) i (q - i))) := y0
          have s4b : (upd X 6 (if mv (τ 5) i (q - i) ≤ 99 then 10 * mv (τ 5) i (q - i) + τ 5 q - 48 else mv (τ 5) i (q - i))) 4 = nI q := (up_ne (by omega)).trans s4
          refine s_aload_n (n := 107) (i := 0) dX5_nextToken_106 rfl rfl rfl ?_
          refine s_dup (n := 108) dX5_nextToken_107 rfl rfl ?_
          refine gf_X5_82 (n := 111) rfl dX5_nextToken_108 rfl (by assumption) (by rfl) ?_
          refine s_iconst (n := 112) (v := 1) dX5_nextToken_111 rfl (by decide) ?_
          refine s_iadd (n := 113) dX5_nextToken_112 rfl ?_
          refine pf_X5_82 (n := 116) (fs' := [_, _, _, _, _, _, _, _, _, _, _, _, _, _, _, _, _, _, _, _, _, _, _]) rfl dX5_nextToken_113 rfl (by assumption) (by rfl) (by rfl) ?_
          rw [s4b, nI_1]
          refine YF_4 (τ := u2 τ 12 (upd X 6 (if mv (τ 5) i (q - i) ≤ 99 then 10 * mv (τ 5) i (q - i) + τ 5 q - 48 else mv (τ 5) i (q - i)))) hY1 (fun h2 hY2 hF2 => ?_)
          rw [u2_u2] at hY2
          refine s_goto (tgt := 33) dX5_nextToken_116 rfl ?_
          refine ih (q + 1) (by omega) (by omega) h2 _ hY2 ?_ (fr_tr hF (fr_tr hF1 hF2)) K
          rw [show q + 1 - i = (q - i) + 1 from by omega]
          have e : mv (τ 5) i (q - i + 1) = (if mv (τ 5) i (q - i) ≤ 99 then 10 * mv (τ 5) i (q - i) + τ 5 q - 48 else mv (τ 5) i (q - i)) := by
            show (if _ then _ else _) = _
            rw [show i + (q - i) = q from by omega]
          rw [e]
          exact nS_s hS
theorem nI_sub {a b : Nat} (h : b ≤ a) : nI a - nI b = nI (a - b) := by
  rw [show nI a = nI (a - b) + nI b from by rw [nI_add, Nat.sub_add_cancel h], Int32.add_sub_cancel]
theorem endF_d {f : Nat → Int32} {l i : Nat} (h : i < l) (hd : dg (f i)) : i < endF f l i := by
  unfold endF
  rw [show l - i = (l - i - 1) + 1 from by omega]
  unfold rnE
  rw [if_pos ⟨h, hd⟩]
  have := rnE_le (f := f) (l := l) (l - i - 1) (i + 1) (by omega)
  omega
theorem endF_n {f : Nat → Int32} {l i : Nat} (h : ¬ (i < l ∧ dg (f i))) : endF f l i = i := by
  unfold endF
  match l - i with
  | 0 => rfl
  | m + 1 => exact if_neg h
theorem endF_le {f : Nat → Int32} {l i : Nat} (h : i ≤ l) : i ≤ endF f l i ∧ endF f l i ≤ l := rnE_le (l - i) i (by omega)
theorem mv_1 {f : Nat → Int32} {i : Nat} : mv f i 1 = rvF f i 1 := rfl
theorem mv_19 {f : Nat → Int32} {i : Nat} (h : dg (f i)) : mv f i 1 ≤ 99 := by
  have e : mv f i 1 = f i - 48 := by
    show 10 * 0 + f (i + 0) - 48 = _
    rw [show (10 : Int32) * 0 = 0 from by decide, Int32.zero_add, Nat.add_zero]
  rw [e, i_le]
  have h1 := dgW.mpr h
  have h2 := h1.1
  have h3 := h1.2
  have c : (48 : Int32).toInt = 48 := by decide
  rw [isb (by rw [c]; omega) (by rw [c]; omega), c, show (99 : Int32).toInt = 99 from by decide]
  omega
theorem mv_2 {f : Nat → Int32} {i : Nat} (h : dg (f i)) : mv f i 2 = rvF f i 2 := by
  show (if mv f i 1 ≤ 99 then 10 * mv f i 1 + f (i + 1) - 48 else mv f i 1) = rvF f i 1 * 10 + f (i + 1) - 48
  rw [if_pos (mv_19 h), mv_1, Int32.mul_comm]
theorem mv_rv {f : Nat → Int32} {i m : Nat} (h : dg (f i)) (h1 : 1 ≤ m) (h2 : m ≤ 2) : mv f i m = rvF f i m := by
  match m, h1, h2 with
  | 1, _, _ => exact mv_1
  | 2, _, _ => exact mv_2 h
set_option maxRecDepth 100000 in
set_option maxHeartbeats 4000000 in
theorem n_end {G : mj_G} {h0 : mj_H} {d l i : Nat} {τ : Nat → Nat → Int32} {X0 : Nat → Int32} (hl : l ≤ 120) (hi : i ≤ l) (hd : 1 ≤ d) (he : i = l) {h : mj_H} {X : Nat → Int32} (hY : YS G h (u2 τ 12 X)) (hS : nS l i (endF (τ 5) l i) 3 (mv (τ 5) i (endF (τ 5) l i - i)) X0 X) (hF : mj_fr 220 13 h0 h) : mj_wp G MX5_nextToken d 0 0 119 [some (.ref (G.1 + 220))] [] h 0 0 (fun v h' => v = none ∧ ∃ X', YS G h' (u2 τ 12 X') ∧ tS (τ 5) l X' i ∧ (∀ k, k < 4 ∨ 8 ≤ k → X' k = X0 k) ∧ mj_fr 220 13 h0 h') := by
  obtain ⟨s1, s2, s3, s4, s5, s6⟩ := id hS
  obtain ⟨y0, y1, y2, y3, y4, y5, y6, y7, y8, y9, y10, y11, y12⟩ := id hY
  replace y0 : h.2 220 = YO G (X) := y0
  replace y6 : h.2 226 = mj_ar 0 120 (τ 5) := y6
  rw [endF_n (by omega)] at s4
  refine s_aload_n (n := 120) (i := 0) dX5_nextToken_119 rfl rfl rfl ?_
  refine gf_X5_82 (n := 123) rfl dX5_nextToken_120 rfl (by assumption) (by rfl) ?_
  refine s_aload_n (n := 124) (i := 0) dX5_nextToken_123 rfl rfl rfl ?_
  refine gf_X5_85 (n := 127) rfl dX5_nextToken_124 rfl (by assumption) (by rfl) ?_
  rw [s4, s2]
  refine s_icmp_le (n := 130) (tgt := 155) dX5_nextToken_127 rfl rfl (fun b127 => ?_) (fun b127 => ?_)
  · refine s_aload_n (n := 156) (i := 0) dX5_nextToken_155 rfl rfl rfl ?_
    refine gf_X5_88 (n := 159) rfl dX5_nextToken_156 rfl (by assumption) (by rfl) ?_
    rw [s3]
    refine s_if_ne (n := 162) (tgt := 229) dX5_nextToken_159 rfl rfl (fun b159 => ?_) (fun b159 => ?_)
    · refine s_return dX5_nextToken_229 rfl (Nat.le_refl _) (Nat.le_refl _) ?_
      refine ⟨rfl, X, hY, ⟨s1, s2, ?_, ?_, fun z => ?_, fun z => ?_⟩, s6, hF⟩
      · rw [s4]
        unfold tkE
        rw [if_neg (by omega)]
      · rw [s3]
        unfold mtk
        rw [if_neg (by omega)]
      · unfold tok at z
        rw [if_neg (by omega)] at z
        exact absurd z (by decide)
      · unfold mtk at z
        rw [if_neg (by omega)] at z
        exact absurd z (by decide)
    · exact absurd b159 (by decide)
  · exact absurd (Int32.le_refl _) b127
set_option maxRecDepth 100000 in
set_option maxHeartbeats 4000000 in
theorem n_num2 {G : mj_G} {h0 : mj_H} {d l i : Nat} {τ : Nat → Nat → Int32} {X0 : Nat → Int32} (hl : l ≤ 120) (hi : i ≤ l) (hd : 1 ≤ d) (hil : i < l) (hg : dg (τ 5 i)) (h2 : endF (τ 5) l i - i ≤ 2) {h : mj_H} {X : Nat → Int32} (hY : YS G h (u2 τ 12 X)) (hS : nS l i (endF (τ 5) l i) 0 (mv (τ 5) i (endF (τ 5) l i - i)) X0 X) (hF : mj_fr 220 13 h0 h) : mj_wp G MX5_nextToken d 0 0 119 [some (.ref (G.1 + 220))] [] h 0 0 (fun v h' => v = none ∧ ∃ X', YS G h' (u2 τ 12 X') ∧ tS (τ 5) l X' i ∧ (∀ k, k < 4 ∨ 8 ≤ k → X' k = X0 k) ∧ mj_fr 220 13 h0 h') := by
  obtain ⟨s1, s2, s3, s4, s5, s6⟩ := id hS
  obtain ⟨y0, y1, y2, y3, y4, y5, y6, y7, y8, y9, y10, y11, y12⟩ := id hY
  replace y0 : h.2 220 = YO G (X) := y0
  replace y6 : h.2 226 = mj_ar 0 120 (τ 5) := y6
  have he1 := endF_d hil hg
  have he2 := endF_le (f := τ 5) hi
  refine s_aload_n (n := 120) (i := 0) dX5_nextToken_119 rfl rfl rfl ?_
  refine gf_X5_82 (n := 123) rfl dX5_nextToken_120 rfl (by assumption) (by rfl) ?_
  refine s_aload_n (n := 124) (i := 0) dX5_nextToken_123 rfl rfl rfl ?_
  refine gf_X5_85 (n := 127) rfl dX5_nextToken_124 rfl (by assumption) (by rfl) ?_
  rw [s4, s2]
  refine s_icmp_le (n := 130) (tgt := 155) dX5_nextToken_127 rfl rfl (fun b127 => ?_) (fun b127 => ?_)
  · exact absurd ((nI_leE (by omega) (by omega)).mp b127) (by omega)
  · refine s_aload_n (n := 131) (i := 0) dX5_nextToken_130 rfl rfl rfl ?_
    refine s_aload_n (n := 132) (i := 0) dX5_nextToken_131 rfl rfl rfl ?_
    refine gf_X5_82 (n := 135) rfl dX5_nextToken_132 rfl (by assumption) (by rfl) ?_
    refine s_aload_n (n := 136) (i := 0) dX5_nextToken_135 rfl rfl rfl ?_
    refine gf_X5_85 (n := 139) rfl dX5_nextToken_136 rfl (by assumption) (by rfl) ?_
    rw [s4, s2]
    refine s_isub (n := 140) dX5_nextToken_139 rfl ?_
    rw [nI_sub (by omega)]
    refine s_iconst (n := 141) (v := 2) dX5_nextToken_140 rfl (by decide) ?_
    refine s_icmp_le (n := 144) (tgt := 148) dX5_nextToken_141 rfl rfl (fun b141 => ?_) (fun b141 => ?_)
    · refine s_iconst (n := 149) (v := 2) dX5_nextToken_148 rfl (by decide) ?_
      refine pf_X5_88 (n := 152) (fs' := [_, _, _, _, _, _, _, _, _, _, _, _, _, _, _, _, _, _, _, _, _, _, _]) rfl dX5_nextToken_149 rfl (by assumption) (by rfl) (by rfl) ?_
      refine YF_5 (τ := u2 τ 12 X) hY (fun h1 hY1 hF1 => ?_)
      rw [u2_u2, u2_eq] at hY1
      refine s_goto (tgt := 229) dX5_nextToken_152 rfl ?_
      refine s_return dX5_nextToken_229 rfl (Nat.le_refl _) (Nat.le_refl _) ?_
      refine ⟨rfl, _, hY1, ⟨(up_ne (by omega)).trans s1, (up_ne (by omega)).trans s2, ?_, ?_, fun z => ?_, fun z => ?_⟩, fun k hk => (up_ne (by omega)).trans (s6 k hk), fr_tr hF hF1⟩
      · rw [up_ne (by omega), s4]
        unfold tkE
        rw [if_pos hil, if_pos hg]
      · rw [up_eq]
        unfold mtk
        rw [if_pos hil, if_pos hg, if_pos h2]
      · rw [up_ne (by omega), s5]
        exact mv_rv hg (by omega) h2
      · unfold mtk at z
        rw [if_pos hil, if_pos hg, if_pos h2] at z
        exact absurd z (by decide)
    · exact absurd ((nI_leE (b := 2) (by omega) (by omega)).mpr h2) b141
set_option maxRecDepth 100000 in
set_option maxHeartbeats 4000000 in
theorem n_num0 {G : mj_G} {h0 : mj_H} {d l i : Nat} {τ : Nat → Nat → Int32} {X0 : Nat → Int32} (hl : l ≤ 120) (hi : i ≤ l) (hd : 1 ≤ d) (hil : i < l) (hg : dg (τ 5 i)) (h2 : ¬ endF (τ 5) l i - i ≤ 2) {h : mj_H} {X : Nat → Int32} (hY : YS G h (u2 τ 12 X)) (hS : nS l i (endF (τ 5) l i) 0 (mv (τ 5) i (endF (τ 5) l i - i)) X0 X) (hF : mj_fr 220 13 h0 h) : mj_wp G MX5_nextToken d 0 0 119 [some (.ref (G.1 + 220))] [] h 0 0 (fun v h' => v = none ∧ ∃ X', YS G h' (u2 τ 12 X') ∧ tS (τ 5) l X' i ∧ (∀ k, k < 4 ∨ 8 ≤ k → X' k = X0 k) ∧ mj_fr 220 13 h0 h') := by
  obtain ⟨s1, s2, s3, s4, s5, s6⟩ := id hS
  obtain ⟨y0, y1, y2, y3, y4, y5, y6, y7, y8, y9, y10, y11, y12⟩ := id hY
  replace y0 : h.2 220 = YO G (X) := y0
  replace y6 : h.2 226 = mj_ar 0 120 (τ 5) := y6
  have he1 := endF_d hil hg
  have he2 := endF_le (f := τ 5) hi
  refine s_aload_n (n := 120) (i := 0) dX5_nextToken_119 rfl rfl rfl ?_
  refine gf_X5_82 (n := 123) rfl dX5_nextToken_120 rfl (by assumption) (by rfl) ?_
  refine s_aload_n (n := 124) (i := 0) dX5_nextToken_123 rfl rfl rfl ?_
  refine gf_X5_85 (n := 127) rfl dX5_nextToken_124 rfl (by assumption) (by rfl) ?_
  rw [s4, s2]
  refine s_icmp_le (n := 130) (tgt := 155) dX5_nextToken_127 rfl rfl (fun b127 => ?_) (fun b127 => ?_)
  · exact absurd ((nI_leE (by omega) (by omega)).mp b127) (by omega)
  · refine s_aload_n (n := 131) (i := 0) dX5_nextToken_130 rfl rfl rfl ?_
    refine s_aload_n (n := 132) (i := 0) dX5_nextToken_131 rfl rfl rfl ?_
    refine gf_X5_82 (n := 135) rfl dX5_nextToken_132 rfl (by assumption) (by rfl) ?_
    refine s_aload_n (n := 136) (i := 0) dX5_nextToken_135 rfl rfl rfl ?_
    refine gf_X5_85 (n := 139) rfl dX5_nextToken_136 rfl (by assumption) (by rfl) ?_
    rw [s4, s2]
    refine s_isub (n := 140) dX5_nextToken_139 rfl ?_
    rw [nI_sub (by omega)]
    refine s_iconst (n := 141) (v := 2) dX5_nextToken_140 rfl (by decide) ?_
    refine s_icmp_le (n := 144) (tgt := 148) dX5_nextToken_141 rfl rfl (fun b141 => ?_) (fun b141 => ?_)
    · exact absurd ((nI_leE (b := 2) (by omega) (by omega)).mp b141) h2
    · refine s_iconst (n := 145) (v := 0) dX5_nextToken_144 rfl (by decide) ?_
      refine s_goto (tgt := 149) dX5_nextToken_145 rfl ?_
      refine pf_X5_88 (n := 152) (fs' := [_, _, _, _, _, _, _, _, _, _, _, _, _, _, _, _, _, _, _, _, _, _, _]) rfl dX5_nextToken_149 rfl (by assumption) (by rfl) (by rfl) ?_
      refine YF_5 (τ := u2 τ 12 X) hY (fun h1 hY1 hF1 => ?_)
      rw [u2_u2, u2_eq] at hY1
      refine s_goto (tgt := 229) dX5_nextToken_152 rfl ?_
      refine s_return dX5_nextToken_229 rfl (Nat.le_refl _) (Nat.le_refl _) ?_
      refine ⟨rfl, _, hY1, ⟨(up_ne (by omega)).trans s1, (up_ne (by omega)).trans s2, ?_, ?_, fun z => ?_, fun z => ?_⟩, fun k hk => (up_ne (by omega)).trans (s6 k hk), fr_tr hF hF1⟩
      · rw [up_ne (by omega), s4]
        unfold tkE
        rw [if_pos hil, if_pos hg]
      · rw [up_eq]
        unfold mtk
        rw [if_pos hil, if_pos hg, if_neg h2]
      · unfold tok at z
        rw [if_pos hil, if_pos hg, if_neg h2] at z
        exact absurd z (by decide)
      · unfold mtk at z
        rw [if_pos hil, if_pos hg, if_neg h2] at z
        exact absurd z (by decide)
set_option maxRecDepth 100000 in
set_option maxHeartbeats 4000000 in
theorem n_let {G : mj_G} {h0 : mj_H} {d l i : Nat} {τ : Nat → Nat → Int32} {X0 : Nat → Int32} (hl : l ≤ 120) (hi : i ≤ l) (hd : 1 ≤ d) (hb : bts (τ 5) l) (hil : i < l) (hg : ¬ dg (τ 5 i)) {h : mj_H} {X : Nat → Int32} (hY : YS G h (u2 τ 12 X)) (hS : nS l i (endF (τ 5) l i) 0 (mv (τ 5) i (endF (τ 5) l i - i)) X0 X) (hF : mj_fr 220 13 h0 h) : mj_wp G MX5_nextToken d 0 0 119 [some (.ref (G.1 + 220))] [] h 0 0 (fun v h' => v = none ∧ ∃ X', YS G h' (u2 τ 12 X') ∧ tS (τ 5) l X' i ∧ (∀ k, k < 4 ∨ 8 ≤ k → X' k = X0 k) ∧ mj_fr 220 13 h0 h') := by
  obtain ⟨s1, s2, s3, s4, s5, s6⟩ := id hS
  obtain ⟨y0, y1, y2, y3, y4, y5, y6, y7, y8, y9, y10, y11, y12⟩ := id hY
  replace y0 : h.2 220 = YO G (X) := y0
  replace y6 : h.2 226 = mj_ar 0 120 (τ 5) := y6
  rw [endF_n (fun z => hg z.2)] at s4
  refine s_aload_n (n := 120) (i := 0) dX5_nextToken_119 rfl rfl rfl ?_
  refine gf_X5_82 (n := 123) rfl dX5_nextToken_120 rfl (by assumption) (by rfl) ?_
  refine s_aload_n (n := 124) (i := 0) dX5_nextToken_123 rfl rfl rfl ?_
  refine gf_X5_85 (n := 127) rfl dX5_nextToken_124 rfl (by assumption) (by rfl) ?_
  rw [s4, s2]
  refine s_icmp_le (n := 130) (tgt := 155) dX5_nextToken_127 rfl rfl (fun b127 => ?_) (fun b127 => ?_)
  · refine s_aload_n (n := 156) (i := 0) dX5_nextToken_155 rfl rfl rfl ?_
    refine gf_X5_88 (n := 159) rfl dX5_nextToken_156 rfl (by assumption) (by rfl) ?_
    rw [s3]
    refine s_if_ne (n := 162) (tgt := 229) dX5_nextToken_159 rfl rfl (fun b159 => ?_) (fun b159 => ?_)
    · exact absurd rfl b159
    · refine s_aload_n (n := 163) (i := 0) dX5_nextToken_162 rfl rfl rfl ?_
      refine s_aload_n (n := 164) (i := 0) dX5_nextToken_163 rfl rfl rfl ?_
      refine gf_X5_25 (n := 167) rfl dX5_nextToken_164 rfl (by assumption) (by rfl) ?_
      refine s_aload_n (n := 168) (i := 0) dX5_nextToken_167 rfl rfl rfl ?_
      refine gf_X5_82 (n := 171) rfl dX5_nextToken_168 rfl (by assumption) (by rfl) ?_
      rw [s4]
      refine s_iald (n := 172) dX5_nextToken_171 rfl (by assumption) (mj_ixn (by omega)) ?_
      refine pf_X5_91 (n := 175) (fs' := [_, _, _, _, _, _, _, _, _, _, _, _, _, _, _, _, _, _, _, _, _, _, _]) rfl dX5_nextToken_172 rfl (by assumption) (by rfl) (by rfl) ?_
      refine YF_6 (τ := u2 τ 12 X) hY (fun h1 hY1 hF1 => ?_)
      rw [u2_u2, u2_eq] at hY1
      obtain ⟨y0, y1, y2, y3, y4, y5, y6, y7, y8, y9, y10, y11, y12⟩ := id hY1
      replace y0 : h1.2 220 = YO G (upd X 6 (τ 5 i)) := y0
      replace y6 : h1.2 226 = mj_ar 0 120 (τ 5) := y6
      refine s_aload_n (n := 176) (i := 0) dX5_nextToken_175 rfl rfl rfl ?_
      refine s_aload_n (n := 177) (i := 0) dX5_nextToken_176 rfl rfl rfl ?_
      refine gf_X5_91 (n := 180) rfl dX5_nextToken_177 rfl (by assumption) (by rfl) ?_
      rw [up_eq]
      refine s_i2l (n := 181) dX5_nextToken_180 rfl ?_
      refine s_ldc2 (n := 184) dX5_nextToken_181 rfl wd_X5_98 ?_
      refine s_ldc2 (n := 187) dX5_nextToken_184 rfl wd_X5_100 ?_
      refine s_s3 (M' := MX5_in) (n := 190) dX5_nextToken_187 rfl wd_X5_54 okX5_in rfl (by omega) ⟨Nat.le_refl _, Nat.le_refl _⟩ (y_in (d := d - 1) (A := 97) (B := 122) (by decide) (by decide)) ?_
      rintro v187 hh187 ⟨rfl, rfl⟩
      refine s_if_ne (n := 193) (tgt := 211) dX5_nextToken_190 rfl rfl (fun b190 => ?_) (fun b190 => ?_)
      · have hq : (if lt (τ 5 i) then (1 : Int32) else 0) = 1 := if_pos (Or.inl (if1 b190))
        refine s_iconst (n := 212) (v := 1) dX5_nextToken_211 rfl (by decide) ?_
        refine s_goto (tgt := 216) dX5_nextToken_212 rfl ?_
        refine pf_X5_88 (n := 219) (fs' := [_, _, _, _, _, _, _, _, _, _, _, _, _, _, _, _, _, _, _, _, _, _, _]) rfl dX5_nextToken_216 rfl (by assumption) (by rfl) (by rfl) ?_
        rw [← hq]
        refine YF_5 (τ := u2 τ 12 (upd X 6 (τ 5 i))) hY1 (fun h2 hY2 hF2 => ?_)
        rw [u2_u2, u2_eq] at hY2
        obtain ⟨y0, y1, y2, y3, y4, y5, y6, y7, y8, y9, y10, y11, y12⟩ := id hY2
        replace y0 : h2.2 220 = YO G (upd (upd X 6 (τ 5 i)) 5 (if lt (τ 5 i) then (1 : Int32) else 0)) := y0
        have s4b : (upd (upd X 6 (τ 5 i)) 5 (if lt (τ 5 i) then (1 : Int32) else 0)) 4 = nI i := by
          rw [up_ne (by omega), up_ne (by omega)]
          exact s4
        refine s_aload_n (n := 220) (i := 0) dX5_nextToken_219 rfl rfl rfl ?_
        refine s_dup (n := 221) dX5_nextToken_220 rfl rfl ?_
        refine gf_X5_82 (n := 224) rfl dX5_nextToken_221 rfl (by assumption) (by rfl) ?_
        rw [s4b]
        refine s_iconst (n := 225) (v := 1) dX5_nextToken_224 rfl (by decide) ?_
        refine s_iadd (n := 226) dX5_nextToken_225 rfl ?_
        rw [nI_1]
        refine pf_X5_82 (n := 229) (fs' := [_, _, _, _, _, _, _, _, _, _, _, _, _, _, _, _, _, _, _, _, _, _, _]) rfl dX5_nextToken_226 rfl (by assumption) (by rfl) (by rfl) ?_
        refine YF_4 (τ := u2 τ 12 (upd (upd X 6 (τ 5 i)) 5 (if lt (τ 5 i) then (1 : Int32) else 0))) hY2 (fun h3 hY3 hF3 => ?_)
        rw [u2_u2, u2_eq] at hY3
        refine s_return dX5_nextToken_229 rfl (Nat.le_refl _) (Nat.le_refl _) ?_
        refine ⟨rfl, _, hY3, ⟨?_, ?_, ?_, ?_, fun z => ?_, fun z => ?_⟩, fun k hk => ?_, fr_tr hF (fr_tr hF1 (fr_tr hF2 hF3))⟩
        · rw [up_ne (by omega), up_ne (by omega), up_ne (by omega)]; exact s1
        · rw [up_ne (by omega), up_ne (by omega), up_ne (by omega)]; exact s2
        · rw [up_eq]
          unfold tkE
          rw [if_pos hil, if_neg hg]
        · rw [up_ne (by omega), up_eq]
          unfold mtk
          rw [if_pos hil, if_neg hg]
        · unfold tok at z
          rw [if_pos hil, if_neg hg] at z
          have := (hb i hil).2
          rw [z] at this
          exact absurd this (by decide)
        · rw [up_ne (by omega), up_ne (by omega), up_eq]
        · rw [up_ne (by omega), up_ne (by omega), up_ne (by omega)]; exact s6 k hk
      · refine s_aload_n (n := 194) (i := 0) dX5_nextToken_193 rfl rfl rfl ?_
        refine gf_X5_91 (n := 197) rfl dX5_nextToken_194 rfl (by assumption) (by rfl) ?_
        rw [up_eq]
        refine s_bipush (n := 199) (v := 44) dX5_nextToken_197 rfl (by decide) ?_
        refine s_icmp_eq (n := 202) (tgt := 211) dX5_nextToken_199 rfl rfl (fun b199 => ?_) (fun b199 => ?_)
        · have hq : (if lt (τ 5 i) then (1 : Int32) else 0) = 1 := if_pos (Or.inr (Or.inl b199))
          refine s_iconst (n := 212) (v := 1) dX5_nextToken_211 rfl (by decide) ?_
          refine s_goto (tgt := 216) dX5_nextToken_212 rfl ?_
          refine pf_X5_88 (n := 219) (fs' := [_, _, _, _, _, _, _, _, _, _, _, _, _, _, _, _, _, _, _, _, _, _, _]) rfl dX5_nextToken_216 rfl (by assumption) (by rfl) (by rfl) ?_
          rw [← hq]
          refine YF_5 (τ := u2 τ 12 (upd X 6 (τ 5 i))) hY1 (fun h2 hY2 hF2 => ?_)
          rw [u2_u2, u2_eq] at hY2
          obtain ⟨y0, y1, y2, y3, y4, y5, y6, y7, y8, y9, y10, y11, y12⟩ := id hY2
          replace y0 : h2.2 220 = YO G (upd (upd X 6 (τ 5 i)) 5 (if lt (τ 5 i) then (1 : Int32) else 0)) := y0
          have s4b : (upd (upd X 6 (τ 5 i)) 5 (if lt (τ 5 i) then (1 : Int32) else 0)) 4 = nI i := by
            rw [up_ne (by omega), up_ne (by omega)]
            exact s4
          refine s_aload_n (n := 220) (i := 0) dX5_nextToken_219 rfl rfl rfl ?_
          refine s_dup (n := 221) dX5_nextToken_220 rfl rfl ?_
          refine gf_X5_82 (n := 224) rfl dX5_nextToken_221 rfl (by assumption) (by rfl) ?_
          rw [s4b]
          refine s_iconst (n := 225) (v := 1) dX5_nextToken_224 rfl (by decide) ?_
          refine s_iadd (n := 226) dX5_nextToken_225 rfl ?_
          rw [nI_1]
          refine pf_X5_82 (n := 229) (fs' := [_, _, _, _, _, _, _, _, _, _, _, _, _, _, _, _, _, _, _, _, _, _, _]) rfl dX5_nextToken_226 rfl (by assumption) (by rfl) (by rfl) ?_
          refine YF_4 (τ := u2 τ 12 (upd (upd X 6 (τ 5 i)) 5 (if lt (τ 5 i) then (1 : Int32) else 0))) hY2 (fun h3 hY3 hF3 => ?_)
          rw [u2_u2, u2_eq] at hY3
          refine s_return dX5_nextToken_229 rfl (Nat.le_refl _) (Nat.le_refl _) ?_
          refine ⟨rfl, _, hY3, ⟨?_, ?_, ?_, ?_, fun z => ?_, fun z => ?_⟩, fun k hk => ?_, fr_tr hF (fr_tr hF1 (fr_tr hF2 hF3))⟩
          · rw [up_ne (by omega), up_ne (by omega), up_ne (by omega)]; exact s1
          · rw [up_ne (by omega), up_ne (by omega), up_ne (by omega)]; exact s2
          · rw [up_eq]
            unfold tkE
            rw [if_pos hil, if_neg hg]
          · rw [up_ne (by omega), up_eq]
            unfold mtk
            rw [if_pos hil, if_neg hg]
          · unfold tok at z
            rw [if_pos hil, if_neg hg] at z
            have := (hb i hil).2
            rw [z] at this
            exact absurd this (by decide)
          · rw [up_ne (by omega), up_ne (by omega), up_eq]
          · rw [up_ne (by omega), up_ne (by omega), up_ne (by omega)]; exact s6 k hk
        · refine s_aload_n (n := 203) (i := 0) dX5_nextToken_202 rfl rfl rfl ?_
          refine gf_X5_91 (n := 206) rfl dX5_nextToken_203 rfl (by assumption) (by rfl) ?_
          rw [up_eq]
          refine s_bipush (n := 208) (v := 59) dX5_nextToken_206 rfl (by decide) ?_
          refine s_icmp_ne (n := 211) (tgt := 215) dX5_nextToken_208 rfl rfl (fun b208 => ?_) (fun b208 => ?_)
          · have hq : (if lt (τ 5 i) then (1 : Int32) else 0) = 0 := if_neg (fun z => z.elim (if0 b190) (fun y => y.elim b199 b208))
            refine s_iconst (n := 216) (v := 0) dX5_nextToken_215 rfl (by decide) ?_
            refine pf_X5_88 (n := 219) (fs' := [_, _, _, _, _, _, _, _, _, _, _, _, _, _, _, _, _, _, _, _, _, _, _]) rfl dX5_nextToken_216 rfl (by assumption) (by rfl) (by rfl) ?_
            rw [← hq]
            refine YF_5 (τ := u2 τ 12 (upd X 6 (τ 5 i))) hY1 (fun h2 hY2 hF2 => ?_)
            rw [u2_u2, u2_eq] at hY2
            obtain ⟨y0, y1, y2, y3, y4, y5, y6, y7, y8, y9, y10, y11, y12⟩ := id hY2
            replace y0 : h2.2 220 = YO G (upd (upd X 6 (τ 5 i)) 5 (if lt (τ 5 i) then (1 : Int32) else 0)) := y0
            have s4b : (upd (upd X 6 (τ 5 i)) 5 (if lt (τ 5 i) then (1 : Int32) else 0)) 4 = nI i := by
              rw [up_ne (by omega), up_ne (by omega)]
              exact s4
            refine s_aload_n (n := 220) (i := 0) dX5_nextToken_219 rfl rfl rfl ?_
            refine s_dup (n := 221) dX5_nextToken_220 rfl rfl ?_
            refine gf_X5_82 (n := 224) rfl dX5_nextToken_221 rfl (by assumption) (by rfl) ?_
            rw [s4b]
            refine s_iconst (n := 225) (v := 1) dX5_nextToken_224 rfl (by decide) ?_
            refine s_iadd (n := 226) dX5_nextToken_225 rfl ?_
            rw [nI_1]
            refine pf_X5_82 (n := 229) (fs' := [_, _, _, _, _, _, _, _, _, _, _, _, _, _, _, _, _, _, _, _, _, _, _]) rfl dX5_nextToken_226 rfl (by assumption) (by rfl) (by rfl) ?_
            refine YF_4 (τ := u2 τ 12 (upd (upd X 6 (τ 5 i)) 5 (if lt (τ 5 i) then (1 : Int32) else 0))) hY2 (fun h3 hY3 hF3 => ?_)
            rw [u2_u2, u2_eq] at hY3
            refine s_return dX5_nextToken_229 rfl (Nat.le_refl _) (Nat.le_refl _) ?_
            refine ⟨rfl, _, hY3, ⟨?_, ?_, ?_, ?_, fun z => ?_, fun z => ?_⟩, fun k hk => ?_, fr_tr hF (fr_tr hF1 (fr_tr hF2 hF3))⟩
            · rw [up_ne (by omega), up_ne (by omega), up_ne (by omega)]; exact s1
            · rw [up_ne (by omega), up_ne (by omega), up_ne (by omega)]; exact s2
            · rw [up_eq]
              unfold tkE
              rw [if_pos hil, if_neg hg]
            · rw [up_ne (by omega), up_eq]
              unfold mtk
              rw [if_pos hil, if_neg hg]
            · unfold tok at z
              rw [if_pos hil, if_neg hg] at z
              have := (hb i hil).2
              rw [z] at this
              exact absurd this (by decide)
            · rw [up_ne (by omega), up_ne (by omega), up_eq]
            · rw [up_ne (by omega), up_ne (by omega), up_ne (by omega)]; exact s6 k hk
          · have hq : (if lt (τ 5 i) then (1 : Int32) else 0) = 1 := if_pos (Or.inr (Or.inr b208))
            refine s_iconst (n := 212) (v := 1) dX5_nextToken_211 rfl (by decide) ?_
            refine s_goto (tgt := 216) dX5_nextToken_212 rfl ?_
            refine pf_X5_88 (n := 219) (fs' := [_, _, _, _, _, _, _, _, _, _, _, _, _, _, _, _, _, _, _, _, _, _, _]) rfl dX5_nextToken_216 rfl (by assumption) (by rfl) (by rfl) ?_
            rw [← hq]
            refine YF_5 (τ := u2 τ 12 (upd X 6 (τ 5 i))) hY1 (fun h2 hY2 hF2 => ?_)
            rw [u2_u2, u2_eq] at hY2
            obtain ⟨y0, y1, y2, y3, y4, y5, y6, y7, y8, y9, y10, y11, y12⟩ := id hY2
            replace y0 : h2.2 220 = YO G (upd (upd X 6 (τ 5 i)) 5 (if lt (τ 5 i) then (1 : Int32) else 0)) := y0
            have s4b : (upd (upd X 6 (τ 5 i)) 5 (if lt (τ 5 i) then (1 : Int32) else 0)) 4 = nI i := by
              rw [up_ne (by omega), up_ne (by omega)]
              exact s4
            refine s_aload_n (n := 220) (i := 0) dX5_nextToken_219 rfl rfl rfl ?_
            refine s_dup (n := 221) dX5_nextToken_220 rfl rfl ?_
            refine gf_X5_82 (n := 224) rfl dX5_nextToken_221 rfl (by assumption) (by rfl) ?_
            rw [s4b]
            refine s_iconst (n := 225) (v := 1) dX5_nextToken_224 rfl (by decide) ?_
            refine s_iadd (n := 226) dX5_nextToken_225 rfl ?_
            rw [nI_1]
            refine pf_X5_82 (n := 229) (fs' := [_, _, _, _, _, _, _, _, _, _, _, _, _, _, _, _, _, _, _, _, _, _, _]) rfl dX5_nextToken_226 rfl (by assumption) (by rfl) (by rfl) ?_
            refine YF_4 (τ := u2 τ 12 (upd (upd X 6 (τ 5 i)) 5 (if lt (τ 5 i) then (1 : Int32) else 0))) hY2 (fun h3 hY3 hF3 => ?_)
            rw [u2_u2, u2_eq] at hY3
            refine s_return dX5_nextToken_229 rfl (Nat.le_refl _) (Nat.le_refl _) ?_
            refine ⟨rfl, _, hY3, ⟨?_, ?_, ?_, ?_, fun z => ?_, fun z => ?_⟩, fun k hk => ?_, fr_tr hF (fr_tr hF1 (fr_tr hF2 hF3))⟩
            · rw [up_ne (by omega), up_ne (by omega), up_ne (by omega)]; exact s1
            · rw [up_ne (by omega), up_ne (by omega), up_ne (by omega)]; exact s2
            · rw [up_eq]
              unfold tkE
              rw [if_pos hil, if_neg hg]
            · rw [up_ne (by omega), up_eq]
              unfold mtk
              rw [if_pos hil, if_neg hg]
            · unfold tok at z
              rw [if_pos hil, if_neg hg] at z
              have := (hb i hil).2
              rw [z] at this
              exact absurd this (by decide)
            · rw [up_ne (by omega), up_ne (by omega), up_eq]
            · rw [up_ne (by omega), up_ne (by omega), up_ne (by omega)]; exact s6 k hk
  · exact absurd (Int32.le_refl _) b127
set_option maxRecDepth 100000 in
set_option maxHeartbeats 4000000 in
set_option maxRecDepth 100000 in
set_option maxHeartbeats 4000000 in
theorem y_next {G : mj_G} {h : mj_H} {d : Nat} {l i : Nat} {τ : Nat → Nat → Int32} {X0 : Nat → Int32} (hY : YS G h (u2 τ 12 X0)) (e2 : X0 2 = nI l) (e4 : X0 4 = nI i) (hl : l ≤ 120) (hi : i ≤ l) (hb : bts (τ 5) l) (hd : 1 ≤ d) : mj_con G MX5_nextToken d 0 0 [.ref (G.1 + 220)] h (fun v h' => v = none ∧ ∃ X', YS G h' (u2 τ 12 X') ∧ tS (τ 5) l X' i ∧ (∀ k, k < 4 ∨ 8 ≤ k → X' k = X0 k) ∧ mj_fr 220 13 h h') := by
  refine mj_conV okX5_nextToken (ls := [some (.ref (G.1 + 220))]) rfl rfl ?_
  obtain ⟨y0, y1, y2, y3, y4, y5, y6, y7, y8, y9, y10, y11, y12⟩ := id hY
  replace y0 : h.2 220 = YO G (X0) := y0
  refine s_aload_n (n := 1) (i := 0) dX5_nextToken_0 rfl rfl rfl ?_
  refine s_aload_n (n := 2) (i := 0) dX5_nextToken_1 rfl rfl rfl ?_
  refine gf_X5_82 (n := 5) rfl dX5_nextToken_2 rfl (by assumption) (by rfl) ?_
  rw [e4]
  refine pf_X5_85 (n := 8) (fs' := [_, _, _, _, _, _, _, _, _, _, _, _, _, _, _, _, _, _, _, _, _, _, _]) rfl dX5_nextToken_5 rfl (by assumption) (by rfl) (by rfl) ?_
  refine YF_7 (τ := u2 τ 12 X0) hY (fun h1 hY1 hF1 => ?_)
  rw [u2_u2, u2_eq] at hY1
  obtain ⟨y0, y1, y2, y3, y4, y5, y6, y7, y8, y9, y10, y11, y12⟩ := id hY1
  replace y0 : h1.2 220 = YO G (upd X0 7 (nI i)) := y0
  have f4 : (upd X0 7 (nI i)) 4 = nI i := (up_ne (by omega)).trans e4
  have f2 : (upd X0 7 (nI i)) 2 = nI l := (up_ne (by omega)).trans e2
  refine s_aload_n (n := 9) (i := 0) dX5_nextToken_8 rfl rfl rfl ?_
  refine s_aload_n (n := 10) (i := 0) dX5_nextToken_9 rfl rfl rfl ?_
  refine gf_X5_82 (n := 13) rfl dX5_nextToken_10 rfl (by assumption) (by rfl) ?_
  refine s_aload_n (n := 14) (i := 0) dX5_nextToken_13 rfl rfl rfl ?_
  refine gf_X5_78 (n := 17) rfl dX5_nextToken_14 rfl (by assumption) (by rfl) ?_
  rw [f4, f2]
  refine s_icmp_ne (n := 20) (tgt := 24) dX5_nextToken_17 rfl rfl (fun b17 => ?_) (fun b17 => ?_)
  · have hne : i < l := by
      have hnn : i ≠ l := fun z => b17 (congrArg nI z)
      omega
    refine s_iconst (n := 25) (v := 0) dX5_nextToken_24 rfl (by decide) ?_
    refine pf_X5_88 (n := 28) (fs' := [_, _, _, _, _, _, _, _, _, _, _, _, _, _, _, _, _, _, _, _, _, _, _]) rfl dX5_nextToken_25 rfl (by assumption) (by rfl) (by rfl) ?_
    refine YF_5 (τ := u2 τ 12 (upd X0 7 (nI i))) hY1 (fun h2 hY2 hF2 => ?_)
    rw [u2_u2, u2_eq] at hY2
    replace y0 : h2.2 220 = YO G _ := hY2.1
    refine s_aload_n (n := 29) (i := 0) dX5_nextToken_28 rfl rfl rfl ?_
    refine s_iconst (n := 30) (v := 0) dX5_nextToken_29 rfl (by decide) ?_
    refine pf_X5_91 (n := 33) (fs' := [_, _, _, _, _, _, _, _, _, _, _, _, _, _, _, _, _, _, _, _, _, _, _]) rfl dX5_nextToken_30 rfl (by assumption) (by rfl) (by rfl) ?_
    refine YF_6 (τ := u2 τ 12 _) hY2 (fun h3 hY3 hF3 => ?_)
    rw [u2_u2, u2_eq] at hY3
    refine l_nt (X0 := X0) (i := i) (t := 0) hl (by omega) (l - i) i (by omega) (Nat.le_refl _) _ _ hY3 ?_ (fr_tr hF1 (fr_tr hF2 hF3)) (fun h4 X4 hY4 hS4 hF4 => ?_)
    · refine ⟨?_, ?_, ?_, ?_, ?_, fun k hk => ?_⟩
      · rw [up_ne (by omega), up_ne (by omega), up_ne (by omega)]; exact e2
      · rw [up_ne (by omega), up_ne (by omega), up_eq]
      · rw [up_ne (by omega), up_eq]
      · rw [up_ne (by omega), up_ne (by omega), up_ne (by omega)]; exact e4
      · rw [up_eq, Nat.sub_self]; rfl
      · rw [up_ne (by omega), up_ne (by omega), up_ne (by omega)]
    · by_cases hg : dg (τ 5 i)
      · by_cases h2 : endF (τ 5) l i - i ≤ 2
        · exact n_num2 hl hi (by omega) hne hg h2 hY4 hS4 hF4
        · exact n_num0 hl hi (by omega) hne hg h2 hY4 hS4 hF4
      · exact n_let hl hi (by omega) hb hne hg hY4 hS4 hF4
  · have heq : i = l := nI_inj (by omega) (by omega) b17
    refine s_iconst (n := 21) (v := 3) dX5_nextToken_20 rfl (by decide) ?_
    refine s_goto (tgt := 25) dX5_nextToken_21 rfl ?_
    refine pf_X5_88 (n := 28) (fs' := [_, _, _, _, _, _, _, _, _, _, _, _, _, _, _, _, _, _, _, _, _, _, _]) rfl dX5_nextToken_25 rfl (by assumption) (by rfl) (by rfl) ?_
    refine YF_5 (τ := u2 τ 12 (upd X0 7 (nI i))) hY1 (fun h2 hY2 hF2 => ?_)
    rw [u2_u2, u2_eq] at hY2
    replace y0 : h2.2 220 = YO G _ := hY2.1
    refine s_aload_n (n := 29) (i := 0) dX5_nextToken_28 rfl rfl rfl ?_
    refine s_iconst (n := 30) (v := 0) dX5_nextToken_29 rfl (by decide) ?_
    refine pf_X5_91 (n := 33) (fs' := [_, _, _, _, _, _, _, _, _, _, _, _, _, _, _, _, _, _, _, _, _, _, _]) rfl dX5_nextToken_30 rfl (by assumption) (by rfl) (by rfl) ?_
    refine YF_6 (τ := u2 τ 12 _) hY2 (fun h3 hY3 hF3 => ?_)
    rw [u2_u2, u2_eq] at hY3
    refine l_nt (X0 := X0) (i := i) (t := 3) hl (by omega) (l - i) i (by omega) (Nat.le_refl _) _ _ hY3 ?_ (fr_tr hF1 (fr_tr hF2 hF3)) (fun h4 X4 hY4 hS4 hF4 => ?_)
    · refine ⟨?_, ?_, ?_, ?_, ?_, fun k hk => ?_⟩
      · rw [up_ne (by omega), up_ne (by omega), up_ne (by omega)]; exact e2
      · rw [up_ne (by omega), up_ne (by omega), up_eq]
      · rw [up_ne (by omega), up_eq]
      · rw [up_ne (by omega), up_ne (by omega), up_ne (by omega)]; exact e4
      · rw [up_eq, Nat.sub_self]; rfl
      · rw [up_ne (by omega), up_ne (by omega), up_ne (by omega)]
    · exact n_end hl hi (by omega) heq hY4 hS4 hF4
