/-- letters of the document's text, as the model sees them -/
abbrev lt (c : Int32) : Prop := Wi c 97 122 ∨ c = 44 ∨ c = 59
def mtk (f : Nat → Int32) (l i : Nat) : Int32 := if i < l then (if dg (f i) then (if endF f l i - i ≤ 2 then 2 else 0) else (if lt (f i) then 1 else 0)) else 3
/-- the value of m figures from i on -/
def mv (f : Nat → Int32) (i : Nat) : Nat → Int32
  | 0 => 0
  | m + 1 => if mv f i m ≤ 99 then 10 * mv f i m + f (i + m) - 48 else mv f i m
/-- the model's scalars, a token read from i on -/
def tS (f : Nat → Int32) (l : Nat) (X : Nat → Int32) (i : Nat) : Prop := X 2 = nI l ∧ X 7 = nI i ∧ X 4 = nI (tkE f l i) ∧ X 5 = mtk f l i ∧ (tok f l i = 256 → X 6 = tkV f l i) ∧ (mtk f l i = 1 → X 6 = f i)
theorem dgW {c : Int32} : Wi c 48 57 ↔ dg c := by
  unfold dg Wi
  rw [i_le, i_le]
  exact Iff.rfl
/-- what nextToken has while it reads figures -/
def nS (l i q : Nat) (t v : Int32) (X0 X : Nat → Int32) : Prop := X 2 = nI l ∧ X 7 = nI i ∧ X 5 = t ∧ X 4 = nI q ∧ X 6 = v ∧ ∀ k, k < 4 ∨ 8 ≤ k → X k = X0 k
theorem nS_s {l i q : Nat} {t v v' : Int32} {X0 X : Nat → Int32} (h : nS l i q t v X0 X) : nS l i (q + 1) t v' X0 (upd (upd X 6 v') 4 (nI (q + 1))) := by
  obtain ⟨h1, h2, h3, h4, h5, h6⟩ := h
  refine ⟨?_, ?_, ?_, ?_, ?_, fun k hk => ?_⟩
  · rw [up_ne (by omega), up_ne (by omega)]; exact h1
  · rw [up_ne (by omega), up_ne (by omega)]; exact h2
  · rw [up_ne (by omega), up_ne (by omega)]; exact h3
  · rw [up_eq]
  · rw [up_ne (by omega), up_eq]
  · rw [up_ne (by omega), up_ne (by omega)]; exact h6 k hk
set_option maxRecDepth 100000 in
set_option maxHeartbeats 4000000 in
theorem l_nt {G : mj_G} {h0 : mj_H} {d l i : Nat} {t : Int32} {τ : Nat → Nat → Int32} {X0 : Nat → Int32} {Q : Option Value → mj_H → Prop} (hl : l ≤ 120) (hd : 1 ≤ d) : ∀ (r q : Nat), q + r = l → i ≤ q → ∀ (h : mj_H) (X : Nat → Int32), YS G h (u2 τ 12 X) → nS l i q t (mv (τ 5) i (q - i)) X0 X → mj_fr 220 13 h0 h → (∀ h' X', YS G h' (u2 τ 12 X') → nS l i (rnE (τ 5) l r q) t (mv (τ 5) i (rnE (τ 5) l r q - i)) X0 X' → mj_fr 220 13 h0 h' → mj_wp G MX5_nextToken d 0 0 119 [some (.ref (G.1 + 220))] [] h' 0 0 Q) → mj_wp G MX5_nextToken d 0 0 33 [some (.ref (G.1 + 220))] [] h 0 0 Q := by
  intro r
  induction r with
  | zero =>
    intro q hq hiq h X hY hS hF K
    obtain ⟨s1, s2, s3, s4, s5, s6⟩ := id hS
    obtain ⟨y0, y1, y2, y3, y4, y5, y6, y7, y8, y9, y10, y11, y12⟩ := id hY
    replace y0 : h.2 220 = YO G (X) := y0
    refine s_aload_n (n := 34) (i := 0) dX5_nextToken_33 rfl rfl rfl ?_
    refine gf_X5_82 (n := 37) rfl dX5_nextToken_34 rfl (by assumption) (by rfl) ?_
    refine s_aload_n (n := 38) (i := 0) dX5_nextToken_37 rfl rfl rfl ?_
    refine gf_X5_78 (n := 41) rfl dX5_nextToken_38 rfl (by assumption) (by rfl) ?_
    rw [s4, s1]
    refine s_icmp_ge (n := 44) (tgt := 119) dX5_nextToken_41 rfl rfl (fun b41 => ?_) (fun b41 => ?_)
    · exact K _ _ hY hS hF
    · exact absurd ((nI_leE (by omega) (by omega)).mpr (by omega)) b41
  | succ r ih =>
    intro q hq hiq h X hY hS hF K
    obtain ⟨s1, s2, s3, s4, s5, s6⟩ := id hS
    obtain ⟨y0, y1, y2, y3, y4, y5, y6, y7, y8, y9, y10, y11, y12⟩ := id hY
    replace y0 : h.2 220 = YO G (X) := y0
    replace y6 : h.2 226 = mj_ar 0 120 (τ 5) := y6
    refine s_aload_n (n := 34) (i := 0) dX5_nextToken_33 rfl rfl rfl ?_
    refine gf_X5_82 (n := 37) rfl dX5_nextToken_34 rfl (by assumption) (by rfl) ?_
    refine s_aload_n (n := 38) (i := 0) dX5_nextToken_37 rfl rfl rfl ?_
    refine gf_X5_78 (n := 41) rfl dX5_nextToken_38 rfl (by assumption) (by rfl) ?_
    rw [s4, s1]
    refine s_icmp_ge (n := 44) (tgt := 119) dX5_nextToken_41 rfl rfl (fun b41 => ?_) (fun b41 => ?_)
    · exact absurd ((nI_leE (by omega) (by omega)).mp b41) (by omega)
    · refine s_aload_n (n := 45) (i := 0) dX5_nextToken_44 rfl rfl rfl ?_
      refine gf_X5_25 (n := 48) rfl dX5_nextToken_45 rfl (by assumption) (by rfl) ?_
      refine s_aload_n (n := 49) (i := 0) dX5_nextToken_48 rfl rfl rfl ?_
      refine gf_X5_82 (n := 52) rfl dX5_nextToken_49 rfl (by assumption) (by rfl) ?_
      rw [s4]
      refine s_iald (n := 53) dX5_nextToken_52 rfl (by assumption) (mj_ixn (by omega)) ?_
      refine s_i2l (n := 54) dX5_nextToken_53 rfl ?_
      refine s_ldc2 (n := 57) dX5_nextToken_54 rfl wd_X5_94 ?_
      refine s_ldc2 (n := 60) dX5_nextToken_57 rfl wd_X5_96 ?_
      refine s_s3 (M' := MX5_in) (n := 63) dX5_nextToken_60 rfl wd_X5_54 okX5_in rfl (by omega) ⟨Nat.le_refl _, Nat.le_refl _⟩ (y_in (d := d - 1) (A := 48) (B := 57) (by decide) (by decide)) ?_
      rintro v60 hh60 ⟨rfl, rfl⟩
      refine s_if_eq (n := 66) (tgt := 119) dX5_nextToken_63 rfl rfl (fun b63 => ?_) (fun b63 => ?_)
      · have q0 : ¬ dg (τ 5 q) := fun z => if0 b63 (dgW.mpr z)
        rw [show rnE (τ 5) l (r + 1) q = q from if_neg (fun z => q0 z.2)] at K
        exact K _ _ hY hS hF
      · have q0 : dg (τ 5 q) := dgW.mp (if1 b63)
        rw [show rnE (τ 5) l (r + 1) q = rnE (τ 5) l r (q + 1) from if_pos ⟨by omega, q0⟩] at K
        refine s_aload_n (n := 67) (i := 0) dX5_nextToken_66 rfl rfl rfl ?_
        refine s_aload_n (n := 68) (i := 0) dX5_nextToken_67 rfl rfl rfl ?_
        refine gf_X5_91 (n := 71) rfl dX5_nextToken_68 rfl (by assumption) (by rfl) ?_
        refine s_bipush (n := 73) (v := 99) dX5_nextToken_71 rfl (by decide) ?_
        rw [s5]
        refine s_icmp_le (n := 76) (tgt := 83) dX5_nextToken_73 rfl rfl (fun b73 => ?_) (fun b73 => ?_)
        · have hv : (if mv (τ 5) i (q - i) ≤ 99 then 10 * mv (τ 5) i (q - i) + τ 5 q - 48 else mv (τ 5) i (q - i)) = 10 * mv (τ 5) i (q - i) + τ 5 q - 48 := if_pos b73
          refine s_bipush (n := 85) (v := 10) dX5_nextToken_83 rfl (by decide) ?_
          refine s_aload_n (n := 86) (i := 0) dX5_nextToken_85 rfl rfl rfl ?_
          refine gf_X5_91 (n := 89) rfl dX5_nextToken_86 rfl (by assumption) (by rfl) ?_
          rw [s5]
          refine s_imul (n := 90) dX5_nextToken_89 rfl ?_
          refine s_aload_n (n := 91) (i := 0) dX5_nextToken_90 rfl rfl rfl ?_
          refine gf_X5_25 (n := 94) rfl dX5_nextToken_91 rfl (by assumption) (by rfl) ?_
          refine s_aload_n (n := 95) (i := 0) dX5_nextToken_94 rfl rfl rfl ?_
          refine gf_X5_82 (n := 98) rfl dX5_nextToken_95 rfl (by assumption) (by rfl) ?_
          rw [s4]
          refine s_iald (n := 99) dX5_nextToken_98 rfl (by assumption) (mj_ixn (by omega)) ?_
          refine s_iadd (n := 100) dX5_nextToken_99 rfl ?_
          refine s_bipush (n := 102) (v := 48) dX5_nextToken_100 rfl (by decide) ?_
          refine s_isub (n := 103) dX5_nextToken_102 rfl ?_
          refine pf_X5_91 (n := 106) (fs' := [_, _, _, _, _, _, _, _, _, _, _, _, _, _, _, _, _, _, _, _, _, _, _]) rfl dX5_nextToken_103 rfl (by assumption) (by rfl) (by rfl) ?_
          rw [← hv]
          refine YF_6 (τ := u2 τ 12 X) hY (fun h1 hY1 hF1 => ?_)
          rw [u2_u2] at hY1
          obtain ⟨y0, y1, y2, y3, y4, y5, y6, y7, y8, y9, y10, y11, y12⟩ := id hY1
          replace y0 : h1.2 220 = YO G (upd X 6 (if mv (τ 5) i (q - i) ≤ 99 then 10 * mv (τ 5) i (q - i) + τ 5 q - 48 else mv (τ 5) i (q - i))) := y0
          have s4b : (upd X 6 (if mv (τ 5) i (q - i) ≤ 99 then 10 * mv (τ 5) i (q - i) + τ 5 q - 48 else mv (τ 5) i (q - i))) 4 = nI q := (up_ne (by omega)).trans s4
          refine s_aload_n (n := 107) (i := 0) dX5_nextToken_106 rfl rfl rfl ?_
          refine s_dup (n := 108) dX5_nextToken_107 rfl rfl ?_
          refine gf_X5_82 (n := 111) rfl dX5_nextToken_108 rfl (by assumption) (by rfl) ?_
          refine s_iconst (n := 112) (v := 1) dX5_nextToken_111 rfl (by decide) ?_
          refine s_iadd (n := 113) dX5_nextToken_112 rfl ?_
          refine pf_X5_82 (n := 116) (fs' := [_, _, _, _, _, _, _, _, _, _, _, _, _, _, _, _, _, _, _, _, _, _, _]) rfl dX5_nextToken_113 rfl (by assumption) (by rfl) (by rfl) ?_
          rw [s4b, nI_1]
          refine YF_4 (τ := u2 τ 12 (upd X 6 (if mv (τ 5) i (q - i) ≤ 99 then 10 * mv (τ 5) i (q - i) + τ 5 q - 48 else mv (τ 5) i (q - i)))) hY1 (fun h2 hY2 hF2 => ?_)
          rw [u2_u2] at hY2
          refine s_goto (tgt := 33) dX5_nextToken_116 rfl ?_
          refine ih (q + 1) (by omega) (by omega) h2 _ hY2 ?_ (fr_tr hF (fr_tr hF1 hF2)) K
          rw [show q + 1 - i = (q - i) + 1 from by omega]
          have e : mv (τ 5) i (q - i + 1) = (if mv (τ 5) i (q - i) ≤ 99 then 10 * mv (τ 5) i (q - i) + τ 5 q - 48 else mv (τ 5) i (q - i)) := by
            show (if _ then _ else _) = _
            rw [show i + (q - i) = q from by omega]
          rw [e]
          exact nS_s hS
        · have hv : (if mv (τ 5) i (q - i) ≤ 99 then 10 * mv (τ 5) i (q - i) + τ 5 q - 48 else mv (τ 5) i (q - i)) = mv (τ 5) i (q - i) := if_neg b73
          refine s_aload_n (n := 77) (i := 0) dX5_nextToken_76 rfl rfl rfl ?_
          refine gf_X5_91 (n := 80) rfl dX5_nextToken_77 rfl (by assumption) (by rfl) ?_
          rw [s5]
          refine s_goto (tgt := 103) dX5_nextToken_80 rfl ?_
          refine pf_X5_91 (n := 106) (fs' := [_, _, _, _, _, _, _, _, _, _, _, _, _, _, _, _, _, _, _, _, _, _, _]) rfl dX5_nextToken_103 rfl (by assumption) (by rfl) (by rfl) ?_
          rw [← hv]
          refine YF_6 (τ := u2 τ 12 X) hY (fun h1 hY1 hF1 => ?_)
          rw [u2_u2] at hY1
          obtain ⟨y0, y1, y2, y3, y4, y5, y6, y7, y8, y9, y10, y11, y12⟩ := id hY1
          replace y0 : h1.2 220 = YO G (upd X 6 (if mv (τ 5) i (q - i) ≤ 99 then 10 * mv (τ 5) i (q - i) + τ 5 q - 48 else mv (τ 5) i (q - i))) := y0
          have s4b : (upd X 6 (if mv (τ 5) i (q - i) ≤ 99 then 10 * mv (τ 5) i (q - i) + τ 5 q - 48 else mv (τ 5) i (q - i))) 4 = nI q := (up_ne (by omega)).trans s4
          refine s_aload_n (n := 107) (i := 0) dX5_nextToken_106 rfl rfl rfl ?_
          refine s_dup (n := 108) dX5_nextToken_107 rfl rfl ?_
          refine gf_X5_82 (n := 111) rfl dX5_nextToken_108 rfl (by assumption) (by rfl) ?_
          refine s_iconst (n := 112) (v := 1) dX5_nextToken_111 rfl (by decide) ?_
          refine s_iadd (n := 113) dX5_nextToken_112 rfl ?_
          refine pf_X5_82 (n := 116) (fs' := [_, _, _, _, _, _, _, _, _, _, _, _, _, _, _, _, _, _, _, _, _, _, _]) rfl dX5_nextToken_113 rfl (by assumption) (by rfl) (by rfl) ?_
          rw [s4b, nI_1]
          refine YF_4 (τ := u2 τ 12 (upd X 6 (if mv (τ 5) i (q - i) ≤ 99 then 10 * mv (τ 5) i (q - i) + τ 5 q - 48 else mv (τ 5) i (q - i)))) hY1 (fun h2 hY2 hF2 => ?_)
          rw [u2_u2] at hY2
          refine s_goto (tgt := 33) dX5_nextToken_116 rfl ?_
          refine ih (q + 1) (by omega) (by omega) h2 _ hY2 ?_ (fr_tr hF (fr_tr hF1 hF2)) K
          rw [show q + 1 - i = (q - i) + 1 from by omega]
          have e : mv (τ 5) i (q - i + 1) = (if mv (τ 5) i (q - i) ≤ 99 then 10 * mv (τ 5) i (q - i) + τ 5 q - 48 else mv (τ 5) i (q - i)) := by
            show (if _ then _ else _) = _
            rw [show i + (q - i) = q from by omega]
          rw [e]
          exact nS_s hS
