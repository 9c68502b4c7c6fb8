/-! the tape's tokens -/
abbrev dg (c : Int32) : Prop := 48 ≤ c ∧ c ≤ 57
def rnE (f : Nat → Int32) (l : Nat) : Nat → Nat → Nat
  | 0, e => e
  | r + 1, e => if e < l ∧ dg (f e) then rnE f l r (e + 1) else e
def endF (f : Nat → Int32) (l i : Nat) : Nat := rnE f l (l - i) i
def rvF (f : Nat → Int32) (i : Nat) : Nat → Int32
  | 0 => 0
  | k + 1 => if k < 2 then rvF f i k * 10 + f (i + k) - 48 else rvF f i k
def tok (f : Nat → Int32) (l i : Nat) : Int32 := if i < l then (if dg (f i) then (if endF f l i - i ≤ 2 then 256 else 257) else f i) else 258
def tkE (f : Nat → Int32) (l i : Nat) : Nat := if i < l then (if dg (f i) then endF f l i else i + 1) else i
def tkV (f : Nat → Int32) (l i : Nat) : Int32 := rvF f i (endF f l i - i)
def tokS (f : Nat → Int32) (l : Nat) (g : Nat → Int32) (i : Nat) : Prop := g 0 = nI l ∧ g 1 = nI i ∧ g 3 = nI (tkE f l i) ∧ g 4 = tok f l i ∧ (tok f l i = 256 → g 5 = tkV f l i)
theorem rnE_le {f : Nat → Int32} {l : Nat} : ∀ (r e : Nat), e + r = l → e ≤ rnE f l r e ∧ rnE f l r e ≤ l
  | 0, e, h => ⟨Nat.le_refl _, by show e ≤ l; omega⟩
  | r + 1, e, h => by
    unfold rnE
    split
    · have := rnE_le (f := f) (l := l) r (e + 1) (by omega)
      omega
    · omega
theorem tkE_le {f : Nat → Int32} {l i : Nat} (h : i ≤ l) : i ≤ tkE f l i ∧ tkE f l i ≤ l := by
  unfold tkE endF
  split
  · split
    · exact rnE_le (l - i) i (by omega)
    · omega
  · omega
def bts (f : Nat → Int32) (l : Nat) : Prop := ∀ k, k < l → Wi (f k) 0 255
theorem TpS_q {G : mj_G} {h : mj_H} {f g : Nat → Int32} (hS : TpS G h f g) : TpS G h f g := hS
set_option maxRecDepth 100000 in
set_option maxHeartbeats 4000000 in
theorem c_isFigure {G : mj_G} {h : mj_H} {d : Nat} {c : Int32} : mj_con G MX3_isFigure d 0 0 [.int c] h (rI (if dg c then 1 else 0) h) := by
  refine mj_conS okX3_isFigure (ls := [some (.int c)]) rfl rfl ?_
  refine s_iload_n (n := 1) (i := 0) dX3_isFigure_0 rfl rfl rfl ?_
  refine s_bipush (n := 3) (v := 48) dX3_isFigure_1 rfl (by decide) ?_
  refine s_icmp_lt (n := 6) (tgt := 16) dX3_isFigure_3 rfl rfl (fun b3 => ?_) (fun b3 => ?_)
  · refine s_iconst (n := 17) (v := 0) dX3_isFigure_16 rfl (by decide) ?_
    refine s_ireturn dX3_isFigure_17 rfl (rfl) (Nat.le_refl _) (Nat.le_refl _) ?_
    refine rI_ok ?_
    unfold dg
    simp only [i_le, i_lt] at *
    split <;> first | rfl | (exfalso; omega)
  · refine s_iload_n (n := 7) (i := 0) dX3_isFigure_6 rfl rfl rfl ?_
    refine s_bipush (n := 9) (v := 57) dX3_isFigure_7 rfl (by decide) ?_
    refine s_icmp_gt (n := 12) (tgt := 16) dX3_isFigure_9 rfl rfl (fun b9 => ?_) (fun b9 => ?_)
    · refine s_iconst (n := 17) (v := 0) dX3_isFigure_16 rfl (by decide) ?_
      refine s_ireturn dX3_isFigure_17 rfl (rfl) (Nat.le_refl _) (Nat.le_refl _) ?_
      refine rI_ok ?_
      unfold dg
      simp only [i_le, i_lt] at *
      split <;> first | rfl | (exfalso; omega)
    · refine s_iconst (n := 13) (v := 1) dX3_isFigure_12 rfl (by decide) ?_
      refine s_goto (tgt := 17) dX3_isFigure_13 rfl ?_
      refine s_ireturn dX3_isFigure_17 rfl (rfl) (Nat.le_refl _) (Nat.le_refl _) ?_
      refine rI_ok ?_
      unfold dg
      simp only [i_le, i_lt] at *
      split <;> first | rfl | (exfalso; omega)
set_option maxRecDepth 100000 in
set_option maxHeartbeats 4000000 in
theorem l_figures {G : mj_G} {h0 : mj_H} {d l i : Nat} {f : Nat → Int32} {x2 x6 : Int32} (hl : l ≤ 120) (hd : 1 ≤ d) : ∀ (r e : Nat), e + r = l → i ≤ e → ∀ (h : mj_H) (g : Nat → Int32) (x4 : Int32), TpS G h f g → g 0 = nI l → g 1 = nI i → g 2 = x2 → g 3 = nI e → g 4 = x4 → g 5 = rvF f i (e - i) → g 6 = x6 → mj_fr 2 2 h0 h → mj_wp G MX3_readFigures d 0 0 5 [some (.ref (G.1 + 2))] [] h 0 0 (fun v h' => v = none ∧ ∃ g', TpS G h' f g' ∧ mj_fr 2 2 h0 h' ∧ g' 0 = nI l ∧ g' 1 = nI i ∧ g' 2 = x2 ∧ g' 3 = nI (rnE f l r e) ∧ g' 4 = (if rnE f l r e - i ≤ 2 then 256 else 257) ∧ g' 5 = rvF f i (rnE f l r e - i) ∧ g' 6 = x6) := by
  intro r
  induction r with
  | zero =>
    intro e hi hie h g x4 hS q0 q1 q2 q3 q4 q5 q6 hF
    obtain ⟨t2, t3⟩ := id hS
    show mj_wp G MX3_readFigures d 0 0 5 _ _ h 0 0 (fun v h' => v = none ∧ ∃ g', TpS G h' f g' ∧ mj_fr 2 2 h0 h' ∧ g' 0 = nI l ∧ g' 1 = nI i ∧ g' 2 = x2 ∧ g' 3 = nI (e) ∧ g' 4 = (if e - i ≤ 2 then 256 else 257) ∧ g' 5 = rvF f i (e - i) ∧ g' 6 = x6)
    refine s_aload_n (n := 6) (i := 0) dX3_readFigures_5 rfl rfl rfl ?_
    refine gf_X3_19 (n := 9) rfl dX3_readFigures_6 rfl (by assumption) (by rfl) ?_
    rw [q3]
    refine s_aload_n (n := 10) (i := 0) dX3_readFigures_9 rfl rfl rfl ?_
    refine gf_X3_15 (n := 13) rfl dX3_readFigures_10 rfl (by assumption) (by rfl) ?_
    rw [q0]
    refine s_icmp_ge (n := 16) (tgt := 88) dX3_readFigures_13 rfl rfl (fun b13 => ?_) (fun b13 => ?_)
    · refine s_aload_n (n := 89) (i := 0) dX3_readFigures_88 rfl rfl rfl ?_
      refine s_aload_n (n := 90) (i := 0) dX3_readFigures_89 rfl rfl rfl ?_
      refine gf_X3_19 (n := 93) rfl dX3_readFigures_90 rfl (by assumption) (by rfl) ?_
      rw [q3]
      refine s_aload_n (n := 94) (i := 0) dX3_readFigures_93 rfl rfl rfl ?_
      refine gf_X3_77 (n := 97) rfl dX3_readFigures_94 rfl (by assumption) (by rfl) ?_
      rw [q1]
      refine s_isub (n := 98) dX3_readFigures_97 rfl ?_
      rw [pk_sub (by omega)]
      refine s_iconst (n := 99) (v := 2) dX3_readFigures_98 rfl (by decide) ?_
      refine s_icmp_gt (n := 102) (tgt := 108) dX3_readFigures_99 rfl rfl (fun b99 => ?_) (fun b99 => ?_)
      · have q : ¬ e - i ≤ 2 := by
          have := (nI_ltE (a := 2) (by omega) (by omega)).mp b99
          omega
        refine s_sipush (n := 111) (v := 257) dX3_readFigures_108 rfl (by decide) ?_
        refine pf_X3_35 (n := 114) (fs' := [_, _, _, _, _, _, _, _]) rfl dX3_readFigures_111 rfl (by assumption) (by rfl) (by rfl) ?_
        refine TP_4 hS (fun h40 hS40 hF40 => ?_)
        replace q0 : upd g 4 (257) 0 = _ := q0
        replace q1 : upd g 4 (257) 1 = _ := q1
        replace q2 : upd g 4 (257) 2 = _ := q2
        replace q3 : upd g 4 (257) 3 = _ := q3
        replace q4 : upd g 4 (257) 4 = 257 := rfl
        replace q5 : upd g 4 (257) 5 = _ := q5
        replace q6 : upd g 4 (257) 6 = _ := q6
        generalize upd g 4 (257) = g at hS40 q0 q1 q2 q3 q4 q5 q6
        replace hS := hS40
        obtain ⟨t2, t3⟩ := id hS
        replace hF := fr_tr hF hF40
        refine s_return dX3_readFigures_114 rfl (Nat.le_refl _) (Nat.le_refl _) ?_
        refine ⟨rfl, g, hS, hF, q0, q1, q2, q3, ?_, q5, q6⟩
        rw [q4]
        first | rw [if_pos q] | rw [if_neg q]
      · have q : e - i ≤ 2 := by
          apply Nat.not_lt.mp
          intro z
          exact b99 ((nI_ltE (a := 2) (by omega) (by omega)).mpr z)
        refine s_sipush (n := 105) (v := 256) dX3_readFigures_102 rfl (by decide) ?_
        refine s_goto (tgt := 111) dX3_readFigures_105 rfl ?_
        refine pf_X3_35 (n := 114) (fs' := [_, _, _, _, _, _, _, _]) rfl dX3_readFigures_111 rfl (by assumption) (by rfl) (by rfl) ?_
        refine TP_4 hS (fun h40 hS40 hF40 => ?_)
        replace q0 : upd g 4 (256) 0 = _ := q0
        replace q1 : upd g 4 (256) 1 = _ := q1
        replace q2 : upd g 4 (256) 2 = _ := q2
        replace q3 : upd g 4 (256) 3 = _ := q3
        replace q4 : upd g 4 (256) 4 = 256 := rfl
        replace q5 : upd g 4 (256) 5 = _ := q5
        replace q6 : upd g 4 (256) 6 = _ := q6
        generalize upd g 4 (256) = g at hS40 q0 q1 q2 q3 q4 q5 q6
        replace hS := hS40
        obtain ⟨t2, t3⟩ := id hS
        replace hF := fr_tr hF hF40
        refine s_return dX3_readFigures_114 rfl (Nat.le_refl _) (Nat.le_refl _) ?_
        refine ⟨rfl, g, hS, hF, q0, q1, q2, q3, ?_, q5, q6⟩
        rw [q4]
        first | rw [if_pos q] | rw [if_neg q]
    · exact absurd ((nI_leE (by omega) (by omega)).mpr (by omega)) b13
  | succ r ih =>
    intro e hi hie h g x4 hS q0 q1 q2 q3 q4 q5 q6 hF
    obtain ⟨t2, t3⟩ := id hS
    refine s_aload_n (n := 6) (i := 0) dX3_readFigures_5 rfl rfl rfl ?_
    refine gf_X3_19 (n := 9) rfl dX3_readFigures_6 rfl (by assumption) (by rfl) ?_
    rw [q3]
    refine s_aload_n (n := 10) (i := 0) dX3_readFigures_9 rfl rfl rfl ?_
    refine gf_X3_15 (n := 13) rfl dX3_readFigures_10 rfl (by assumption) (by rfl) ?_
    rw [q0]
    refine s_icmp_ge (n := 16) (tgt := 88) dX3_readFigures_13 rfl rfl (fun b13 => ?_) (fun b13 => ?_)
    · exact absurd ((nI_leE (by omega) (by omega)).mp b13) (by omega)
    · refine s_aload_n (n := 17) (i := 0) dX3_readFigures_16 rfl rfl rfl ?_
      refine gf_X3_9 (n := 20) rfl dX3_readFigures_17 rfl (by assumption) (by rfl) ?_
      refine s_aload_n (n := 21) (i := 0) dX3_readFigures_20 rfl rfl rfl ?_
      refine gf_X3_19 (n := 24) rfl dX3_readFigures_21 rfl (by assumption) (by rfl) ?_
      rw [q3]
      refine s_iald (n := 25) dX3_readFigures_24 rfl (by assumption) (mj_ixn (by omega)) ?_
      refine s_s1 (M' := MX3_isFigure) (n := 28) dX3_readFigures_25 rfl wd_X3_80 okX3_isFigure rfl (by omega) ⟨Nat.le_refl _, Nat.le_refl _⟩ (c_isFigure (d := d - 1)) ?_
      rintro v25 hh25 ⟨rfl, rfl⟩
      refine s_if_eq (n := 31) (tgt := 88) dX3_readFigures_28 rfl rfl (fun b28 => ?_) (fun b28 => ?_)
      · have e0 : rnE f l (r + 1) e = e := if_neg (fun z => if0 b28 z.2)
        rw [e0]
        refine s_aload_n (n := 89) (i := 0) dX3_readFigures_88 rfl rfl rfl ?_
        refine s_aload_n (n := 90) (i := 0) dX3_readFigures_89 rfl rfl rfl ?_
        refine gf_X3_19 (n := 93) rfl dX3_readFigures_90 rfl (by assumption) (by rfl) ?_
        rw [q3]
        refine s_aload_n (n := 94) (i := 0) dX3_readFigures_93 rfl rfl rfl ?_
        refine gf_X3_77 (n := 97) rfl dX3_readFigures_94 rfl (by assumption) (by rfl) ?_
        rw [q1]
        refine s_isub (n := 98) dX3_readFigures_97 rfl ?_
        rw [pk_sub (by omega)]
        refine s_iconst (n := 99) (v := 2) dX3_readFigures_98 rfl (by decide) ?_
        refine s_icmp_gt (n := 102) (tgt := 108) dX3_readFigures_99 rfl rfl (fun b99 => ?_) (fun b99 => ?_)
        · have q : ¬ e - i ≤ 2 := by
            have := (nI_ltE (a := 2) (by omega) (by omega)).mp b99
            omega
          refine s_sipush (n := 111) (v := 257) dX3_readFigures_108 rfl (by decide) ?_
          refine pf_X3_35 (n := 114) (fs' := [_, _, _, _, _, _, _, _]) rfl dX3_readFigures_111 rfl (by assumption) (by rfl) (by rfl) ?_
          refine TP_4 hS (fun h40 hS40 hF40 => ?_)
          replace q0 : upd g 4 (257) 0 = _ := q0
          replace q1 : upd g 4 (257) 1 = _ := q1
          replace q2 : upd g 4 (257) 2 = _ := q2
          replace q3 : upd g 4 (257) 3 = _ := q3
          replace q4 : upd g 4 (257) 4 = 257 := rfl
          replace q5 : upd g 4 (257) 5 = _ := q5
          replace q6 : upd g 4 (257) 6 = _ := q6
          generalize upd g 4 (257) = g at hS40 q0 q1 q2 q3 q4 q5 q6
          replace hS := hS40
          obtain ⟨t2, t3⟩ := id hS
          replace hF := fr_tr hF hF40
          refine s_return dX3_readFigures_114 rfl (Nat.le_refl _) (Nat.le_refl _) ?_
          refine ⟨rfl, g, hS, hF, q0, q1, q2, q3, ?_, q5, q6⟩
          rw [q4]
          first | rw [if_pos q] | rw [if_neg q]
        · have q : e - i ≤ 2 := by
            apply Nat.not_lt.mp
            intro z
            exact b99 ((nI_ltE (a := 2) (by omega) (by omega)).mpr z)
          refine s_sipush (n := 105) (v := 256) dX3_readFigures_102 rfl (by decide) ?_
          refine s_goto (tgt := 111) dX3_readFigures_105 rfl ?_
          refine pf_X3_35 (n := 114) (fs' := [_, _, _, _, _, _, _, _]) rfl dX3_readFigures_111 rfl (by assumption) (by rfl) (by rfl) ?_
          refine TP_4 hS (fun h40 hS40 hF40 => ?_)
          replace q0 : upd g 4 (256) 0 = _ := q0
          replace q1 : upd g 4 (256) 1 = _ := q1
          replace q2 : upd g 4 (256) 2 = _ := q2
          replace q3 : upd g 4 (256) 3 = _ := q3
          replace q4 : upd g 4 (256) 4 = 256 := rfl
          replace q5 : upd g 4 (256) 5 = _ := q5
          replace q6 : upd g 4 (256) 6 = _ := q6
          generalize upd g 4 (256) = g at hS40 q0 q1 q2 q3 q4 q5 q6
          replace hS := hS40
          obtain ⟨t2, t3⟩ := id hS
          replace hF := fr_tr hF hF40
          refine s_return dX3_readFigures_114 rfl (Nat.le_refl _) (Nat.le_refl _) ?_
          refine ⟨rfl, g, hS, hF, q0, q1, q2, q3, ?_, q5, q6⟩
          rw [q4]
          first | rw [if_pos q] | rw [if_neg q]
      · have e0 : rnE f l (r + 1) e = rnE f l r (e + 1) := if_pos ⟨by omega, if1 b28⟩
        have e1 : i + (e - i) = e := by omega
        have e2 : e + 1 - i = e - i + 1 := by omega
        refine s_aload_n (n := 32) (i := 0) dX3_readFigures_31 rfl rfl rfl ?_
        refine s_aload_n (n := 33) (i := 0) dX3_readFigures_32 rfl rfl rfl ?_
        refine gf_X3_19 (n := 36) rfl dX3_readFigures_33 rfl (by assumption) (by rfl) ?_
        rw [q3]
        refine s_aload_n (n := 37) (i := 0) dX3_readFigures_36 rfl rfl rfl ?_
        refine gf_X3_77 (n := 40) rfl dX3_readFigures_37 rfl (by assumption) (by rfl) ?_
        rw [q1]
        refine s_isub (n := 41) dX3_readFigures_40 rfl ?_
        rw [pk_sub (by omega)]
        refine s_iconst (n := 42) (v := 2) dX3_readFigures_41 rfl (by decide) ?_
        refine s_icmp_ge (n := 45) (tgt := 68) dX3_readFigures_42 rfl rfl (fun b42 => ?_) (fun b42 => ?_)
        · have q : ¬ e - i < 2 := by
            have := (nI_leE (a := 2) (by omega) (by omega)).mp b42
            omega
          have e3 : rvF f i (e - i) = rvF f i (e + 1 - i) := by
            rw [e2]
            exact (if_neg q).symm
          refine s_aload_n (n := 69) (i := 0) dX3_readFigures_68 rfl rfl rfl ?_
          refine gf_X3_70 (n := 72) rfl dX3_readFigures_69 rfl (by assumption) (by rfl) ?_
          rw [q5, e3]
          refine pf_X3_70 (n := 75) (fs' := [_, _, _, _, _, _, _, _]) rfl dX3_readFigures_72 rfl (by assumption) (by rfl) (by rfl) ?_
          refine TP_5 hS (fun h20 hS20 hF20 => ?_)
          replace q0 : upd g 5 (rvF f i (e + 1 - i)) 0 = _ := q0
          replace q1 : upd g 5 (rvF f i (e + 1 - i)) 1 = _ := q1
          replace q2 : upd g 5 (rvF f i (e + 1 - i)) 2 = _ := q2
          replace q3 : upd g 5 (rvF f i (e + 1 - i)) 3 = _ := q3
          replace q4 : upd g 5 (rvF f i (e + 1 - i)) 4 = _ := q4
          replace q5 : upd g 5 (rvF f i (e + 1 - i)) 5 = rvF f i (e + 1 - i) := rfl
          replace q6 : upd g 5 (rvF f i (e + 1 - i)) 6 = _ := q6
          generalize upd g 5 (rvF f i (e + 1 - i)) = g at hS20 q0 q1 q2 q3 q4 q5 q6
          replace hS := hS20
          obtain ⟨t2, t3⟩ := id hS
          replace hF := fr_tr hF hF20
          refine s_aload_n (n := 76) (i := 0) dX3_readFigures_75 rfl rfl rfl ?_
          refine s_dup (n := 77) dX3_readFigures_76 rfl rfl ?_
          refine gf_X3_19 (n := 80) rfl dX3_readFigures_77 rfl (by assumption) (by rfl) ?_
          rw [q3]
          refine s_iconst (n := 81) (v := 1) dX3_readFigures_80 rfl (by decide) ?_
          refine s_iadd (n := 82) dX3_readFigures_81 rfl ?_
          rw [nI_1]
          refine pf_X3_19 (n := 85) (fs' := [_, _, _, _, _, _, _, _]) rfl dX3_readFigures_82 rfl (by assumption) (by rfl) (by rfl) ?_
          refine TP_3 hS (fun h30 hS30 hF30 => ?_)
          replace q0 : upd g 3 (nI (e + 1)) 0 = _ := q0
          replace q1 : upd g 3 (nI (e + 1)) 1 = _ := q1
          replace q2 : upd g 3 (nI (e + 1)) 2 = _ := q2
          replace q3 : upd g 3 (nI (e + 1)) 3 = nI (e + 1) := rfl
          replace q4 : upd g 3 (nI (e + 1)) 4 = _ := q4
          replace q5 : upd g 3 (nI (e + 1)) 5 = _ := q5
          replace q6 : upd g 3 (nI (e + 1)) 6 = _ := q6
          generalize upd g 3 (nI (e + 1)) = g at hS30 q0 q1 q2 q3 q4 q5 q6
          replace hS := hS30
          obtain ⟨t2, t3⟩ := id hS
          replace hF := fr_tr hF hF30
          refine s_goto (tgt := 5) dX3_readFigures_85 rfl ?_
          rw [e0]
          exact ih (e + 1) (by omega) (by omega) _ g _ hS q0 q1 q2 q3 q4 q5 q6 hF
        · have q : e - i < 2 := by
            apply Nat.not_le.mp
            intro z
            exact b42 ((nI_leE (a := 2) (by omega) (by omega)).mpr z)
          have e3 : rvF f i (e - i) * 10 + f e - 48 = rvF f i (e + 1 - i) := by
            rw [e2]
            refine Eq.trans ?_ (if_pos q).symm
            rw [e1]
          refine s_aload_n (n := 46) (i := 0) dX3_readFigures_45 rfl rfl rfl ?_
          refine gf_X3_70 (n := 49) rfl dX3_readFigures_46 rfl (by assumption) (by rfl) ?_
          rw [q5]
          refine s_bipush (n := 51) (v := 10) dX3_readFigures_49 rfl (by decide) ?_
          refine s_imul (n := 52) dX3_readFigures_51 rfl ?_
          refine s_aload_n (n := 53) (i := 0) dX3_readFigures_52 rfl rfl rfl ?_
          refine gf_X3_9 (n := 56) rfl dX3_readFigures_53 rfl (by assumption) (by rfl) ?_
          refine s_aload_n (n := 57) (i := 0) dX3_readFigures_56 rfl rfl rfl ?_
          refine gf_X3_19 (n := 60) rfl dX3_readFigures_57 rfl (by assumption) (by rfl) ?_
          rw [q3]
          refine s_iald (n := 61) dX3_readFigures_60 rfl (by assumption) (mj_ixn (by omega)) ?_
          refine s_iadd (n := 62) dX3_readFigures_61 rfl ?_
          refine s_bipush (n := 64) (v := 48) dX3_readFigures_62 rfl (by decide) ?_
          refine s_isub (n := 65) dX3_readFigures_64 rfl ?_
          refine s_goto (tgt := 72) dX3_readFigures_65 rfl ?_
          rw [e3]
          refine pf_X3_70 (n := 75) (fs' := [_, _, _, _, _, _, _, _]) rfl dX3_readFigures_72 rfl (by assumption) (by rfl) (by rfl) ?_
          refine TP_5 hS (fun h20 hS20 hF20 => ?_)
          replace q0 : upd g 5 (rvF f i (e + 1 - i)) 0 = _ := q0
          replace q1 : upd g 5 (rvF f i (e + 1 - i)) 1 = _ := q1
          replace q2 : upd g 5 (rvF f i (e + 1 - i)) 2 = _ := q2
          replace q3 : upd g 5 (rvF f i (e + 1 - i)) 3 = _ := q3
          replace q4 : upd g 5 (rvF f i (e + 1 - i)) 4 = _ := q4
          replace q5 : upd g 5 (rvF f i (e + 1 - i)) 5 = rvF f i (e + 1 - i) := rfl
          replace q6 : upd g 5 (rvF f i (e + 1 - i)) 6 = _ := q6
          generalize upd g 5 (rvF f i (e + 1 - i)) = g at hS20 q0 q1 q2 q3 q4 q5 q6
          replace hS := hS20
          obtain ⟨t2, t3⟩ := id hS
          replace hF := fr_tr hF hF20
          refine s_aload_n (n := 76) (i := 0) dX3_readFigures_75 rfl rfl rfl ?_
          refine s_dup (n := 77) dX3_readFigures_76 rfl rfl ?_
          refine gf_X3_19 (n := 80) rfl dX3_readFigures_77 rfl (by assumption) (by rfl) ?_
          rw [q3]
          refine s_iconst (n := 81) (v := 1) dX3_readFigures_80 rfl (by decide) ?_
          refine s_iadd (n := 82) dX3_readFigures_81 rfl ?_
          rw [nI_1]
          refine pf_X3_19 (n := 85) (fs' := [_, _, _, _, _, _, _, _]) rfl dX3_readFigures_82 rfl (by assumption) (by rfl) (by rfl) ?_
          refine TP_3 hS (fun h30 hS30 hF30 => ?_)
          replace q0 : upd g 3 (nI (e + 1)) 0 = _ := q0
          replace q1 : upd g 3 (nI (e + 1)) 1 = _ := q1
          replace q2 : upd g 3 (nI (e + 1)) 2 = _ := q2
          replace q3 : upd g 3 (nI (e + 1)) 3 = nI (e + 1) := rfl
          replace q4 : upd g 3 (nI (e + 1)) 4 = _ := q4
          replace q5 : upd g 3 (nI (e + 1)) 5 = _ := q5
          replace q6 : upd g 3 (nI (e + 1)) 6 = _ := q6
          generalize upd g 3 (nI (e + 1)) = g at hS30 q0 q1 q2 q3 q4 q5 q6
          replace hS := hS30
          obtain ⟨t2, t3⟩ := id hS
          replace hF := fr_tr hF hF30
          refine s_goto (tgt := 5) dX3_readFigures_85 rfl ?_
          rw [e0]
          exact ih (e + 1) (by omega) (by omega) _ g _ hS q0 q1 q2 q3 q4 q5 q6 hF
set_option maxRecDepth 100000 in
set_option maxHeartbeats 4000000 in
theorem c_figures {G : mj_G} {h : mj_H} {d : Nat} {f g : Nat → Int32} (hS : TpS G h f g) {x2 x4 x5 x6 : Int32} {l : Nat} (q0 : g 0 = nI l) {i : Nat} (q1 : g 1 = nI i) (q2 : g 2 = x2) (q3 : g 3 = nI i) (q4 : g 4 = x4) (q5 : g 5 = x5) (q6 : g 6 = x6) (hl : l ≤ 120) (hi : i ≤ l) (hd : 1 ≤ d) : mj_con G MX3_readFigures d 0 0 [.ref (G.1 + 2)] h (fun v h' => v = none ∧ ∃ g', TpS G h' f g' ∧ mj_fr 2 2 h h' ∧ g' 0 = nI l ∧ g' 1 = nI i ∧ g' 2 = x2 ∧ g' 3 = nI (endF f l i) ∧ g' 4 = (if endF f l i - i ≤ 2 then 256 else 257) ∧ g' 5 = rvF f i (endF f l i - i) ∧ g' 6 = x6) := by
  refine mj_conV okX3_readFigures (ls := [some (.ref (G.1 + 2))]) rfl rfl ?_
  obtain ⟨t2, t3⟩ := id hS
  refine s_aload_n (n := 1) (i := 0) dX3_readFigures_0 rfl rfl rfl ?_
  refine s_iconst (n := 2) (v := 0) dX3_readFigures_1 rfl (by decide) ?_
  refine pf_X3_70 (n := 5) (fs' := [_, _, _, _, _, _, _, _]) rfl dX3_readFigures_2 rfl (by assumption) (by rfl) (by rfl) ?_
  refine TP_5 hS (fun h20 hS20 hF20 => ?_)
  replace q0 : upd g 5 (0) 0 = _ := q0
  replace q1 : upd g 5 (0) 1 = _ := q1
  replace q2 : upd g 5 (0) 2 = _ := q2
  replace q3 : upd g 5 (0) 3 = _ := q3
  replace q4 : upd g 5 (0) 4 = _ := q4
  replace q5 : upd g 5 (0) 5 = 0 := rfl
  replace q6 : upd g 5 (0) 6 = _ := q6
  generalize upd g 5 (0) = g at hS20 q0 q1 q2 q3 q4 q5 q6
  replace hS := hS20
  obtain ⟨t2, t3⟩ := id hS
  have hF := hF20
  exact l_figures hl hd (l - i) i (by omega) (Nat.le_refl _) _ g _ hS q0 q1 q2 q3 q4 (by rw [q5, Nat.sub_self]; rfl) q6 hF
theorem tok_end {f : Nat → Int32} {l i : Nat} (h : ¬ i < l) : tok f l i = 258 ∧ tkE f l i = i := ⟨if_neg h, if_neg h⟩
theorem tok_fig {f : Nat → Int32} {l i : Nat} (h : i < l) (hd : dg (f i)) : tok f l i = (if endF f l i - i ≤ 2 then 256 else 257) ∧ tkE f l i = endF f l i := by
  unfold tok tkE
  rw [if_pos h, if_pos hd, if_pos h, if_pos hd]
  exact ⟨rfl, rfl⟩
theorem tok_byte {f : Nat → Int32} {l i : Nat} (h : i < l) (hd : ¬ dg (f i)) : tok f l i = f i ∧ tkE f l i = i + 1 := by
  unfold tok tkE
  rw [if_pos h, if_neg hd, if_pos h, if_neg hd]
  exact ⟨rfl, rfl⟩
theorem byte_256 {c : Int32} (h : Wi c 0 255) : ¬ c = 256 := fun q => by
  have := h.2
  rw [q] at this
  exact absurd this (by decide)
set_option maxRecDepth 100000 in
set_option maxHeartbeats 4000000 in
theorem c_advance {G : mj_G} {h : mj_H} {d : Nat} {f g : Nat → Int32} (hS : TpS G h f g) {x1 x2 x4 x5 x6 : Int32} {l : Nat} (q0 : g 0 = nI l) (q1 : g 1 = x1) (q2 : g 2 = x2) {i : Nat} (q3 : g 3 = nI i) (q4 : g 4 = x4) (q5 : g 5 = x5) (q6 : g 6 = x6) (hl : l ≤ 120) (hb : bts f l) (hi : i ≤ l) (hd : 2 ≤ d) : mj_con G MX3_advance d 0 0 [.ref (G.1 + 2)] h (fun v h' => v = none ∧ ∃ g', TpS G h' f g' ∧ mj_fr 2 2 h h' ∧ tokS f l g' i ∧ g' 2 = x2 ∧ g' 6 = x6) := by
  refine mj_conV okX3_advance (ls := [some (.ref (G.1 + 2))]) rfl rfl ?_
  obtain ⟨t2, t3⟩ := id hS
  refine s_aload_n (n := 1) (i := 0) dX3_advance_0 rfl rfl rfl ?_
  refine s_aload_n (n := 2) (i := 0) dX3_advance_1 rfl rfl rfl ?_
  refine gf_X3_19 (n := 5) rfl dX3_advance_2 rfl (by assumption) (by rfl) ?_
  rw [q3]
  refine pf_X3_77 (n := 8) (fs' := [_, _, _, _, _, _, _, _]) rfl dX3_advance_5 rfl (by assumption) (by rfl) (by rfl) ?_
  refine TP_1 hS (fun h20 hS20 hF20 => ?_)
  replace q0 : upd g 1 (nI i) 0 = _ := q0
  replace q1 : upd g 1 (nI i) 1 = nI i := rfl
  replace q2 : upd g 1 (nI i) 2 = _ := q2
  replace q3 : upd g 1 (nI i) 3 = _ := q3
  replace q4 : upd g 1 (nI i) 4 = _ := q4
  replace q5 : upd g 1 (nI i) 5 = _ := q5
  replace q6 : upd g 1 (nI i) 6 = _ := q6
  generalize upd g 1 (nI i) = g at hS20 q0 q1 q2 q3 q4 q5 q6
  replace hS := hS20
  obtain ⟨t2, t3⟩ := id hS
  have hF := hF20
  refine s_aload_n (n := 9) (i := 0) dX3_advance_8 rfl rfl rfl ?_
  refine gf_X3_77 (n := 12) rfl dX3_advance_9 rfl (by assumption) (by rfl) ?_
  rw [q1]
  refine s_aload_n (n := 13) (i := 0) dX3_advance_12 rfl rfl rfl ?_
  refine gf_X3_15 (n := 16) rfl dX3_advance_13 rfl (by assumption) (by rfl) ?_
  rw [q0]
  refine s_icmp_lt (n := 19) (tgt := 29) dX3_advance_16 rfl rfl (fun b16 => ?_) (fun b16 => ?_)
  · have q := (nI_ltE (by omega) (by omega)).mp b16
    refine s_aload_n (n := 30) (i := 0) dX3_advance_29 rfl rfl rfl ?_
    refine gf_X3_9 (n := 33) rfl dX3_advance_30 rfl (by assumption) (by rfl) ?_
    refine s_aload_n (n := 34) (i := 0) dX3_advance_33 rfl rfl rfl ?_
    refine gf_X3_77 (n := 37) rfl dX3_advance_34 rfl (by assumption) (by rfl) ?_
    rw [q1]
    refine s_iald (n := 38) dX3_advance_37 rfl (by assumption) (mj_ixn (by omega)) ?_
    refine s_s1 (M' := MX3_isFigure) (n := 41) dX3_advance_38 rfl wd_X3_80 okX3_isFigure rfl (by omega) ⟨Nat.le_refl _, Nat.le_refl _⟩ (c_isFigure (d := d - 1)) ?_
    rintro v38 hh38 ⟨rfl, rfl⟩
    refine s_if_eq (n := 44) (tgt := 51) dX3_advance_41 rfl rfl (fun b41 => ?_) (fun b41 => ?_)
    · have z := if0 b41
      refine s_aload_n (n := 52) (i := 0) dX3_advance_51 rfl rfl rfl ?_
      refine s_aload_n (n := 53) (i := 0) dX3_advance_52 rfl rfl rfl ?_
      refine gf_X3_9 (n := 56) rfl dX3_advance_53 rfl (by assumption) (by rfl) ?_
      refine s_aload_n (n := 57) (i := 0) dX3_advance_56 rfl rfl rfl ?_
      refine gf_X3_77 (n := 60) rfl dX3_advance_57 rfl (by assumption) (by rfl) ?_
      rw [q1]
      refine s_iald (n := 61) dX3_advance_60 rfl (by assumption) (mj_ixn (by omega)) ?_
      refine pf_X3_35 (n := 64) (fs' := [_, _, _, _, _, _, _, _]) rfl dX3_advance_61 rfl (by assumption) (by rfl) (by rfl) ?_
      refine TP_4 hS (fun h22 hS22 hF22 => ?_)
      replace q0 : upd g 4 (f i) 0 = _ := q0
      replace q1 : upd g 4 (f i) 1 = _ := q1
      replace q2 : upd g 4 (f i) 2 = _ := q2
      replace q3 : upd g 4 (f i) 3 = _ := q3
      replace q4 : upd g 4 (f i) 4 = f i := rfl
      replace q5 : upd g 4 (f i) 5 = _ := q5
      replace q6 : upd g 4 (f i) 6 = _ := q6
      generalize upd g 4 (f i) = g at hS22 q0 q1 q2 q3 q4 q5 q6
      replace hS := hS22
      obtain ⟨t2, t3⟩ := id hS
      replace hF := fr_tr hF hF22
      refine s_aload_n (n := 65) (i := 0) dX3_advance_64 rfl rfl rfl ?_
      refine s_aload_n (n := 66) (i := 0) dX3_advance_65 rfl rfl rfl ?_
      refine gf_X3_77 (n := 69) rfl dX3_advance_66 rfl (by assumption) (by rfl) ?_
      rw [q1]
      refine s_iconst (n := 70) (v := 1) dX3_advance_69 rfl (by decide) ?_
      refine s_iadd (n := 71) dX3_advance_70 rfl ?_
      rw [nI_1]
      refine pf_X3_19 (n := 74) (fs' := [_, _, _, _, _, _, _, _]) rfl dX3_advance_71 rfl (by assumption) (by rfl) (by rfl) ?_
      refine TP_3 hS (fun h23 hS23 hF23 => ?_)
      replace q0 : upd g 3 (nI (i + 1)) 0 = _ := q0
      replace q1 : upd g 3 (nI (i + 1)) 1 = _ := q1
      replace q2 : upd g 3 (nI (i + 1)) 2 = _ := q2
      replace q3 : upd g 3 (nI (i + 1)) 3 = nI (i + 1) := rfl
      replace q4 : upd g 3 (nI (i + 1)) 4 = _ := q4
      replace q5 : upd g 3 (nI (i + 1)) 5 = _ := q5
      replace q6 : upd g 3 (nI (i + 1)) 6 = _ := q6
      generalize upd g 3 (nI (i + 1)) = g at hS23 q0 q1 q2 q3 q4 q5 q6
      replace hS := hS23
      obtain ⟨t2, t3⟩ := id hS
      replace hF := fr_tr hF hF23
      refine s_return dX3_advance_74 rfl (Nat.le_refl _) (Nat.le_refl _) ?_
      refine ⟨rfl, g, hS, hF, ⟨q0, q1, ?_, q4.trans (tok_byte q z).1.symm, fun y => ?_⟩, q2, q6⟩
      · rw [(tok_byte q z).2]; exact q3
      · rw [(tok_byte q z).1] at y; exact absurd y (byte_256 (hb i q))
    · have z := if1 b41
      refine s_aload_n (n := 45) (i := 0) dX3_advance_44 rfl rfl rfl ?_
      refine s_v0 (M' := MX3_readFigures) (n := 48) (ci := 3) dX3_advance_45 rfl wd_X3_83 okX3_readFigures rfl rfl (by omega) ⟨Nat.le_refl _, Nat.le_refl _⟩ (by assumption) (c_figures (d := d - 1) hS q0 q1 q2 q3 q4 q5 q6 hl hi (by omega)) ?_
      rintro v45 hh45 ⟨rfl, g2, k0, k1, k2, k3, k4, k5, k6, k7, k8⟩
      refine s_goto (tgt := 74) dX3_advance_48 rfl ?_
      refine s_return dX3_advance_74 rfl (Nat.le_refl _) (Nat.le_refl _) ?_
      refine ⟨rfl, g2, k0, fr_tr hF k1, ⟨k2, k3, ?_, k6.trans (tok_fig q z).1.symm, fun _ => k7⟩, k4, k8⟩
      rw [(tok_fig q z).2]
      exact k5
  · have q : ¬ i < l := fun z => b16 ((nI_ltE (by omega) (by omega)).mpr z)
    refine s_aload_n (n := 20) (i := 0) dX3_advance_19 rfl rfl rfl ?_
    refine s_sipush (n := 23) (v := 258) dX3_advance_20 rfl (by decide) ?_
    refine pf_X3_35 (n := 26) (fs' := [_, _, _, _, _, _, _, _]) rfl dX3_advance_23 rfl (by assumption) (by rfl) (by rfl) ?_
    refine TP_4 hS (fun h21 hS21 hF21 => ?_)
    replace q0 : upd g 4 (258) 0 = _ := q0
    replace q1 : upd g 4 (258) 1 = _ := q1
    replace q2 : upd g 4 (258) 2 = _ := q2
    replace q3 : upd g 4 (258) 3 = _ := q3
    replace q4 : upd g 4 (258) 4 = 258 := rfl
    replace q5 : upd g 4 (258) 5 = _ := q5
    replace q6 : upd g 4 (258) 6 = _ := q6
    generalize upd g 4 (258) = g at hS21 q0 q1 q2 q3 q4 q5 q6
    replace hS := hS21
    obtain ⟨t2, t3⟩ := id hS
    replace hF := fr_tr hF hF21
    refine s_goto (tgt := 74) dX3_advance_26 rfl ?_
    refine s_return dX3_advance_74 rfl (Nat.le_refl _) (Nat.le_refl _) ?_
    refine ⟨rfl, g, hS, hF, ⟨q0, q1, ?_, q4.trans (tok_end q).1.symm, fun y => ?_⟩, q2, q6⟩
    · rw [(tok_end q).2]; exact q3
    · rw [(tok_end q).1] at y; exact absurd y (by decide)
