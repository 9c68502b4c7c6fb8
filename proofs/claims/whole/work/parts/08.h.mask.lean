set_option maxRecDepth 100000 in
set_option maxHeartbeats 4000000 in
theorem y_status {G : mj_G} {h : mj_H} {d : Nat} {τ : Nat → Nat → Int32} (hY : YS G h τ) : mj_con G MX5_status d 0 0 [.ref (G.1 + 220)] h (rI (τ 12 0) h) := by
  refine mj_conV okX5_status (ls := [some (.ref (G.1 + 220))]) rfl rfl ?_
  obtain ⟨y0, y1, y2, y3, y4, y5, y6, y7, y8, y9, y10, y11, y12⟩ := id hY
  refine s_aload_n (n := 1) (i := 0) dX5_status_0 rfl rfl rfl ?_
  refine gf_X5_47 (n := 4) rfl dX5_status_1 rfl (by assumption) (by rfl) ?_
  refine s_ireturn dX5_status_4 rfl (rfl) (Nat.le_refl _) (Nat.le_refl _) ?_
  exact rI_ok rfl
set_option maxRecDepth 100000 in
set_option maxHeartbeats 4000000 in
theorem y_fault {G : mj_G} {h : mj_H} {d : Nat} {τ : Nat → Nat → Int32} (hY : YS G h τ) : mj_con G MX5_fault d 0 0 [.ref (G.1 + 220)] h (rI (τ 12 3) h) := by
  refine mj_conV okX5_fault (ls := [some (.ref (G.1 + 220))]) rfl rfl ?_
  obtain ⟨y0, y1, y2, y3, y4, y5, y6, y7, y8, y9, y10, y11, y12⟩ := id hY
  refine s_aload_n (n := 1) (i := 0) dX5_fault_0 rfl rfl rfl ?_
  refine gf_X5_128 (n := 4) rfl dX5_fault_1 rfl (by assumption) (by rfl) ?_
  refine s_ireturn dX5_fault_4 rfl (rfl) (Nat.le_refl _) (Nat.le_refl _) ?_
  exact rI_ok rfl
set_option maxRecDepth 100000 in
set_option maxHeartbeats 4000000 in
theorem y_kind_bad {G : mj_G} {h : mj_H} {d : Nat} {τ : Nat → Nat → Int32} (hY : YS G h τ) {n : Nat} (hn : τ 0 2 = nI n) (h7 : n ≤ 7) {x : Int32} (hb : ¬ Hs n x) (hd : 2 ≤ d) : mj_con G MX5_kind d 0 0 [.ref (G.1 + 220), .int x] h (rI (-1000001) h) := by
  refine mj_conV okX5_kind (ls := [some (.ref (G.1 + 220)), some (.int x)]) rfl rfl ?_
  obtain ⟨y0, y1, y2, y3, y4, y5, y6, y7, y8, y9, y10, y11, y12⟩ := id hY
  refine s_aload_n (n := 1) (i := 0) dX5_kind_0 rfl rfl rfl ?_
  refine s_iload_n (n := 2) (i := 1) dX5_kind_1 rfl rfl rfl ?_
  refine s_v1 (M' := MX5_isHouse) (n := 5) (ci := 5) dX5_kind_2 rfl wd_X5_155 okX5_isHouse rfl rfl (by omega) ⟨Nat.le_refl _, Nat.le_refl _⟩ (by assumption) (y_isHouse (d := d - 1) hY hn h7 (by omega)) ?_
  rintro v2 hh2 ⟨rfl, rfl⟩
  refine s_if_eq (n := 8) (tgt := 20) dX5_kind_5 rfl rfl (fun b5 => ?_) (fun b5 => ?_)
  · refine s_ldc (n := 22) dX5_kind_20 rfl wd_X5_64 ?_
    refine s_ireturn dX5_kind_22 rfl (rfl) (Nat.le_refl _) (Nat.le_refl _) ?_
    exact ⟨rfl, rfl⟩
  · exact absurd (if1 b5) hb
set_option maxRecDepth 100000 in
set_option maxHeartbeats 4000000 in
theorem y_kind {G : mj_G} {h : mj_H} {d : Nat} {τ : Nat → Nat → Int32} (hY : YS G h τ) {n : Nat} (hn : τ 0 2 = nI n) (h7 : n ≤ 7) {j : Nat} (hj : j < n) (hd : 2 ≤ d) : mj_con G MX5_kind d 0 0 [.ref (G.1 + 220), .int (nI j)] h (rI (τ 0 (6 + j)) h) := by
  refine mj_conV okX5_kind (ls := [some (.ref (G.1 + 220)), some (.int (nI j))]) rfl rfl ?_
  obtain ⟨y0, y1, y2, y3, y4, y5, y6, y7, y8, y9, y10, y11, y12⟩ := id hY
  refine s_aload_n (n := 1) (i := 0) dX5_kind_0 rfl rfl rfl ?_
  refine s_iload_n (n := 2) (i := 1) dX5_kind_1 rfl rfl rfl ?_
  refine s_v1 (M' := MX5_isHouse) (n := 5) (ci := 5) dX5_kind_2 rfl wd_X5_155 okX5_isHouse rfl rfl (by omega) ⟨Nat.le_refl _, Nat.le_refl _⟩ (by assumption) (y_isHouse (d := d - 1) hY hn h7 (by omega)) ?_
  rintro v2 hh2 ⟨rfl, rfl⟩
  refine s_if_eq (n := 8) (tgt := 20) dX5_kind_5 rfl rfl (fun b5 => ?_) (fun b5 => ?_)
  · exact absurd (Hs_n hj h7) (if0 b5)
  · refine s_aload_n (n := 9) (i := 0) dX5_kind_8 rfl rfl rfl ?_
    refine gf_X5_19 (n := 12) rfl dX5_kind_9 rfl (by assumption) (by rfl) ?_
    refine s_bipush (n := 14) (v := 6) dX5_kind_12 rfl (by decide) ?_
    refine s_iload_n (n := 15) (i := 1) dX5_kind_14 rfl rfl rfl ?_
    refine s_iadd (n := 16) dX5_kind_15 rfl ?_
    refine s_iald (n := 17) dX5_kind_16 rfl (by assumption) (mj_ixa (o := 6) rfl (by omega)) ?_
    refine s_goto (tgt := 22) dX5_kind_17 rfl ?_
    refine s_ireturn dX5_kind_22 rfl (rfl) (Nat.le_refl _) (Nat.le_refl _) ?_
    exact rI_ok rfl
def isK (x y : Int32) : Int32 := if y = 0 ∨ x = y ∨ (y = 1 ∧ x < 4) ∨ (y = 4 ∧ x = 5) then 1 else 0
theorem isK_all : ∀ k, k < 6 → 1 ≤ k → ∀ w, w < 6 → isK (nI k) (nI w) = such k w := by decide +kernel
set_option maxRecDepth 100000 in
set_option maxHeartbeats 4000000 in
theorem y_isKind {G : mj_G} {h : mj_H} {d : Nat} {x y : Int32} : mj_con G MX5_isKind d 0 0 [.int x, .int y] h (rI (isK x y) h) := by
  refine mj_conS okX5_isKind (ls := [some (.int x), some (.int y)]) rfl rfl ?_
  refine s_iload_n (n := 1) (i := 1) dX5_isKind_0 rfl rfl rfl ?_
  refine s_if_eq (n := 4) (tgt := 29) dX5_isKind_1 rfl rfl (fun b1 => ?_) (fun b1 => ?_)
  · refine s_iconst (n := 30) (v := 1) dX5_isKind_29 rfl (by decide) ?_
    refine s_goto (tgt := 34) dX5_isKind_30 rfl ?_
    refine s_ireturn dX5_isKind_34 rfl (rfl) (Nat.le_refl _) (Nat.le_refl _) ?_
    refine rI_ok ?_
    unfold isK
    first | rw [if_pos (by exact Or.inl b1)] | rw [if_pos (by exact Or.inr (Or.inl b6))] | rw [if_pos (by exact Or.inr (Or.inr (Or.inl ⟨b11, b16⟩)))] | rw [if_pos (by exact Or.inr (Or.inr (Or.inr ⟨b21, b26⟩)))] | (rw [if_neg]; rintro (q | q | ⟨q, q2⟩ | ⟨q, q2⟩) <;> contradiction)
  · refine s_iload_n (n := 5) (i := 0) dX5_isKind_4 rfl rfl rfl ?_
    refine s_iload_n (n := 6) (i := 1) dX5_isKind_5 rfl rfl rfl ?_
    refine s_icmp_eq (n := 9) (tgt := 29) dX5_isKind_6 rfl rfl (fun b6 => ?_) (fun b6 => ?_)
    · refine s_iconst (n := 30) (v := 1) dX5_isKind_29 rfl (by decide) ?_
      refine s_goto (tgt := 34) dX5_isKind_30 rfl ?_
      refine s_ireturn dX5_isKind_34 rfl (rfl) (Nat.le_refl _) (Nat.le_refl _) ?_
      refine rI_ok ?_
      unfold isK
      first | rw [if_pos (by exact Or.inl b1)] | rw [if_pos (by exact Or.inr (Or.inl b6))] | rw [if_pos (by exact Or.inr (Or.inr (Or.inl ⟨b11, b16⟩)))] | rw [if_pos (by exact Or.inr (Or.inr (Or.inr ⟨b21, b26⟩)))] | (rw [if_neg]; rintro (q | q | ⟨q, q2⟩ | ⟨q, q2⟩) <;> contradiction)
    · refine s_iload_n (n := 10) (i := 1) dX5_isKind_9 rfl rfl rfl ?_
      refine s_iconst (n := 11) (v := 1) dX5_isKind_10 rfl (by decide) ?_
      refine s_icmp_ne (n := 14) (tgt := 19) dX5_isKind_11 rfl rfl (fun b11 => ?_) (fun b11 => ?_)
      · refine s_iload_n (n := 20) (i := 1) dX5_isKind_19 rfl rfl rfl ?_
        refine s_iconst (n := 21) (v := 4) dX5_isKind_20 rfl (by decide) ?_
        refine s_icmp_ne (n := 24) (tgt := 33) dX5_isKind_21 rfl rfl (fun b21 => ?_) (fun b21 => ?_)
        · refine s_iconst (n := 34) (v := 0) dX5_isKind_33 rfl (by decide) ?_
          refine s_ireturn dX5_isKind_34 rfl (rfl) (Nat.le_refl _) (Nat.le_refl _) ?_
          refine rI_ok ?_
          unfold isK
          first | rw [if_pos (by exact Or.inl b1)] | rw [if_pos (by exact Or.inr (Or.inl b6))] | rw [if_pos (by exact Or.inr (Or.inr (Or.inl ⟨b11, b16⟩)))] | rw [if_pos (by exact Or.inr (Or.inr (Or.inr ⟨b21, b26⟩)))] | (rw [if_neg]; rintro (q | q | ⟨q, q2⟩ | ⟨q, q2⟩) <;> contradiction)
        · refine s_iload_n (n := 25) (i := 0) dX5_isKind_24 rfl rfl rfl ?_
          refine s_iconst (n := 26) (v := 5) dX5_isKind_25 rfl (by decide) ?_
          refine s_icmp_ne (n := 29) (tgt := 33) dX5_isKind_26 rfl rfl (fun b26 => ?_) (fun b26 => ?_)
          · refine s_iconst (n := 34) (v := 0) dX5_isKind_33 rfl (by decide) ?_
            refine s_ireturn dX5_isKind_34 rfl (rfl) (Nat.le_refl _) (Nat.le_refl _) ?_
            refine rI_ok ?_
            unfold isK
            first | rw [if_pos (by exact Or.inl b1)] | rw [if_pos (by exact Or.inr (Or.inl b6))] | rw [if_pos (by exact Or.inr (Or.inr (Or.inl ⟨b11, b16⟩)))] | rw [if_pos (by exact Or.inr (Or.inr (Or.inr ⟨b21, b26⟩)))] | (rw [if_neg]; rintro (q | q | ⟨q, q2⟩ | ⟨q, q2⟩) <;> contradiction)
          · refine s_iconst (n := 30) (v := 1) dX5_isKind_29 rfl (by decide) ?_
            refine s_goto (tgt := 34) dX5_isKind_30 rfl ?_
            refine s_ireturn dX5_isKind_34 rfl (rfl) (Nat.le_refl _) (Nat.le_refl _) ?_
            refine rI_ok ?_
            unfold isK
            first | rw [if_pos (by exact Or.inl b1)] | rw [if_pos (by exact Or.inr (Or.inl b6))] | rw [if_pos (by exact Or.inr (Or.inr (Or.inl ⟨b11, b16⟩)))] | rw [if_pos (by exact Or.inr (Or.inr (Or.inr ⟨b21, b26⟩)))] | (rw [if_neg]; rintro (q | q | ⟨q, q2⟩ | ⟨q, q2⟩) <;> contradiction)
      · refine s_iload_n (n := 15) (i := 0) dX5_isKind_14 rfl rfl rfl ?_
        refine s_iconst (n := 16) (v := 4) dX5_isKind_15 rfl (by decide) ?_
        refine s_icmp_lt (n := 19) (tgt := 29) dX5_isKind_16 rfl rfl (fun b16 => ?_) (fun b16 => ?_)
        · refine s_iconst (n := 30) (v := 1) dX5_isKind_29 rfl (by decide) ?_
          refine s_goto (tgt := 34) dX5_isKind_30 rfl ?_
          refine s_ireturn dX5_isKind_34 rfl (rfl) (Nat.le_refl _) (Nat.le_refl _) ?_
          refine rI_ok ?_
          unfold isK
          first | rw [if_pos (by exact Or.inl b1)] | rw [if_pos (by exact Or.inr (Or.inl b6))] | rw [if_pos (by exact Or.inr (Or.inr (Or.inl ⟨b11, b16⟩)))] | rw [if_pos (by exact Or.inr (Or.inr (Or.inr ⟨b21, b26⟩)))] | (rw [if_neg]; rintro (q | q | ⟨q, q2⟩ | ⟨q, q2⟩) <;> contradiction)
        · refine s_iload_n (n := 20) (i := 1) dX5_isKind_19 rfl rfl rfl ?_
          refine s_iconst (n := 21) (v := 4) dX5_isKind_20 rfl (by decide) ?_
          refine s_icmp_ne (n := 24) (tgt := 33) dX5_isKind_21 rfl rfl (fun b21 => ?_) (fun b21 => ?_)
          · refine s_iconst (n := 34) (v := 0) dX5_isKind_33 rfl (by decide) ?_
            refine s_ireturn dX5_isKind_34 rfl (rfl) (Nat.le_refl _) (Nat.le_refl _) ?_
            refine rI_ok ?_
            unfold isK
            first | rw [if_pos (by exact Or.inl b1)] | rw [if_pos (by exact Or.inr (Or.inl b6))] | rw [if_pos (by exact Or.inr (Or.inr (Or.inl ⟨b11, b16⟩)))] | rw [if_pos (by exact Or.inr (Or.inr (Or.inr ⟨b21, b26⟩)))] | (rw [if_neg]; rintro (q | q | ⟨q, q2⟩ | ⟨q, q2⟩) <;> contradiction)
          · refine s_iload_n (n := 25) (i := 0) dX5_isKind_24 rfl rfl rfl ?_
            refine s_iconst (n := 26) (v := 5) dX5_isKind_25 rfl (by decide) ?_
            refine s_icmp_ne (n := 29) (tgt := 33) dX5_isKind_26 rfl rfl (fun b26 => ?_) (fun b26 => ?_)
            · refine s_iconst (n := 34) (v := 0) dX5_isKind_33 rfl (by decide) ?_
              refine s_ireturn dX5_isKind_34 rfl (rfl) (Nat.le_refl _) (Nat.le_refl _) ?_
              refine rI_ok ?_
              unfold isK
              first | rw [if_pos (by exact Or.inl b1)] | rw [if_pos (by exact Or.inr (Or.inl b6))] | rw [if_pos (by exact Or.inr (Or.inr (Or.inl ⟨b11, b16⟩)))] | rw [if_pos (by exact Or.inr (Or.inr (Or.inr ⟨b21, b26⟩)))] | (rw [if_neg]; rintro (q | q | ⟨q, q2⟩ | ⟨q, q2⟩) <;> contradiction)
            · refine s_iconst (n := 30) (v := 1) dX5_isKind_29 rfl (by decide) ?_
              refine s_goto (tgt := 34) dX5_isKind_30 rfl ?_
              refine s_ireturn dX5_isKind_34 rfl (rfl) (Nat.le_refl _) (Nat.le_refl _) ?_
              refine rI_ok ?_
              unfold isK
              first | rw [if_pos (by exact Or.inl b1)] | rw [if_pos (by exact Or.inr (Or.inl b6))] | rw [if_pos (by exact Or.inr (Or.inr (Or.inl ⟨b11, b16⟩)))] | rw [if_pos (by exact Or.inr (Or.inr (Or.inr ⟨b21, b26⟩)))] | (rw [if_neg]; rintro (q | q | ⟨q, q2⟩ | ⟨q, q2⟩) <;> contradiction)
set_option maxRecDepth 100000 in
set_option maxHeartbeats 4000000 in
theorem y_as_bad {G : mj_G} {h : mj_H} {d : Nat} {τ : Nat → Nat → Int32} (hY : YS G h τ) {n : Nat} (hn : τ 0 2 = nI n) (h7 : n ≤ 7) {x y : Int32} (hb : ¬ (Hs n x ∧ Wi y 0 5)) (hd : 2 ≤ d) : mj_con G MX5_as d 0 0 [.ref (G.1 + 220), .int x, .int y] h (rI (-1000001) h) := by
  refine mj_conV okX5_as (ls := [some (.ref (G.1 + 220)), some (.int x), some (.int y)]) rfl rfl ?_
  obtain ⟨y0, y1, y2, y3, y4, y5, y6, y7, y8, y9, y10, y11, y12⟩ := id hY
  refine s_aload_n (n := 1) (i := 0) dX5_as_0 rfl rfl rfl ?_
  refine s_iload_n (n := 2) (i := 1) dX5_as_1 rfl rfl rfl ?_
  refine s_v1 (M' := MX5_isHouse) (n := 5) (ci := 5) dX5_as_2 rfl wd_X5_155 okX5_isHouse rfl rfl (by omega) ⟨Nat.le_refl _, Nat.le_refl _⟩ (by assumption) (y_isHouse (d := d - 1) hY hn h7 (by omega)) ?_
  rintro v2 hh2 ⟨rfl, rfl⟩
  refine s_if_eq (n := 8) (tgt := 20) dX5_as_5 rfl rfl (fun b5 => ?_) (fun b5 => ?_)
  · refine s_ldc (n := 22) dX5_as_20 rfl wd_X5_64 ?_
    refine s_ireturn dX5_as_22 rfl (rfl) (Nat.le_refl _) (Nat.le_refl _) ?_
    exact ⟨rfl, rfl⟩
  · refine s_iload_n (n := 9) (i := 2) dX5_as_8 rfl rfl rfl ?_
    refine s_i2l (n := 10) dX5_as_9 rfl ?_
    refine s_lconst (n := 11) (v := 0) dX5_as_10 rfl (by decide) ?_
    refine s_ldc2 (n := 14) dX5_as_11 rfl wd_X5_229 ?_
    refine s_s3 (M' := MX5_in) (n := 17) dX5_as_14 rfl wd_X5_54 okX5_in rfl (by omega) ⟨Nat.le_refl _, Nat.le_refl _⟩ (y_in (d := d - 1) (A := 0) (B := 5) (by decide) (by decide)) ?_
    rintro v14 hh14 ⟨rfl, rfl⟩
    refine s_if_ne (n := 20) (tgt := 23) dX5_as_17 rfl rfl (fun b17 => ?_) (fun b17 => ?_)
    · exact absurd (⟨if1 b5, if1 b17⟩) hb
    · refine s_ldc (n := 22) dX5_as_20 rfl wd_X5_64 ?_
      refine s_ireturn dX5_as_22 rfl (rfl) (Nat.le_refl _) (Nat.le_refl _) ?_
      exact ⟨rfl, rfl⟩
set_option maxRecDepth 100000 in
set_option maxHeartbeats 4000000 in
theorem y_as {G : mj_G} {h : mj_H} {d : Nat} {τ : Nat → Nat → Int32} (hY : YS G h τ) {n : Nat} (hn : τ 0 2 = nI n) (h7 : n ≤ 7) {j w c : Nat} (hj : j < n) (hc : τ 0 (6 + j) = nI c) (h1 : 1 ≤ c) (h5 : c ≤ 5) (hw : w ≤ 5) (hs : such c w = 1) (hd : 2 ≤ d) : mj_con G MX5_as d 0 0 [.ref (G.1 + 220), .int (nI j), .int (nI w)] h (fun v h' => v = some (.int (nI j)) ∧ YS G h' (u2 (τ) 12 (upd (τ 12) 0 0)) ∧ mj_fr 220 13 h h') := by
  refine mj_conV okX5_as (ls := [some (.ref (G.1 + 220)), some (.int (nI j)), some (.int (nI w))]) rfl rfl ?_
  obtain ⟨y0, y1, y2, y3, y4, y5, y6, y7, y8, y9, y10, y11, y12⟩ := id hY
  refine s_aload_n (n := 1) (i := 0) dX5_as_0 rfl rfl rfl ?_
  refine s_iload_n (n := 2) (i := 1) dX5_as_1 rfl rfl rfl ?_
  refine s_v1 (M' := MX5_isHouse) (n := 5) (ci := 5) dX5_as_2 rfl wd_X5_155 okX5_isHouse rfl rfl (by omega) ⟨Nat.le_refl _, Nat.le_refl _⟩ (by assumption) (y_isHouse (d := d - 1) hY hn h7 (by omega)) ?_
  rintro v2 hh2 ⟨rfl, rfl⟩
  refine s_if_eq (n := 8) (tgt := 20) dX5_as_5 rfl rfl (fun b5 => ?_) (fun b5 => ?_)
  · exact absurd (Hs_n hj h7) (if0 b5)
  · refine s_iload_n (n := 9) (i := 2) dX5_as_8 rfl rfl rfl ?_
    refine s_i2l (n := 10) dX5_as_9 rfl ?_
    refine s_lconst (n := 11) (v := 0) dX5_as_10 rfl (by decide) ?_
    refine s_ldc2 (n := 14) dX5_as_11 rfl wd_X5_229 ?_
    refine s_s3 (M' := MX5_in) (n := 17) dX5_as_14 rfl wd_X5_54 okX5_in rfl (by omega) ⟨Nat.le_refl _, Nat.le_refl _⟩ (y_in (d := d - 1) (A := 0) (B := 5) (by decide) (by decide)) ?_
    rintro v14 hh14 ⟨rfl, rfl⟩
    refine s_if_ne (n := 20) (tgt := 23) dX5_as_17 rfl rfl (fun b17 => ?_) (fun b17 => ?_)
    · refine s_aload_n (n := 24) (i := 0) dX5_as_23 rfl rfl rfl ?_
      refine gf_X5_19 (n := 27) rfl dX5_as_24 rfl (by assumption) (by rfl) ?_
      refine s_bipush (n := 29) (v := 6) dX5_as_27 rfl (by decide) ?_
      refine s_iload_n (n := 30) (i := 1) dX5_as_29 rfl rfl rfl ?_
      refine s_iadd (n := 31) dX5_as_30 rfl ?_
      refine s_iald (n := 32) dX5_as_31 rfl (by assumption) (mj_ixa (o := 6) rfl (by omega)) ?_
      rw [hc]
      refine s_iload_n (n := 33) (i := 2) dX5_as_32 rfl rfl rfl ?_
      refine s_s2 (M' := MX5_isKind) (n := 36) dX5_as_33 rfl wd_X5_231 okX5_isKind rfl (by omega) ⟨Nat.le_refl _, Nat.le_refl _⟩ (y_isKind (d := d - 1)) ?_
      rintro v33 hh33 ⟨rfl, rfl⟩
      rw [isK_all c (by omega) h1 w (by omega), hs]
      refine s_if_eq (n := 39) (tgt := 47) dX5_as_36 rfl rfl (fun b36 => ?_) (fun b36 => ?_)
      · exact absurd b36 one_ne
      · refine s_aload_n (n := 40) (i := 0) dX5_as_39 rfl rfl rfl ?_
        refine s_iload_n (n := 41) (i := 1) dX5_as_40 rfl rfl rfl ?_
        refine s_v1 (M' := MX5_well) (n := 44) (ci := 5) dX5_as_41 rfl wd_X5_69 okX5_well rfl rfl (by omega) ⟨Nat.le_refl _, Nat.le_refl _⟩ (by assumption) (y_well (d := d - 1) hY) ?_
        rintro v41 hh41 ⟨rfl, hY1, hF1⟩
        refine s_goto (tgt := 52) dX5_as_44 rfl ?_
        refine s_ireturn dX5_as_52 rfl (rfl) (Nat.le_refl _) (Nat.le_refl _) ?_
        exact ⟨rfl, hY1, hF1⟩
    · exact absurd (Wi_n (by omega) (by omega) (by omega)) (if0 b17)
set_option maxRecDepth 100000 in
set_option maxHeartbeats 4000000 in
theorem y_as_f {G : mj_G} {h : mj_H} {d : Nat} {τ : Nat → Nat → Int32} (hY : YS G h τ) {n : Nat} (hn : τ 0 2 = nI n) (h7 : n ≤ 7) {j w c : Nat} (hj : j < n) (hc : τ 0 (6 + j) = nI c) (h1 : 1 ≤ c) (h5 : c ≤ 5) (hw : w ≤ 5) (hs : such c w = 0) (hd : 2 ≤ d) : mj_con G MX5_as d 0 0 [.ref (G.1 + 220), .int (nI j), .int (nI w)] h (fun v h' => v = some (.int (-1000010 - 3)) ∧ YS G h' (u2 (τ) 12 (upd (τ 12) 0 3)) ∧ mj_fr 220 13 h h') := by
  refine mj_conV okX5_as (ls := [some (.ref (G.1 + 220)), some (.int (nI j)), some (.int (nI w))]) rfl rfl ?_
  obtain ⟨y0, y1, y2, y3, y4, y5, y6, y7, y8, y9, y10, y11, y12⟩ := id hY
  refine s_aload_n (n := 1) (i := 0) dX5_as_0 rfl rfl rfl ?_
  refine s_iload_n (n := 2) (i := 1) dX5_as_1 rfl rfl rfl ?_
  refine s_v1 (M' := MX5_isHouse) (n := 5) (ci := 5) dX5_as_2 rfl wd_X5_155 okX5_isHouse rfl rfl (by omega) ⟨Nat.le_refl _, Nat.le_refl _⟩ (by assumption) (y_isHouse (d := d - 1) hY hn h7 (by omega)) ?_
  rintro v2 hh2 ⟨rfl, rfl⟩
  refine s_if_eq (n := 8) (tgt := 20) dX5_as_5 rfl rfl (fun b5 => ?_) (fun b5 => ?_)
  · exact absurd (Hs_n hj h7) (if0 b5)
  · refine s_iload_n (n := 9) (i := 2) dX5_as_8 rfl rfl rfl ?_
    refine s_i2l (n := 10) dX5_as_9 rfl ?_
    refine s_lconst (n := 11) (v := 0) dX5_as_10 rfl (by decide) ?_
    refine s_ldc2 (n := 14) dX5_as_11 rfl wd_X5_229 ?_
    refine s_s3 (M' := MX5_in) (n := 17) dX5_as_14 rfl wd_X5_54 okX5_in rfl (by omega) ⟨Nat.le_refl _, Nat.le_refl _⟩ (y_in (d := d - 1) (A := 0) (B := 5) (by decide) (by decide)) ?_
    rintro v14 hh14 ⟨rfl, rfl⟩
    refine s_if_ne (n := 20) (tgt := 23) dX5_as_17 rfl rfl (fun b17 => ?_) (fun b17 => ?_)
    · refine s_aload_n (n := 24) (i := 0) dX5_as_23 rfl rfl rfl ?_
      refine gf_X5_19 (n := 27) rfl dX5_as_24 rfl (by assumption) (by rfl) ?_
      refine s_bipush (n := 29) (v := 6) dX5_as_27 rfl (by decide) ?_
      refine s_iload_n (n := 30) (i := 1) dX5_as_29 rfl rfl rfl ?_
      refine s_iadd (n := 31) dX5_as_30 rfl ?_
      refine s_iald (n := 32) dX5_as_31 rfl (by assumption) (mj_ixa (o := 6) rfl (by omega)) ?_
      rw [hc]
      refine s_iload_n (n := 33) (i := 2) dX5_as_32 rfl rfl rfl ?_
      refine s_s2 (M' := MX5_isKind) (n := 36) dX5_as_33 rfl wd_X5_231 okX5_isKind rfl (by omega) ⟨Nat.le_refl _, Nat.le_refl _⟩ (y_isKind (d := d - 1)) ?_
      rintro v33 hh33 ⟨rfl, rfl⟩
      rw [isK_all c (by omega) h1 w (by omega), hs]
      refine s_if_eq (n := 39) (tgt := 47) dX5_as_36 rfl rfl (fun b36 => ?_) (fun b36 => ?_)
      · refine s_aload_n (n := 48) (i := 0) dX5_as_47 rfl rfl rfl ?_
        refine s_iconst (n := 49) (v := 3) dX5_as_48 rfl (by decide) ?_
        refine s_v1 (M' := MX5_find) (n := 52) (ci := 5) dX5_as_49 rfl wd_X5_65 okX5_find rfl rfl (by omega) ⟨Nat.le_refl _, Nat.le_refl _⟩ (by assumption) (y_find (d := d - 1) hY) ?_
        rintro v49 hh49 ⟨rfl, hY1, hF1⟩
        refine s_ireturn dX5_as_52 rfl (rfl) (Nat.le_refl _) (Nat.le_refl _) ?_
        exact ⟨rfl, hY1, hF1⟩
      · exact absurd rfl b36
    · exact absurd (Wi_n (by omega) (by omega) (by omega)) (if0 b17)

theorem tm1_all : ∀ t, t < 17 → ((nI t - 1).toInt64).toInt = (t : Int) - 1 := by decide +kernel
theorem tm1 {t : Nat} (h : t ≤ 16) : ((nI t - 1).toInt64).toInt = (t : Int) - 1 := tm1_all t (by omega)
theorem tHs {x : Int32} {t : Nat} (h : Wi x 0 ((t : Int) - 1)) : Hs t x := ⟨h.1, by have := h.2; omega⟩
set_option maxRecDepth 100000 in
set_option maxHeartbeats 4000000 in
theorem y_trace_bad {G : mj_G} {h : mj_H} {d : Nat} {τ : Nat → Nat → Int32} (hY : YS G h τ) {t : Nat} (ht : τ 12 10 = nI t) (h16 : t ≤ 16) {x : Int32} (hb : ¬ Hs t x) (hd : 1 ≤ d) : mj_con G MX5_trace d 0 0 [.ref (G.1 + 220), .int x] h (rI (-1000000) h) := by
  refine mj_conV okX5_trace (ls := [some (.ref (G.1 + 220)), some (.int x)]) rfl rfl ?_
  obtain ⟨y0, y1, y2, y3, y4, y5, y6, y7, y8, y9, y10, y11, y12⟩ := id hY
  refine s_iload_n (n := 1) (i := 1) dX5_trace_0 rfl rfl rfl ?_
  refine s_i2l (n := 2) dX5_trace_1 rfl ?_
  refine s_lconst (n := 3) (v := 0) dX5_trace_2 rfl (by decide) ?_
  refine s_aload_n (n := 4) (i := 0) dX5_trace_3 rfl rfl rfl ?_
  refine gf_X5_234 (n := 7) rfl dX5_trace_4 rfl (by assumption) (by rfl) ?_
  rw [ht]
  refine s_iconst (n := 8) (v := 1) dX5_trace_7 rfl (by decide) ?_
  refine s_isub (n := 9) dX5_trace_8 rfl ?_
  refine s_i2l (n := 10) dX5_trace_9 rfl ?_
  refine s_s3 (M' := MX5_in) (n := 13) dX5_trace_10 rfl wd_X5_54 okX5_in rfl (by omega) ⟨Nat.le_refl _, Nat.le_refl _⟩ (y_in (d := d - 1) (A := 0) (B := (t : Int) - 1) (by decide) (tm1 h16)) ?_
  rintro v10 hh10 ⟨rfl, rfl⟩
  refine s_if_eq (n := 16) (tgt := 25) dX5_trace_13 rfl rfl (fun b13 => ?_) (fun b13 => ?_)
  · refine s_ldc (n := 27) dX5_trace_25 rfl wd_X5_186 ?_
    refine s_ireturn dX5_trace_27 rfl (rfl) (Nat.le_refl _) (Nat.le_refl _) ?_
    exact ⟨rfl, rfl⟩
  · exact absurd (tHs (if1 b13)) hb
set_option maxRecDepth 100000 in
set_option maxHeartbeats 4000000 in
theorem y_trace {G : mj_G} {h : mj_H} {d : Nat} {τ : Nat → Nat → Int32} (hY : YS G h τ) {t : Nat} (ht : τ 12 10 = nI t) (h16 : t ≤ 16) {j : Nat} (hj : j < t) (hd : 1 ≤ d) : mj_con G MX5_trace d 0 0 [.ref (G.1 + 220), .int (nI j)] h (rI (τ 11 j) h) := by
  refine mj_conV okX5_trace (ls := [some (.ref (G.1 + 220)), some (.int (nI j))]) rfl rfl ?_
  obtain ⟨y0, y1, y2, y3, y4, y5, y6, y7, y8, y9, y10, y11, y12⟩ := id hY
  refine s_iload_n (n := 1) (i := 1) dX5_trace_0 rfl rfl rfl ?_
  refine s_i2l (n := 2) dX5_trace_1 rfl ?_
  refine s_lconst (n := 3) (v := 0) dX5_trace_2 rfl (by decide) ?_
  refine s_aload_n (n := 4) (i := 0) dX5_trace_3 rfl rfl rfl ?_
  refine gf_X5_234 (n := 7) rfl dX5_trace_4 rfl (by assumption) (by rfl) ?_
  rw [ht]
  refine s_iconst (n := 8) (v := 1) dX5_trace_7 rfl (by decide) ?_
  refine s_isub (n := 9) dX5_trace_8 rfl ?_
  refine s_i2l (n := 10) dX5_trace_9 rfl ?_
  refine s_s3 (M' := MX5_in) (n := 13) dX5_trace_10 rfl wd_X5_54 okX5_in rfl (by omega) ⟨Nat.le_refl _, Nat.le_refl _⟩ (y_in (d := d - 1) (A := 0) (B := (t : Int) - 1) (by decide) (tm1 h16)) ?_
  rintro v10 hh10 ⟨rfl, rfl⟩
  refine s_if_eq (n := 16) (tgt := 25) dX5_trace_13 rfl rfl (fun b13 => ?_) (fun b13 => ?_)
  · exact absurd (Wi_n (b := t - 1) (by omega) (by omega) (by omega)) (fun z => if0 b13 ⟨z.1, by have := z.2; omega⟩)
  · refine s_aload_n (n := 17) (i := 0) dX5_trace_16 rfl rfl rfl ?_
    refine gf_X5_44 (n := 20) rfl dX5_trace_17 rfl (by assumption) (by rfl) ?_
    refine s_iload_n (n := 21) (i := 1) dX5_trace_20 rfl rfl rfl ?_
    refine s_iald (n := 22) dX5_trace_21 rfl (by assumption) (mj_ixn (by omega)) ?_
    refine s_goto (tgt := 27) dX5_trace_22 rfl ?_
    refine s_ireturn dX5_trace_27 rfl (rfl) (Nat.le_refl _) (Nat.le_refl _) ?_
    exact rI_ok rfl
def ctF (f : Nat → Int32) : Nat → Int32
  | 0 => 0
  | m + 1 => if f m < 0 then ctF f m else ctF f m + 1
def cnY (n : Nat) (τ : Nat → Nat → Int32) (w : Nat) : Int32 := match w with
  | 0 => ctF (τ 2) 8
  | 1 => τ 0 2
  | 2 => τ 0 3
  | 3 => τ 0 5
  | 4 => sumF (τ 0) 41 n
  | 5 => τ 0 4
  | 6 => τ 12 9
  | _ => τ 12 2
set_option maxRecDepth 100000 in
set_option maxHeartbeats 4000000 in
theorem l_ycount {G : mj_G} {h : mj_H} {d : Nat} {w : Int32} {τ : Nat → Nat → Int32} {Q : Option Value → mj_H → Prop} (hY : YS G h τ) (k33 : ∀ o3, mj_wp G MX5_count d 0 0 33 [some (.ref (G.1 + 220)), some (.int w), some (.int (ctF (τ 2) 8)), o3] [] h 0 0 Q) : ∀ (r i : Nat), i + r = 8 → mj_wp G MX5_count d 0 0 4 [some (.ref (G.1 + 220)), some (.int w), some (.int (ctF (τ 2) i)), some (.int (nI i))] [] h 0 0 Q := by
  obtain ⟨y0, y1, y2, y3, y4, y5, y6, y7, y8, y9, y10, y11, y12⟩ := id hY
  intro r
  induction r with
  | zero =>
    intro i hi
    have hi8 : i = 8 := by omega
    subst hi8
    refine s_iload_n (n := 5) (i := 3) dX5_count_4 rfl rfl rfl ?_
    refine s_bipush (n := 7) (v := 8) dX5_count_5 rfl (by decide) ?_
    refine s_icmp_ge (n := 10) (tgt := 33) dX5_count_7 rfl rfl (fun b7 => ?_) (fun b7 => ?_)
    · exact k33 _
    · exact absurd (Int32.le_refl _) b7
  | succ r ih =>
    intro i hi
    have ihx := ih (i + 1) (by omega)
    have e : ctF (τ 2) (i + 1) = if τ 2 i < 0 then ctF (τ 2) i else ctF (τ 2) i + 1 := rfl
    rw [e] at ihx
    refine s_iload_n (n := 5) (i := 3) dX5_count_4 rfl rfl rfl ?_
    refine s_bipush (n := 7) (v := 8) dX5_count_5 rfl (by decide) ?_
    refine s_icmp_ge (n := 10) (tgt := 33) dX5_count_7 rfl rfl (fun b7 => ?_) (fun b7 => ?_)
    · exact absurd ((nI_leE (a := 8) (by omega) (by omega)).mp b7) (by omega)
    · refine s_iload_n (n := 11) (i := 2) dX5_count_10 rfl rfl rfl ?_
      refine s_aload_n (n := 12) (i := 0) dX5_count_11 rfl rfl rfl ?_
      refine gf_X5_13 (n := 15) rfl dX5_count_12 rfl (by assumption) (by rfl) ?_
      refine s_iload_n (n := 16) (i := 3) dX5_count_15 rfl rfl rfl ?_
      refine s_iald (n := 17) dX5_count_16 rfl (by assumption) (mj_ixn (by omega)) ?_
      refine s_if_lt (n := 20) (tgt := 24) dX5_count_17 rfl rfl (fun b17 => ?_) (fun b17 => ?_)
      · rw [if_pos b17, ← add00 (x := ctF (τ 2) i)] at ihx
        refine s_iconst (n := 25) (v := 0) dX5_count_24 rfl (by decide) ?_
        refine s_iadd (n := 26) dX5_count_25 rfl ?_
        refine s_istore_n (n := 27) (i := 2) (ls' := [_, _, _, _]) dX5_count_26 rfl rfl rfl rfl rfl ?_
        refine s_iinc (n := 30) (v := _ + 1) (ls' := [_, _, _, _]) dX5_count_27 rfl rfl rfl rfl rfl ?_
        refine s_goto (tgt := 4) dX5_count_30 rfl ?_
        rw [nI_1]
        exact ihx
      · rw [if_neg b17] at ihx
        refine s_iconst (n := 21) (v := 1) dX5_count_20 rfl (by decide) ?_
        refine s_goto (tgt := 25) dX5_count_21 rfl ?_
        refine s_iadd (n := 26) dX5_count_25 rfl ?_
        refine s_istore_n (n := 27) (i := 2) (ls' := [_, _, _, _]) dX5_count_26 rfl rfl rfl rfl rfl ?_
        refine s_iinc (n := 30) (v := _ + 1) (ls' := [_, _, _, _]) dX5_count_27 rfl rfl rfl rfl rfl ?_
        refine s_goto (tgt := 4) dX5_count_30 rfl ?_
        rw [nI_1]
        exact ihx
set_option maxRecDepth 100000 in
set_option maxHeartbeats 4000000 in
theorem y_count_bad {G : mj_G} {h : mj_H} {d : Nat} {τ : Nat → Nat → Int32} (hY : YS G h τ) {x : Int32} (hb2 : ¬ Wi x 0 7) (hd : 2 ≤ d) : mj_con G MX5_count d 0 0 [.ref (G.1 + 220), .int x] h (rI (-1000001) h) := by
  refine mj_conV okX5_count (ls := [some (.ref (G.1 + 220)), some (.int x), none, none]) rfl rfl ?_
  obtain ⟨y0, y1, y2, y3, y4, y5, y6, y7, y8, y9, y10, y11, y12⟩ := id hY
  refine s_iconst (n := 1) (v := 0) dX5_count_0 rfl (by decide) ?_
  refine s_istore_n (n := 2) (i := 2) (ls' := [_, _, _, _]) dX5_count_1 rfl rfl rfl rfl rfl ?_
  refine s_iconst (n := 3) (v := 0) dX5_count_2 rfl (by decide) ?_
  refine s_istore_n (n := 4) (i := 3) (ls' := [_, _, _, _]) dX5_count_3 rfl rfl rfl rfl rfl ?_
  refine l_ycount hY (fun o3 => ?_) 8 0 (by omega)
  refine s_iload_n (n := 34) (i := 1) dX5_count_33 rfl rfl rfl ?_
  refine t_X5_count_34 dX5_count_34 (fun e0 => ?_) (fun e1 => ?_) (fun e2 => ?_) (fun e3 => ?_) (fun e4 => ?_) (fun e5 => ?_) (fun e6 => ?_) (fun e7 => ?_) (fun e0 e1 e2 e3 e4 e5 e6 e7 => ?_)
  · subst e0
    exact absurd (by decide) hb2
  · subst e1
    exact absurd (by decide) hb2
  · subst e2
    exact absurd (by decide) hb2
  · subst e3
    exact absurd (by decide) hb2
  · subst e4
    exact absurd (by decide) hb2
  · subst e5
    exact absurd (by decide) hb2
  · subst e6
    exact absurd (by decide) hb2
  · subst e7
    exact absurd (by decide) hb2
  · refine s_ldc (n := 129) dX5_count_127 rfl wd_X5_64 ?_
    refine s_ireturn dX5_count_129 rfl (rfl) (Nat.le_refl _) (Nat.le_refl _) ?_
    exact ⟨rfl, rfl⟩
set_option maxRecDepth 100000 in
set_option maxHeartbeats 4000000 in
theorem y_count0 {G : mj_G} {h : mj_H} {d : Nat} {τ : Nat → Nat → Int32} (hY : YS G h τ) {n : Nat} (hn : τ 0 2 = nI n) (h7 : n ≤ 7) (hd : 2 ≤ d) : mj_con G MX5_count d 0 0 [.ref (G.1 + 220), .int 0] h (rI (cnY n τ 0) h) := by
  refine mj_conV okX5_count (ls := [some (.ref (G.1 + 220)), some (.int 0), none, none]) rfl rfl ?_
  obtain ⟨y0, y1, y2, y3, y4, y5, y6, y7, y8, y9, y10, y11, y12⟩ := id hY
  refine s_iconst (n := 1) (v := 0) dX5_count_0 rfl (by decide) ?_
  refine s_istore_n (n := 2) (i := 2) (ls' := [_, _, _, _]) dX5_count_1 rfl rfl rfl rfl rfl ?_
  refine s_iconst (n := 3) (v := 0) dX5_count_2 rfl (by decide) ?_
  refine s_istore_n (n := 4) (i := 3) (ls' := [_, _, _, _]) dX5_count_3 rfl rfl rfl rfl rfl ?_
  refine l_ycount hY (fun o3 => ?_) 8 0 (by omega)
  refine s_iload_n (n := 34) (i := 1) dX5_count_33 rfl rfl rfl ?_
  refine t_X5_count_34 dX5_count_34 (fun e0 => ?_) (fun e1 => ?_) (fun e2 => ?_) (fun e3 => ?_) (fun e4 => ?_) (fun e5 => ?_) (fun e6 => ?_) (fun e7 => ?_) (fun e0 e1 e2 e3 e4 e5 e6 e7 => ?_)
  · refine s_iload_n (n := 81) (i := 2) dX5_count_80 rfl rfl rfl ?_
    refine s_ireturn dX5_count_81 rfl (rfl) (Nat.le_refl _) (Nat.le_refl _) ?_
    exact rI_ok rfl
  · exact absurd e1 (by decide)
  · exact absurd e2 (by decide)
  · exact absurd e3 (by decide)
  · exact absurd e4 (by decide)
  · exact absurd e5 (by decide)
  · exact absurd e6 (by decide)
  · exact absurd e7 (by decide)
  · exact absurd rfl e0
set_option maxRecDepth 100000 in
set_option maxHeartbeats 4000000 in
theorem y_count1 {G : mj_G} {h : mj_H} {d : Nat} {τ : Nat → Nat → Int32} (hY : YS G h τ) {n : Nat} (hn : τ 0 2 = nI n) (h7 : n ≤ 7) (hd : 2 ≤ d) : mj_con G MX5_count d 0 0 [.ref (G.1 + 220), .int 1] h (rI (cnY n τ 1) h) := by
  refine mj_conV okX5_count (ls := [some (.ref (G.1 + 220)), some (.int 1), none, none]) rfl rfl ?_
  obtain ⟨y0, y1, y2, y3, y4, y5, y6, y7, y8, y9, y10, y11, y12⟩ := id hY
  refine s_iconst (n := 1) (v := 0) dX5_count_0 rfl (by decide) ?_
  refine s_istore_n (n := 2) (i := 2) (ls' := [_, _, _, _]) dX5_count_1 rfl rfl rfl rfl rfl ?_
  refine s_iconst (n := 3) (v := 0) dX5_count_2 rfl (by decide) ?_
  refine s_istore_n (n := 4) (i := 3) (ls' := [_, _, _, _]) dX5_count_3 rfl rfl rfl rfl rfl ?_
  refine l_ycount hY (fun o3 => ?_) 8 0 (by omega)
  refine s_iload_n (n := 34) (i := 1) dX5_count_33 rfl rfl rfl ?_
  refine t_X5_count_34 dX5_count_34 (fun e0 => ?_) (fun e1 => ?_) (fun e2 => ?_) (fun e3 => ?_) (fun e4 => ?_) (fun e5 => ?_) (fun e6 => ?_) (fun e7 => ?_) (fun e0 e1 e2 e3 e4 e5 e6 e7 => ?_)
  · exact absurd e0 (by decide)
  · refine s_aload_n (n := 83) (i := 0) dX5_count_82 rfl rfl rfl ?_
    refine gf_X5_19 (n := 86) rfl dX5_count_83 rfl (by assumption) (by rfl) ?_
    refine s_iconst (n := 87) (v := 2) dX5_count_86 rfl (by decide) ?_
    refine s_iald (n := 88) dX5_count_87 rfl (by assumption) (mj_ixe (j := 2) rfl (by omega)) ?_
    refine s_ireturn dX5_count_88 rfl (rfl) (Nat.le_refl _) (Nat.le_refl _) ?_
    exact rI_ok rfl
  · exact absurd e2 (by decide)
  · exact absurd e3 (by decide)
  · exact absurd e4 (by decide)
  · exact absurd e5 (by decide)
  · exact absurd e6 (by decide)
  · exact absurd e7 (by decide)
  · exact absurd rfl e1
set_option maxRecDepth 100000 in
set_option maxHeartbeats 4000000 in
theorem y_count2 {G : mj_G} {h : mj_H} {d : Nat} {τ : Nat → Nat → Int32} (hY : YS G h τ) {n : Nat} (hn : τ 0 2 = nI n) (h7 : n ≤ 7) (hd : 2 ≤ d) : mj_con G MX5_count d 0 0 [.ref (G.1 + 220), .int 2] h (rI (cnY n τ 2) h) := by
  refine mj_conV okX5_count (ls := [some (.ref (G.1 + 220)), some (.int 2), none, none]) rfl rfl ?_
  obtain ⟨y0, y1, y2, y3, y4, y5, y6, y7, y8, y9, y10, y11, y12⟩ := id hY
  refine s_iconst (n := 1) (v := 0) dX5_count_0 rfl (by decide) ?_
  refine s_istore_n (n := 2) (i := 2) (ls' := [_, _, _, _]) dX5_count_1 rfl rfl rfl rfl rfl ?_
  refine s_iconst (n := 3) (v := 0) dX5_count_2 rfl (by decide) ?_
  refine s_istore_n (n := 4) (i := 3) (ls' := [_, _, _, _]) dX5_count_3 rfl rfl rfl rfl rfl ?_
  refine l_ycount hY (fun o3 => ?_) 8 0 (by omega)
  refine s_iload_n (n := 34) (i := 1) dX5_count_33 rfl rfl rfl ?_
  refine t_X5_count_34 dX5_count_34 (fun e0 => ?_) (fun e1 => ?_) (fun e2 => ?_) (fun e3 => ?_) (fun e4 => ?_) (fun e5 => ?_) (fun e6 => ?_) (fun e7 => ?_) (fun e0 e1 e2 e3 e4 e5 e6 e7 => ?_)
  · exact absurd e0 (by decide)
  · exact absurd e1 (by decide)
  · refine s_aload_n (n := 90) (i := 0) dX5_count_89 rfl rfl rfl ?_
    refine gf_X5_19 (n := 93) rfl dX5_count_90 rfl (by assumption) (by rfl) ?_
    refine s_iconst (n := 94) (v := 3) dX5_count_93 rfl (by decide) ?_
    refine s_iald (n := 95) dX5_count_94 rfl (by assumption) (mj_ixe (j := 3) rfl (by omega)) ?_
    refine s_ireturn dX5_count_95 rfl (rfl) (Nat.le_refl _) (Nat.le_refl _) ?_
    exact rI_ok rfl
  · exact absurd e3 (by decide)
  · exact absurd e4 (by decide)
  · exact absurd e5 (by decide)
  · exact absurd e6 (by decide)
  · exact absurd e7 (by decide)
  · exact absurd rfl e2
set_option maxRecDepth 100000 in
set_option maxHeartbeats 4000000 in
theorem y_count3 {G : mj_G} {h : mj_H} {d : Nat} {τ : Nat → Nat → Int32} (hY : YS G h τ) {n : Nat} (hn : τ 0 2 = nI n) (h7 : n ≤ 7) (hd : 2 ≤ d) : mj_con G MX5_count d 0 0 [.ref (G.1 + 220), .int 3] h (rI (cnY n τ 3) h) := by
  refine mj_conV okX5_count (ls := [some (.ref (G.1 + 220)), some (.int 3), none, none]) rfl rfl ?_
  obtain ⟨y0, y1, y2, y3, y4, y5, y6, y7, y8, y9, y10, y11, y12⟩ := id hY
  refine s_iconst (n := 1) (v := 0) dX5_count_0 rfl (by decide) ?_
  refine s_istore_n (n := 2) (i := 2) (ls' := [_, _, _, _]) dX5_count_1 rfl rfl rfl rfl rfl ?_
  refine s_iconst (n := 3) (v := 0) dX5_count_2 rfl (by decide) ?_
  refine s_istore_n (n := 4) (i := 3) (ls' := [_, _, _, _]) dX5_count_3 rfl rfl rfl rfl rfl ?_
  refine l_ycount hY (fun o3 => ?_) 8 0 (by omega)
  refine s_iload_n (n := 34) (i := 1) dX5_count_33 rfl rfl rfl ?_
  refine t_X5_count_34 dX5_count_34 (fun e0 => ?_) (fun e1 => ?_) (fun e2 => ?_) (fun e3 => ?_) (fun e4 => ?_) (fun e5 => ?_) (fun e6 => ?_) (fun e7 => ?_) (fun e0 e1 e2 e3 e4 e5 e6 e7 => ?_)
  · exact absurd e0 (by decide)
  · exact absurd e1 (by decide)
  · exact absurd e2 (by decide)
  · refine s_aload_n (n := 97) (i := 0) dX5_count_96 rfl rfl rfl ?_
    refine gf_X5_19 (n := 100) rfl dX5_count_97 rfl (by assumption) (by rfl) ?_
    refine s_iconst (n := 101) (v := 5) dX5_count_100 rfl (by decide) ?_
    refine s_iald (n := 102) dX5_count_101 rfl (by assumption) (mj_ixe (j := 5) rfl (by omega)) ?_
    refine s_ireturn dX5_count_102 rfl (rfl) (Nat.le_refl _) (Nat.le_refl _) ?_
    exact rI_ok rfl
  · exact absurd e4 (by decide)
  · exact absurd e5 (by decide)
  · exact absurd e6 (by decide)
  · exact absurd e7 (by decide)
  · exact absurd rfl e3
set_option maxRecDepth 100000 in
set_option maxHeartbeats 4000000 in
theorem y_count4 {G : mj_G} {h : mj_H} {d : Nat} {τ : Nat → Nat → Int32} (hY : YS G h τ) {n : Nat} (hn : τ 0 2 = nI n) (h7 : n ≤ 7) (hd : 2 ≤ d) : mj_con G MX5_count d 0 0 [.ref (G.1 + 220), .int 4] h (rI (cnY n τ 4) h) := by
  refine mj_conV okX5_count (ls := [some (.ref (G.1 + 220)), some (.int 4), none, none]) rfl rfl ?_
  obtain ⟨y0, y1, y2, y3, y4, y5, y6, y7, y8, y9, y10, y11, y12⟩ := id hY
  refine s_iconst (n := 1) (v := 0) dX5_count_0 rfl (by decide) ?_
  refine s_istore_n (n := 2) (i := 2) (ls' := [_, _, _, _]) dX5_count_1 rfl rfl rfl rfl rfl ?_
  refine s_iconst (n := 3) (v := 0) dX5_count_2 rfl (by decide) ?_
  refine s_istore_n (n := 4) (i := 3) (ls' := [_, _, _, _]) dX5_count_3 rfl rfl rfl rfl rfl ?_
  refine l_ycount hY (fun o3 => ?_) 8 0 (by omega)
  refine s_iload_n (n := 34) (i := 1) dX5_count_33 rfl rfl rfl ?_
  refine t_X5_count_34 dX5_count_34 (fun e0 => ?_) (fun e1 => ?_) (fun e2 => ?_) (fun e3 => ?_) (fun e4 => ?_) (fun e5 => ?_) (fun e6 => ?_) (fun e7 => ?_) (fun e0 e1 e2 e3 e4 e5 e6 e7 => ?_)
  · exact absurd e0 (by decide)
  · exact absurd e1 (by decide)
  · exact absurd e2 (by decide)
  · exact absurd e3 (by decide)
  · refine s_aload_n (n := 104) (i := 0) dX5_count_103 rfl rfl rfl ?_
    refine s_bipush (n := 106) (v := 41) dX5_count_104 rfl (by decide) ?_
    refine s_v1 (M' := MX5_sumOf) (n := 109) (ci := 5) dX5_count_106 rfl wd_X5_171 okX5_sumOf rfl rfl (by omega) ⟨Nat.le_refl _, Nat.le_refl _⟩ (by assumption) (y_sumOf (d := d - 1) hY hn h7 (o := 41) (by omega)) ?_
    rintro v106 hh106 ⟨rfl, rfl⟩
    refine s_ireturn dX5_count_109 rfl (rfl) (Nat.le_refl _) (Nat.le_refl _) ?_
    exact rI_ok rfl
  · exact absurd e5 (by decide)
  · exact absurd e6 (by decide)
  · exact absurd e7 (by decide)
  · exact absurd rfl e4
set_option maxRecDepth 100000 in
set_option maxHeartbeats 4000000 in
theorem y_count5 {G : mj_G} {h : mj_H} {d : Nat} {τ : Nat → Nat → Int32} (hY : YS G h τ) {n : Nat} (hn : τ 0 2 = nI n) (h7 : n ≤ 7) (hd : 2 ≤ d) : mj_con G MX5_count d 0 0 [.ref (G.1 + 220), .int 5] h (rI (cnY n τ 5) h) := by
  refine mj_conV okX5_count (ls := [some (.ref (G.1 + 220)), some (.int 5), none, none]) rfl rfl ?_
  obtain ⟨y0, y1, y2, y3, y4, y5, y6, y7, y8, y9, y10, y11, y12⟩ := id hY
  refine s_iconst (n := 1) (v := 0) dX5_count_0 rfl (by decide) ?_
  refine s_istore_n (n := 2) (i := 2) (ls' := [_, _, _, _]) dX5_count_1 rfl rfl rfl rfl rfl ?_
  refine s_iconst (n := 3) (v := 0) dX5_count_2 rfl (by decide) ?_
  refine s_istore_n (n := 4) (i := 3) (ls' := [_, _, _, _]) dX5_count_3 rfl rfl rfl rfl rfl ?_
  refine l_ycount hY (fun o3 => ?_) 8 0 (by omega)
  refine s_iload_n (n := 34) (i := 1) dX5_count_33 rfl rfl rfl ?_
  refine t_X5_count_34 dX5_count_34 (fun e0 => ?_) (fun e1 => ?_) (fun e2 => ?_) (fun e3 => ?_) (fun e4 => ?_) (fun e5 => ?_) (fun e6 => ?_) (fun e7 => ?_) (fun e0 e1 e2 e3 e4 e5 e6 e7 => ?_)
  · exact absurd e0 (by decide)
  · exact absurd e1 (by decide)
  · exact absurd e2 (by decide)
  · exact absurd e3 (by decide)
  · exact absurd e4 (by decide)
  · refine s_aload_n (n := 111) (i := 0) dX5_count_110 rfl rfl rfl ?_
    refine gf_X5_19 (n := 114) rfl dX5_count_111 rfl (by assumption) (by rfl) ?_
    refine s_iconst (n := 115) (v := 4) dX5_count_114 rfl (by decide) ?_
    refine s_iald (n := 116) dX5_count_115 rfl (by assumption) (mj_ixe (j := 4) rfl (by omega)) ?_
    refine s_ireturn dX5_count_116 rfl (rfl) (Nat.le_refl _) (Nat.le_refl _) ?_
    exact rI_ok rfl
  · exact absurd e6 (by decide)
  · exact absurd e7 (by decide)
  · exact absurd rfl e5
set_option maxRecDepth 100000 in
set_option maxHeartbeats 4000000 in
theorem y_count6 {G : mj_G} {h : mj_H} {d : Nat} {τ : Nat → Nat → Int32} (hY : YS G h τ) {n : Nat} (hn : τ 0 2 = nI n) (h7 : n ≤ 7) (hd : 2 ≤ d) : mj_con G MX5_count d 0 0 [.ref (G.1 + 220), .int 6] h (rI (cnY n τ 6) h) := by
  refine mj_conV okX5_count (ls := [some (.ref (G.1 + 220)), some (.int 6), none, none]) rfl rfl ?_
  obtain ⟨y0, y1, y2, y3, y4, y5, y6, y7, y8, y9, y10, y11, y12⟩ := id hY
  refine s_iconst (n := 1) (v := 0) dX5_count_0 rfl (by decide) ?_
  refine s_istore_n (n := 2) (i := 2) (ls' := [_, _, _, _]) dX5_count_1 rfl rfl rfl rfl rfl ?_
  refine s_iconst (n := 3) (v := 0) dX5_count_2 rfl (by decide) ?_
  refine s_istore_n (n := 4) (i := 3) (ls' := [_, _, _, _]) dX5_count_3 rfl rfl rfl rfl rfl ?_
  refine l_ycount hY (fun o3 => ?_) 8 0 (by omega)
  refine s_iload_n (n := 34) (i := 1) dX5_count_33 rfl rfl rfl ?_
  refine t_X5_count_34 dX5_count_34 (fun e0 => ?_) (fun e1 => ?_) (fun e2 => ?_) (fun e3 => ?_) (fun e4 => ?_) (fun e5 => ?_) (fun e6 => ?_) (fun e7 => ?_) (fun e0 e1 e2 e3 e4 e5 e6 e7 => ?_)
  · exact absurd e0 (by decide)
  · exact absurd e1 (by decide)
  · exact absurd e2 (by decide)
  · exact absurd e3 (by decide)
  · exact absurd e4 (by decide)
  · exact absurd e5 (by decide)
  · refine s_aload_n (n := 118) (i := 0) dX5_count_117 rfl rfl rfl ?_
    refine gf_X5_136 (n := 121) rfl dX5_count_118 rfl (by assumption) (by rfl) ?_
    refine s_ireturn dX5_count_121 rfl (rfl) (Nat.le_refl _) (Nat.le_refl _) ?_
    exact rI_ok rfl
  · exact absurd e7 (by decide)
  · exact absurd rfl e6
set_option maxRecDepth 100000 in
set_option maxHeartbeats 4000000 in
theorem y_count7 {G : mj_G} {h : mj_H} {d : Nat} {τ : Nat → Nat → Int32} (hY : YS G h τ) {n : Nat} (hn : τ 0 2 = nI n) (h7 : n ≤ 7) (hd : 2 ≤ d) : mj_con G MX5_count d 0 0 [.ref (G.1 + 220), .int 7] h (rI (cnY n τ 7) h) := by
  refine mj_conV okX5_count (ls := [some (.ref (G.1 + 220)), some (.int 7), none, none]) rfl rfl ?_
  obtain ⟨y0, y1, y2, y3, y4, y5, y6, y7, y8, y9, y10, y11, y12⟩ := id hY
  refine s_iconst (n := 1) (v := 0) dX5_count_0 rfl (by decide) ?_
  refine s_istore_n (n := 2) (i := 2) (ls' := [_, _, _, _]) dX5_count_1 rfl rfl rfl rfl rfl ?_
  refine s_iconst (n := 3) (v := 0) dX5_count_2 rfl (by decide) ?_
  refine s_istore_n (n := 4) (i := 3) (ls' := [_, _, _, _]) dX5_count_3 rfl rfl rfl rfl rfl ?_
  refine l_ycount hY (fun o3 => ?_) 8 0 (by omega)
  refine s_iload_n (n := 34) (i := 1) dX5_count_33 rfl rfl rfl ?_
  refine t_X5_count_34 dX5_count_34 (fun e0 => ?_) (fun e1 => ?_) (fun e2 => ?_) (fun e3 => ?_) (fun e4 => ?_) (fun e5 => ?_) (fun e6 => ?_) (fun e7 => ?_) (fun e0 e1 e2 e3 e4 e5 e6 e7 => ?_)
  · exact absurd e0 (by decide)
  · exact absurd e1 (by decide)
  · exact absurd e2 (by decide)
  · exact absurd e3 (by decide)
  · exact absurd e4 (by decide)
  · exact absurd e5 (by decide)
  · exact absurd e6 (by decide)
  · refine s_aload_n (n := 123) (i := 0) dX5_count_122 rfl rfl rfl ?_
    refine gf_X5_78 (n := 126) rfl dX5_count_123 rfl (by assumption) (by rfl) ?_
    refine s_ireturn dX5_count_126 rfl (rfl) (Nat.le_refl _) (Nat.le_refl _) ?_
    exact rI_ok rfl
  · exact absurd rfl e7
/-- a body leaves its number -/
def bg (b : Int32) (τ : Nat → Nat → Int32) : Nat → Nat → Int32 := if τ 12 10 < 16 then u2 (u2 τ 11 (upd (τ 11) (τ 12 10).toNatClampNeg b)) 12 (upd (τ 12) 10 (τ 12 10 + 1)) else τ
def okt (τ : Nat → Nat → Int32) : Prop := ∃ t : Nat, t ≤ 16 ∧ τ 12 10 = nI t
theorem okt_bg {b : Int32} {τ : Nat → Nat → Int32} (h : okt τ) : okt (bg b τ) := by
  obtain ⟨t, h1, h2⟩ := h
  unfold bg
  rw [h2]
  by_cases q : nI t < 16
  · rw [if_pos q]
    have := (nI_ltE (b := 16) (by omega) (by omega)).mp q
    refine ⟨t + 1, by omega, ?_⟩
    show upd (τ 12) 10 (nI t + 1) 10 = _
    rw [up_eq, nI_1]
  · rw [if_neg q]
    exact ⟨t, h1, h2⟩
theorem bg_0 {b : Int32} {τ : Nat → Nat → Int32} : bg b τ 0 = τ 0 := by
  unfold bg
  split <;> rfl
set_option maxRecDepth 100000 in
set_option maxHeartbeats 4000000 in
theorem y_begin {G : mj_G} {h : mj_H} {d : Nat} {τ : Nat → Nat → Int32} (hY : YS G h τ) {b : Int32} (ht : okt τ) : mj_con G MX5_begin d 0 0 [.ref (G.1 + 220), .int b] h (fun v h' => v = none ∧ YS G h' (bg b τ) ∧ mj_fr 220 13 h h') := by
  refine mj_conV okX5_begin (ls := [some (.ref (G.1 + 220)), some (.int b)]) rfl rfl ?_
  obtain ⟨y0, y1, y2, y3, y4, y5, y6, y7, y8, y9, y10, y11, y12⟩ := id hY
  obtain ⟨t, ht1, ht2⟩ := ht
  refine s_aload_n (n := 1) (i := 0) dX5_begin_0 rfl rfl rfl ?_
  refine gf_X5_234 (n := 4) rfl dX5_begin_1 rfl (by assumption) (by rfl) ?_
  refine s_bipush (n := 6) (v := 16) dX5_begin_4 rfl (by decide) ?_
  refine s_icmp_ge (n := 9) (tgt := 29) dX5_begin_6 rfl rfl (fun b6 => ?_) (fun b6 => ?_)
  · have e : bg b τ = τ := if_neg (Int32.not_lt.mpr b6)
    refine s_return dX5_begin_29 rfl (Nat.le_refl _) (Nat.le_refl _) ?_
    rw [e]
    first | exact ⟨rfl, hY2, fr_tr hF1 hF2⟩ | exact ⟨rfl, hY, fr_rf⟩
  · have e : bg b τ = u2 (u2 τ 11 (upd (τ 11) t b)) 12 (upd (τ 12) 10 (τ 12 10 + 1)) := by
      unfold bg
      rw [if_pos (Int32.not_le.mp b6), show (τ 12 10).toNatClampNeg = t from by rw [ht2]; exact nI_clamp (by omega)]
    rw [ht2] at b6
    refine s_aload_n (n := 10) (i := 0) dX5_begin_9 rfl rfl rfl ?_
    refine gf_X5_44 (n := 13) rfl dX5_begin_10 rfl (by assumption) (by rfl) ?_
    refine s_aload_n (n := 14) (i := 0) dX5_begin_13 rfl rfl rfl ?_
    refine gf_X5_234 (n := 17) rfl dX5_begin_14 rfl (by assumption) (by rfl) ?_
    rw [ht2]
    refine s_iload_n (n := 18) (i := 1) dX5_begin_17 rfl rfl rfl ?_
    refine s_iast (n := 19) dX5_begin_18 rfl (by assumption) (mj_ixn (by have := (nI_ltE (b := 16) (by omega) (by omega)).mp (Int32.not_le.mp b6); omega)) ?_
    refine YA_11 hY (fun h1 hY1 hF1 => ?_)
    obtain ⟨y0, y1, y2, y3, y4, y5, y6, y7, y8, y9, y10, y11, y12⟩ := id hY1
    replace y0 : h1.2 220 = YO G (τ 12) := y0
    refine s_aload_n (n := 20) (i := 0) dX5_begin_19 rfl rfl rfl ?_
    refine s_dup (n := 21) dX5_begin_20 rfl rfl ?_
    refine gf_X5_234 (n := 24) rfl dX5_begin_21 rfl (by assumption) (by rfl) ?_
    refine s_iconst (n := 25) (v := 1) dX5_begin_24 rfl (by decide) ?_
    refine s_iadd (n := 26) dX5_begin_25 rfl ?_
    refine pf_X5_234 (n := 29) (fs' := [_, _, _, _, _, _, _, _, _, _, _, _, _, _, _, _, _, _, _, _, _, _, _]) rfl dX5_begin_26 rfl (by assumption) (by rfl) (by rfl) ?_
    refine YF_10 (τ := u2 τ 11 (upd (τ 11) t b)) hY1 (fun h2 hY2 hF2 => ?_)
    refine s_return dX5_begin_29 rfl (Nat.le_refl _) (Nat.le_refl _) ?_
    rw [e]
    first | exact ⟨rfl, hY2, fr_tr hF1 hF2⟩ | exact ⟨rfl, hY, fr_rf⟩
set_option maxRecDepth 100000 in
set_option maxHeartbeats 4000000 in
theorem y_lent10 {G : mj_G} {h : mj_H} {d : Nat} {τ : Nat → Nat → Int32} (hY : YS G h τ) (ht : okt τ) {j : Nat} (hj : j < 7) (hd : 1 ≤ d) : mj_con G MX5_lent d 0 0 [.ref (G.1 + 220), .int (nI j), .int 10] h (fun v h' => v = some (.int (τ 0 (13 + j))) ∧ YS G h' (bg 10 τ) ∧ mj_fr 220 13 h h') := by
  refine mj_conV okX5_lent (ls := [some (.ref (G.1 + 220)), some (.int (nI j)), some (.int 10)]) rfl rfl ?_
  obtain ⟨y0, y1, y2, y3, y4, y5, y6, y7, y8, y9, y10, y11, y12⟩ := id hY
  refine s_aload_n (n := 1) (i := 0) dX5_lent_0 rfl rfl rfl ?_
  refine s_iload_n (n := 2) (i := 2) dX5_lent_1 rfl rfl rfl ?_
  refine s_v1 (M' := MX5_begin) (n := 5) (ci := 5) dX5_lent_2 rfl wd_X5_237 okX5_begin rfl rfl (by omega) ⟨Nat.le_refl _, Nat.le_refl _⟩ (by assumption) (y_begin (d := d - 1) hY ht) ?_
  rintro v2 hh2 ⟨rfl, hY1, hF1⟩
  obtain ⟨y0, y1, y2, y3, y4, y5, y6, y7, y8, y9, y10, y11, y12⟩ := id hY1
  replace y4 : hh2.2 224 = mj_ar 0 48 ((bg 10 τ) 0) := y4
  rw [bg_0] at y4
  refine s_iload_n (n := 6) (i := 2) dX5_lent_5 rfl rfl rfl ?_
  refine s_bipush (n := 8) (v := 10) dX5_lent_6 rfl (by decide) ?_
  refine s_icmp_ne (n := 11) (tgt := 23) dX5_lent_8 rfl rfl (fun b8 => ?_) (fun b8 => ?_)
  · exact absurd rfl b8
  · refine s_aload_n (n := 12) (i := 0) dX5_lent_11 rfl rfl rfl ?_
    refine gf_X5_19 (n := 15) rfl dX5_lent_12 rfl (by assumption) (by rfl) ?_
    refine s_bipush (n := 17) (v := 13) dX5_lent_15 rfl (by decide) ?_
    refine s_iload_n (n := 18) (i := 1) dX5_lent_17 rfl rfl rfl ?_
    refine s_iadd (n := 19) dX5_lent_18 rfl ?_
    refine s_iald (n := 20) dX5_lent_19 rfl (by assumption) (mj_ixa (o := 13) rfl (by omega)) ?_
    refine s_goto (tgt := 24) dX5_lent_20 rfl ?_
    refine s_ireturn dX5_lent_24 rfl (rfl) (Nat.le_refl _) (Nat.le_refl _) ?_
    exact ⟨rfl, hY1, hF1⟩
set_option maxRecDepth 100000 in
set_option maxHeartbeats 4000000 in
theorem y_lent20 {G : mj_G} {h : mj_H} {d : Nat} {τ : Nat → Nat → Int32} (hY : YS G h τ) (ht : okt τ) {j : Nat} (hj : j < 7) (hd : 1 ≤ d) : mj_con G MX5_lent d 0 0 [.ref (G.1 + 220), .int (nI j), .int 20] h (fun v h' => v = some (.int (nI j)) ∧ YS G h' (bg 20 τ) ∧ mj_fr 220 13 h h') := by
  refine mj_conV okX5_lent (ls := [some (.ref (G.1 + 220)), some (.int (nI j)), some (.int 20)]) rfl rfl ?_
  obtain ⟨y0, y1, y2, y3, y4, y5, y6, y7, y8, y9, y10, y11, y12⟩ := id hY
  refine s_aload_n (n := 1) (i := 0) dX5_lent_0 rfl rfl rfl ?_
  refine s_iload_n (n := 2) (i := 2) dX5_lent_1 rfl rfl rfl ?_
  refine s_v1 (M' := MX5_begin) (n := 5) (ci := 5) dX5_lent_2 rfl wd_X5_237 okX5_begin rfl rfl (by omega) ⟨Nat.le_refl _, Nat.le_refl _⟩ (by assumption) (y_begin (d := d - 1) hY ht) ?_
  rintro v2 hh2 ⟨rfl, hY1, hF1⟩
  obtain ⟨y0, y1, y2, y3, y4, y5, y6, y7, y8, y9, y10, y11, y12⟩ := id hY1
  replace y4 : hh2.2 224 = mj_ar 0 48 ((bg 20 τ) 0) := y4
  rw [bg_0] at y4
  refine s_iload_n (n := 6) (i := 2) dX5_lent_5 rfl rfl rfl ?_
  refine s_bipush (n := 8) (v := 10) dX5_lent_6 rfl (by decide) ?_
  refine s_icmp_ne (n := 11) (tgt := 23) dX5_lent_8 rfl rfl (fun b8 => ?_) (fun b8 => ?_)
  · refine s_iload_n (n := 24) (i := 1) dX5_lent_23 rfl rfl rfl ?_
    refine s_ireturn dX5_lent_24 rfl (rfl) (Nat.le_refl _) (Nat.le_refl _) ?_
    exact ⟨rfl, hY1, hF1⟩
  · exact absurd b8 (by decide)
set_option maxRecDepth 100000 in
set_option maxHeartbeats 4000000 in
theorem y_kMark {G : mj_G} {h : mj_H} {d : Nat} {τ : Nat → Nat → Int32} (hY : YS G h τ) (ht : okt τ) {j : Nat} (hj : j < 7) (hd : 2 ≤ d) : mj_con G MX5_kindlyMark d 0 0 [.ref (G.1 + 220), .int (nI j)] h (fun v h' => v = some (.int (nI j + τ 0 (34 + j))) ∧ YS G h' (bg 20 (bg 21 τ)) ∧ mj_fr 220 13 h h') := by
  refine mj_conV okX5_kindlyMark (ls := [some (.ref (G.1 + 220)), some (.int (nI j))]) rfl rfl ?_
  obtain ⟨y0, y1, y2, y3, y4, y5, y6, y7, y8, y9, y10, y11, y12⟩ := id hY
  refine s_aload_n (n := 1) (i := 0) dX5_kindlyMark_0 rfl rfl rfl ?_
  refine s_bipush (n := 3) (v := 21) dX5_kindlyMark_1 rfl (by decide) ?_
  refine s_v1 (M' := MX5_begin) (n := 6) (ci := 5) dX5_kindlyMark_3 rfl wd_X5_237 okX5_begin rfl rfl (by omega) ⟨Nat.le_refl _, Nat.le_refl _⟩ (by assumption) (y_begin (d := d - 1) hY ht) ?_
  rintro v3 hh3 ⟨rfl, hY1, hF1⟩
  obtain ⟨y0, y1, y2, y3, y4, y5, y6, y7, y8, y9, y10, y11, y12⟩ := id hY1
  replace y4 : hh3.2 224 = mj_ar 0 48 ((bg 21 τ) 0) := y4
  rw [bg_0] at y4
  refine s_aload_n (n := 7) (i := 0) dX5_kindlyMark_6 rfl rfl rfl ?_
  refine s_iload_n (n := 8) (i := 1) dX5_kindlyMark_7 rfl rfl rfl ?_
  refine s_bipush (n := 10) (v := 20) dX5_kindlyMark_8 rfl (by decide) ?_
  refine s_v2 (M' := MX5_lent) (n := 13) (ci := 5) dX5_kindlyMark_10 rfl wd_X5_240 okX5_lent rfl rfl (by omega) ⟨Nat.le_refl _, Nat.le_refl _⟩ (by assumption) (y_lent20 (d := d - 1) hY1 (okt_bg ht) hj (by omega)) ?_
  rintro v10 hh10 ⟨rfl, hY2, hF2⟩
  obtain ⟨y0, y1, y2, y3, y4, y5, y6, y7, y8, y9, y10, y11, y12⟩ := id hY2
  replace y4 : hh10.2 224 = mj_ar 0 48 ((bg 20 (bg 21 τ)) 0) := y4
  simp only [bg_0] at y4
  refine s_aload_n (n := 14) (i := 0) dX5_kindlyMark_13 rfl rfl rfl ?_
  refine gf_X5_19 (n := 17) rfl dX5_kindlyMark_14 rfl (by assumption) (by rfl) ?_
  refine s_bipush (n := 19) (v := 34) dX5_kindlyMark_17 rfl (by decide) ?_
  refine s_iload_n (n := 20) (i := 1) dX5_kindlyMark_19 rfl rfl rfl ?_
  refine s_iadd (n := 21) dX5_kindlyMark_20 rfl ?_
  refine s_iald (n := 22) dX5_kindlyMark_21 rfl (by assumption) (mj_ixa (o := 34) rfl (by omega)) ?_
  refine s_iadd (n := 23) dX5_kindlyMark_22 rfl ?_
  refine s_ireturn dX5_kindlyMark_23 rfl (rfl) (Nat.le_refl _) (Nat.le_refl _) ?_
  refine ⟨?_, hY2, fr_tr hF1 hF2⟩
  first | rfl | simp only [bg_0]
set_option maxRecDepth 100000 in
set_option maxHeartbeats 4000000 in
theorem y_sSize {G : mj_G} {h : mj_H} {d : Nat} {τ : Nat → Nat → Int32} (hY : YS G h τ) (ht : okt τ) {j : Nat} (hj : j < 7) (hd : 2 ≤ d) : mj_con G MX5_silentSize d 0 0 [.ref (G.1 + 220), .int (nI j)] h (fun v h' => v = some (.int (τ 0 (13 + j) - 100)) ∧ YS G h' (bg 10 (bg 13 τ)) ∧ mj_fr 220 13 h h') := by
  refine mj_conV okX5_silentSize (ls := [some (.ref (G.1 + 220)), some (.int (nI j))]) rfl rfl ?_
  obtain ⟨y0, y1, y2, y3, y4, y5, y6, y7, y8, y9, y10, y11, y12⟩ := id hY
  refine s_aload_n (n := 1) (i := 0) dX5_silentSize_0 rfl rfl rfl ?_
  refine s_bipush (n := 3) (v := 13) dX5_silentSize_1 rfl (by decide) ?_
  refine s_v1 (M' := MX5_begin) (n := 6) (ci := 5) dX5_silentSize_3 rfl wd_X5_237 okX5_begin rfl rfl (by omega) ⟨Nat.le_refl _, Nat.le_refl _⟩ (by assumption) (y_begin (d := d - 1) hY ht) ?_
  rintro v3 hh3 ⟨rfl, hY1, hF1⟩
  obtain ⟨y0, y1, y2, y3, y4, y5, y6, y7, y8, y9, y10, y11, y12⟩ := id hY1
  replace y4 : hh3.2 224 = mj_ar 0 48 ((bg 13 τ) 0) := y4
  rw [bg_0] at y4
  refine s_aload_n (n := 7) (i := 0) dX5_silentSize_6 rfl rfl rfl ?_
  refine s_iload_n (n := 8) (i := 1) dX5_silentSize_7 rfl rfl rfl ?_
  refine s_bipush (n := 10) (v := 10) dX5_silentSize_8 rfl (by decide) ?_
  refine s_v2 (M' := MX5_lent) (n := 13) (ci := 5) dX5_silentSize_10 rfl wd_X5_240 okX5_lent rfl rfl (by omega) ⟨Nat.le_refl _, Nat.le_refl _⟩ (by assumption) (y_lent10 (d := d - 1) hY1 (okt_bg ht) hj (by omega)) ?_
  rintro v10 hh10 ⟨rfl, hY2, hF2⟩
  obtain ⟨y0, y1, y2, y3, y4, y5, y6, y7, y8, y9, y10, y11, y12⟩ := id hY2
  replace y4 : hh10.2 224 = mj_ar 0 48 ((bg 10 (bg 13 τ)) 0) := y4
  simp only [bg_0] at y4
  refine s_bipush (n := 15) (v := 100) dX5_silentSize_13 rfl (by decide) ?_
  refine s_isub (n := 16) dX5_silentSize_15 rfl ?_
  refine s_ireturn dX5_silentSize_16 rfl (rfl) (Nat.le_refl _) (Nat.le_refl _) ?_
  refine ⟨?_, hY2, fr_tr hF1 hF2⟩
  first | rfl | simp only [bg_0]
set_option maxRecDepth 100000 in
set_option maxHeartbeats 4000000 in
theorem y_sos5 {G : mj_G} {h : mj_H} {d : Nat} {τ : Nat → Nat → Int32} (hY : YS G h τ) (ht : okt τ) {j : Nat} (hj : j < 7) (hc : τ 0 (6 + j) = 5) (hd : 3 ≤ d) : mj_con G MX5_sizeOfSilent d 0 0 [.ref (G.1 + 220), .int (nI j)] h (fun v h' => v = some (.int (2 * (τ 0 (13 + j) - 100))) ∧ YS G h' (bg 10 (bg 13 (bg 14 τ))) ∧ mj_fr 220 13 h h') := by
  refine mj_conV okX5_sizeOfSilent (ls := [some (.ref (G.1 + 220)), some (.int (nI j))]) rfl rfl ?_
  obtain ⟨y0, y1, y2, y3, y4, y5, y6, y7, y8, y9, y10, y11, y12⟩ := id hY
  refine s_aload_n (n := 1) (i := 0) dX5_sizeOfSilent_0 rfl rfl rfl ?_
  refine gf_X5_19 (n := 4) rfl dX5_sizeOfSilent_1 rfl (by assumption) (by rfl) ?_
  refine s_bipush (n := 6) (v := 6) dX5_sizeOfSilent_4 rfl (by decide) ?_
  refine s_iload_n (n := 7) (i := 1) dX5_sizeOfSilent_6 rfl rfl rfl ?_
  refine s_iadd (n := 8) dX5_sizeOfSilent_7 rfl ?_
  refine s_iald (n := 9) dX5_sizeOfSilent_8 rfl (by assumption) (mj_ixa (o := 6) rfl (by omega)) ?_
  rw [hc]
  refine s_iconst (n := 10) (v := 5) dX5_sizeOfSilent_9 rfl (by decide) ?_
  refine s_icmp_ne (n := 13) (tgt := 27) dX5_sizeOfSilent_10 rfl rfl (fun b10 => ?_) (fun b10 => ?_)
  · exact absurd rfl b10
  · refine s_aload_n (n := 14) (i := 0) dX5_sizeOfSilent_13 rfl rfl rfl ?_
    refine s_bipush (n := 16) (v := 14) dX5_sizeOfSilent_14 rfl (by decide) ?_
    refine s_v1 (M' := MX5_begin) (n := 19) (ci := 5) dX5_sizeOfSilent_16 rfl wd_X5_237 okX5_begin rfl rfl (by omega) ⟨Nat.le_refl _, Nat.le_refl _⟩ (by assumption) (y_begin (d := d - 1) hY ht) ?_
    rintro v16 hh16 ⟨rfl, hY1, hF1⟩
    obtain ⟨y0, y1, y2, y3, y4, y5, y6, y7, y8, y9, y10, y11, y12⟩ := id hY1
    replace y4 : hh16.2 224 = mj_ar 0 48 ((bg 14 τ) 0) := y4
    rw [bg_0] at y4
    refine s_iconst (n := 20) (v := 2) dX5_sizeOfSilent_19 rfl (by decide) ?_
    refine s_aload_n (n := 21) (i := 0) dX5_sizeOfSilent_20 rfl rfl rfl ?_
    refine s_iload_n (n := 22) (i := 1) dX5_sizeOfSilent_21 rfl rfl rfl ?_
    refine s_v1 (M' := MX5_silentSize) (n := 25) (ci := 5) dX5_sizeOfSilent_22 rfl wd_X5_243 okX5_silentSize rfl rfl (by omega) ⟨Nat.le_refl _, Nat.le_refl _⟩ (by assumption) (y_sSize (d := d - 1) hY1 (okt_bg ht) hj (by omega)) ?_
    rintro v22 hh22 ⟨rfl, hY2, hF2⟩
    obtain ⟨y0, y1, y2, y3, y4, y5, y6, y7, y8, y9, y10, y11, y12⟩ := id hY2
    replace y4 : hh22.2 224 = mj_ar 0 48 ((bg 10 (bg 13 (bg 14 τ))) 0) := y4
    simp only [bg_0] at y4
    refine s_imul (n := 26) dX5_sizeOfSilent_25 rfl ?_
    refine s_ireturn dX5_sizeOfSilent_26 rfl (rfl) (Nat.le_refl _) (Nat.le_refl _) ?_
    refine ⟨?_, hY2, fr_tr hF1 hF2⟩
    first | rfl | simp only [bg_0]
set_option maxRecDepth 100000 in
set_option maxHeartbeats 4000000 in
theorem y_sos4 {G : mj_G} {h : mj_H} {d : Nat} {τ : Nat → Nat → Int32} (hY : YS G h τ) (ht : okt τ) {j : Nat} (hj : j < 7) (hc : τ 0 (6 + j) = 4) (hd : 3 ≤ d) : mj_con G MX5_sizeOfSilent d 0 0 [.ref (G.1 + 220), .int (nI j)] h (fun v h' => v = some (.int (τ 0 (13 + j) - 100)) ∧ YS G h' (bg 10 (bg 13 τ)) ∧ mj_fr 220 13 h h') := by
  refine mj_conV okX5_sizeOfSilent (ls := [some (.ref (G.1 + 220)), some (.int (nI j))]) rfl rfl ?_
  obtain ⟨y0, y1, y2, y3, y4, y5, y6, y7, y8, y9, y10, y11, y12⟩ := id hY
  refine s_aload_n (n := 1) (i := 0) dX5_sizeOfSilent_0 rfl rfl rfl ?_
  refine gf_X5_19 (n := 4) rfl dX5_sizeOfSilent_1 rfl (by assumption) (by rfl) ?_
  refine s_bipush (n := 6) (v := 6) dX5_sizeOfSilent_4 rfl (by decide) ?_
  refine s_iload_n (n := 7) (i := 1) dX5_sizeOfSilent_6 rfl rfl rfl ?_
  refine s_iadd (n := 8) dX5_sizeOfSilent_7 rfl ?_
  refine s_iald (n := 9) dX5_sizeOfSilent_8 rfl (by assumption) (mj_ixa (o := 6) rfl (by omega)) ?_
  rw [hc]
  refine s_iconst (n := 10) (v := 5) dX5_sizeOfSilent_9 rfl (by decide) ?_
  refine s_icmp_ne (n := 13) (tgt := 27) dX5_sizeOfSilent_10 rfl rfl (fun b10 => ?_) (fun b10 => ?_)
  · refine s_aload_n (n := 28) (i := 0) dX5_sizeOfSilent_27 rfl rfl rfl ?_
    refine s_iload_n (n := 29) (i := 1) dX5_sizeOfSilent_28 rfl rfl rfl ?_
    refine s_v1 (M' := MX5_silentSize) (n := 32) (ci := 5) dX5_sizeOfSilent_29 rfl wd_X5_243 okX5_silentSize rfl rfl (by omega) ⟨Nat.le_refl _, Nat.le_refl _⟩ (by assumption) (y_sSize (d := d - 1) hY ht hj (by omega)) ?_
    rintro v29 hh29 ⟨rfl, hY2, hF2⟩
    refine s_ireturn dX5_sizeOfSilent_32 rfl (rfl) (Nat.le_refl _) (Nat.le_refl _) ?_
    refine ⟨?_, hY2, hF2⟩
    first | rfl | simp only [bg_0]
  · exact absurd b10 (by decide)
set_option maxRecDepth 100000 in
set_option maxHeartbeats 4000000 in
theorem y_mk1 {G : mj_G} {h : mj_H} {d : Nat} {τ : Nat → Nat → Int32} (hY : YS G h τ) (ht : okt τ) {j : Nat} (hj : j < 7) (hc : τ 0 (6 + j) = 1) (hd : 3 ≤ d) : mj_con G MX5_markOf d 0 0 [.ref (G.1 + 220), .int (nI j)] h (fun v h' => v = some (.int (nI j + τ 0 (34 + j))) ∧ YS G h' (bg 20 (bg 21 τ)) ∧ mj_fr 220 13 h h') := by
  refine mj_conV okX5_markOf (ls := [some (.ref (G.1 + 220)), some (.int (nI j)), none, none]) rfl rfl ?_
  obtain ⟨y0, y1, y2, y3, y4, y5, y6, y7, y8, y9, y10, y11, y12⟩ := id hY
  refine s_aload_n (n := 1) (i := 0) dX5_markOf_0 rfl rfl rfl ?_
  refine gf_X5_19 (n := 4) rfl dX5_markOf_1 rfl (by assumption) (by rfl) ?_
  refine s_bipush (n := 6) (v := 6) dX5_markOf_4 rfl (by decide) ?_
  refine s_iload_n (n := 7) (i := 1) dX5_markOf_6 rfl rfl rfl ?_
  refine s_iadd (n := 8) dX5_markOf_7 rfl ?_
  refine s_iald (n := 9) dX5_markOf_8 rfl (by assumption) (mj_ixa (o := 6) rfl (by omega)) ?_
  rw [hc]
  refine s_istore_n (n := 10) (i := 2) (ls' := [_, _, _, _]) dX5_markOf_9 rfl rfl rfl rfl rfl ?_
  refine s_iload_n (n := 11) (i := 2) dX5_markOf_10 rfl rfl rfl ?_
  refine s_iconst (n := 12) (v := 2) dX5_markOf_11 rfl (by decide) ?_
  refine s_icmp_ne (n := 15) (tgt := 29) dX5_markOf_12 rfl rfl (fun b12 => ?_) (fun b12 => ?_)
  · refine s_iload_n (n := 30) (i := 2) dX5_markOf_29 rfl rfl rfl ?_
    refine s_iconst (n := 31) (v := 3) dX5_markOf_30 rfl (by decide) ?_
    refine s_icmp_ne (n := 34) (tgt := 50) dX5_markOf_31 rfl rfl (fun b31 => ?_) (fun b31 => ?_)
    · refine s_iload_n (n := 51) (i := 2) dX5_markOf_50 rfl rfl rfl ?_
      refine s_iconst (n := 52) (v := 1) dX5_markOf_51 rfl (by decide) ?_
      refine s_icmp_ne (n := 55) (tgt := 61) dX5_markOf_52 rfl rfl (fun b52 => ?_) (fun b52 => ?_)
      · exact absurd rfl b52
      · refine s_aload_n (n := 56) (i := 0) dX5_markOf_55 rfl rfl rfl ?_
        refine s_iload_n (n := 57) (i := 1) dX5_markOf_56 rfl rfl rfl ?_
        refine s_v1 (M' := MX5_kindlyMark) (n := 60) (ci := 5) dX5_markOf_57 rfl wd_X5_246 okX5_kindlyMark rfl rfl (by omega) ⟨Nat.le_refl _, Nat.le_refl _⟩ (by assumption) (y_kMark (d := d - 1) hY ht hj (by omega)) ?_
        rintro v57 hh57 ⟨rfl, hY2, hF2⟩
        refine s_ireturn dX5_markOf_60 rfl (rfl) (Nat.le_refl _) (Nat.le_refl _) ?_
        refine ⟨?_, hY2, hF2⟩
        first | rfl | simp only [bg_0]
    · exact absurd b31 (by decide)
  · exact absurd b12 (by decide)
set_option maxRecDepth 100000 in
set_option maxHeartbeats 4000000 in
theorem y_mk2 {G : mj_G} {h : mj_H} {d : Nat} {τ : Nat → Nat → Int32} (hY : YS G h τ) (ht : okt τ) {j : Nat} (hj : j < 7) (hc : τ 0 (6 + j) = 2) (hd : 3 ≤ d) : mj_con G MX5_markOf d 0 0 [.ref (G.1 + 220), .int (nI j)] h (fun v h' => v = some (.int (2 * (nI j + τ 0 (34 + j)))) ∧ YS G h' (bg 20 (bg 21 (bg 24 τ))) ∧ mj_fr 220 13 h h') := by
  refine mj_conV okX5_markOf (ls := [some (.ref (G.1 + 220)), some (.int (nI j)), none, none]) rfl rfl ?_
  obtain ⟨y0, y1, y2, y3, y4, y5, y6, y7, y8, y9, y10, y11, y12⟩ := id hY
  refine s_aload_n (n := 1) (i := 0) dX5_markOf_0 rfl rfl rfl ?_
  refine gf_X5_19 (n := 4) rfl dX5_markOf_1 rfl (by assumption) (by rfl) ?_
  refine s_bipush (n := 6) (v := 6) dX5_markOf_4 rfl (by decide) ?_
  refine s_iload_n (n := 7) (i := 1) dX5_markOf_6 rfl rfl rfl ?_
  refine s_iadd (n := 8) dX5_markOf_7 rfl ?_
  refine s_iald (n := 9) dX5_markOf_8 rfl (by assumption) (mj_ixa (o := 6) rfl (by omega)) ?_
  rw [hc]
  refine s_istore_n (n := 10) (i := 2) (ls' := [_, _, _, _]) dX5_markOf_9 rfl rfl rfl rfl rfl ?_
  refine s_iload_n (n := 11) (i := 2) dX5_markOf_10 rfl rfl rfl ?_
  refine s_iconst (n := 12) (v := 2) dX5_markOf_11 rfl (by decide) ?_
  refine s_icmp_ne (n := 15) (tgt := 29) dX5_markOf_12 rfl rfl (fun b12 => ?_) (fun b12 => ?_)
  · exact absurd rfl b12
  · refine s_aload_n (n := 16) (i := 0) dX5_markOf_15 rfl rfl rfl ?_
    refine s_bipush (n := 18) (v := 24) dX5_markOf_16 rfl (by decide) ?_
    refine s_v1 (M' := MX5_begin) (n := 21) (ci := 5) dX5_markOf_18 rfl wd_X5_237 okX5_begin rfl rfl (by omega) ⟨Nat.le_refl _, Nat.le_refl _⟩ (by assumption) (y_begin (d := d - 1) hY ht) ?_
    rintro v18 hh18 ⟨rfl, hY1, hF1⟩
    obtain ⟨y0, y1, y2, y3, y4, y5, y6, y7, y8, y9, y10, y11, y12⟩ := id hY1
    replace y4 : hh18.2 224 = mj_ar 0 48 ((bg 24 τ) 0) := y4
    rw [bg_0] at y4
    refine s_iconst (n := 22) (v := 2) dX5_markOf_21 rfl (by decide) ?_
    refine s_aload_n (n := 23) (i := 0) dX5_markOf_22 rfl rfl rfl ?_
    refine s_iload_n (n := 24) (i := 1) dX5_markOf_23 rfl rfl rfl ?_
    refine s_v1 (M' := MX5_kindlyMark) (n := 27) (ci := 5) dX5_markOf_24 rfl wd_X5_246 okX5_kindlyMark rfl rfl (by omega) ⟨Nat.le_refl _, Nat.le_refl _⟩ (by assumption) (y_kMark (d := d - 1) hY1 (okt_bg ht) hj (by omega)) ?_
    rintro v24 hh24 ⟨rfl, hY2, hF2⟩
    obtain ⟨y0, y1, y2, y3, y4, y5, y6, y7, y8, y9, y10, y11, y12⟩ := id hY2
    replace y4 : hh24.2 224 = mj_ar 0 48 ((bg 20 (bg 21 (bg 24 τ))) 0) := y4
    simp only [bg_0] at y4
    refine s_imul (n := 28) dX5_markOf_27 rfl ?_
    refine s_ireturn dX5_markOf_28 rfl (rfl) (Nat.le_refl _) (Nat.le_refl _) ?_
    refine ⟨?_, hY2, fr_tr hF1 hF2⟩
    first | rfl | simp only [bg_0]
set_option maxRecDepth 100000 in
set_option maxHeartbeats 4000000 in
theorem y_mk3 {G : mj_G} {h : mj_H} {d : Nat} {τ : Nat → Nat → Int32} (hY : YS G h τ) (ht : okt τ) {j : Nat} (hj : j < 7) (hc : τ 0 (6 + j) = 3) (hd : 3 ≤ d) : mj_con G MX5_markOf d 0 0 [.ref (G.1 + 220), .int (nI j)] h (fun v h' => v = some (.int (nI j + τ 0 (34 + j) - 1000)) ∧ YS G h' (bg 20 (bg 21 (bg 22 τ))) ∧ mj_fr 220 13 h h') := by
  refine mj_conV okX5_markOf (ls := [some (.ref (G.1 + 220)), some (.int (nI j)), none, none]) rfl rfl ?_
  obtain ⟨y0, y1, y2, y3, y4, y5, y6, y7, y8, y9, y10, y11, y12⟩ := id hY
  refine s_aload_n (n := 1) (i := 0) dX5_markOf_0 rfl rfl rfl ?_
  refine gf_X5_19 (n := 4) rfl dX5_markOf_1 rfl (by assumption) (by rfl) ?_
  refine s_bipush (n := 6) (v := 6) dX5_markOf_4 rfl (by decide) ?_
  refine s_iload_n (n := 7) (i := 1) dX5_markOf_6 rfl rfl rfl ?_
  refine s_iadd (n := 8) dX5_markOf_7 rfl ?_
  refine s_iald (n := 9) dX5_markOf_8 rfl (by assumption) (mj_ixa (o := 6) rfl (by omega)) ?_
  rw [hc]
  refine s_istore_n (n := 10) (i := 2) (ls' := [_, _, _, _]) dX5_markOf_9 rfl rfl rfl rfl rfl ?_
  refine s_iload_n (n := 11) (i := 2) dX5_markOf_10 rfl rfl rfl ?_
  refine s_iconst (n := 12) (v := 2) dX5_markOf_11 rfl (by decide) ?_
  refine s_icmp_ne (n := 15) (tgt := 29) dX5_markOf_12 rfl rfl (fun b12 => ?_) (fun b12 => ?_)
  · refine s_iload_n (n := 30) (i := 2) dX5_markOf_29 rfl rfl rfl ?_
    refine s_iconst (n := 31) (v := 3) dX5_markOf_30 rfl (by decide) ?_
    refine s_icmp_ne (n := 34) (tgt := 50) dX5_markOf_31 rfl rfl (fun b31 => ?_) (fun b31 => ?_)
    · exact absurd rfl b31
    · refine s_aload_n (n := 35) (i := 0) dX5_markOf_34 rfl rfl rfl ?_
      refine s_bipush (n := 37) (v := 22) dX5_markOf_35 rfl (by decide) ?_
      refine s_v1 (M' := MX5_begin) (n := 40) (ci := 5) dX5_markOf_37 rfl wd_X5_237 okX5_begin rfl rfl (by omega) ⟨Nat.le_refl _, Nat.le_refl _⟩ (by assumption) (y_begin (d := d - 1) hY ht) ?_
      rintro v37 hh37 ⟨rfl, hY1, hF1⟩
      obtain ⟨y0, y1, y2, y3, y4, y5, y6, y7, y8, y9, y10, y11, y12⟩ := id hY1
      replace y4 : hh37.2 224 = mj_ar 0 48 ((bg 22 τ) 0) := y4
      rw [bg_0] at y4
      refine s_aload_n (n := 41) (i := 0) dX5_markOf_40 rfl rfl rfl ?_
      refine s_iload_n (n := 42) (i := 1) dX5_markOf_41 rfl rfl rfl ?_
      refine s_v1 (M' := MX5_kindlyMark) (n := 45) (ci := 5) dX5_markOf_42 rfl wd_X5_246 okX5_kindlyMark rfl rfl (by omega) ⟨Nat.le_refl _, Nat.le_refl _⟩ (by assumption) (y_kMark (d := d - 1) hY1 (okt_bg ht) hj (by omega)) ?_
      rintro v42 hh42 ⟨rfl, hY2, hF2⟩
      obtain ⟨y0, y1, y2, y3, y4, y5, y6, y7, y8, y9, y10, y11, y12⟩ := id hY2
      replace y4 : hh42.2 224 = mj_ar 0 48 ((bg 20 (bg 21 (bg 22 τ))) 0) := y4
      simp only [bg_0] at y4
      refine s_sipush (n := 48) (v := 1000) dX5_markOf_45 rfl (by decide) ?_
      refine s_isub (n := 49) dX5_markOf_48 rfl ?_
      refine s_ireturn dX5_markOf_49 rfl (rfl) (Nat.le_refl _) (Nat.le_refl _) ?_
      refine ⟨?_, hY2, fr_tr hF1 hF2⟩
      first | rfl | simp only [bg_0]
  · exact absurd b12 (by decide)
set_option maxRecDepth 100000 in
set_option maxHeartbeats 4000000 in
theorem y_mk4 {G : mj_G} {h : mj_H} {d : Nat} {τ : Nat → Nat → Int32} (hY : YS G h τ) (ht : okt τ) {j : Nat} (hj : j < 7) (hc : τ 0 (6 + j) = 4) (hd : 4 ≤ d) : mj_con G MX5_markOf d 0 0 [.ref (G.1 + 220), .int (nI j)] h (fun v h' => v = some (.int (nI j - (τ 0 (13 + j) - 100))) ∧ YS G h' (bg 10 (bg 13 (bg 20 (bg 23 τ)))) ∧ mj_fr 220 13 h h') := by
  refine mj_conV okX5_markOf (ls := [some (.ref (G.1 + 220)), some (.int (nI j)), none, none]) rfl rfl ?_
  obtain ⟨y0, y1, y2, y3, y4, y5, y6, y7, y8, y9, y10, y11, y12⟩ := id hY
  refine s_aload_n (n := 1) (i := 0) dX5_markOf_0 rfl rfl rfl ?_
  refine gf_X5_19 (n := 4) rfl dX5_markOf_1 rfl (by assumption) (by rfl) ?_
  refine s_bipush (n := 6) (v := 6) dX5_markOf_4 rfl (by decide) ?_
  refine s_iload_n (n := 7) (i := 1) dX5_markOf_6 rfl rfl rfl ?_
  refine s_iadd (n := 8) dX5_markOf_7 rfl ?_
  refine s_iald (n := 9) dX5_markOf_8 rfl (by assumption) (mj_ixa (o := 6) rfl (by omega)) ?_
  rw [hc]
  refine s_istore_n (n := 10) (i := 2) (ls' := [_, _, _, _]) dX5_markOf_9 rfl rfl rfl rfl rfl ?_
  refine s_iload_n (n := 11) (i := 2) dX5_markOf_10 rfl rfl rfl ?_
  refine s_iconst (n := 12) (v := 2) dX5_markOf_11 rfl (by decide) ?_
  refine s_icmp_ne (n := 15) (tgt := 29) dX5_markOf_12 rfl rfl (fun b12 => ?_) (fun b12 => ?_)
  · refine s_iload_n (n := 30) (i := 2) dX5_markOf_29 rfl rfl rfl ?_
    refine s_iconst (n := 31) (v := 3) dX5_markOf_30 rfl (by decide) ?_
    refine s_icmp_ne (n := 34) (tgt := 50) dX5_markOf_31 rfl rfl (fun b31 => ?_) (fun b31 => ?_)
    · refine s_iload_n (n := 51) (i := 2) dX5_markOf_50 rfl rfl rfl ?_
      refine s_iconst (n := 52) (v := 1) dX5_markOf_51 rfl (by decide) ?_
      refine s_icmp_ne (n := 55) (tgt := 61) dX5_markOf_52 rfl rfl (fun b52 => ?_) (fun b52 => ?_)
      · refine s_aload_n (n := 62) (i := 0) dX5_markOf_61 rfl rfl rfl ?_
        refine s_bipush (n := 64) (v := 23) dX5_markOf_62 rfl (by decide) ?_
        refine s_v1 (M' := MX5_begin) (n := 67) (ci := 5) dX5_markOf_64 rfl wd_X5_237 okX5_begin rfl rfl (by omega) ⟨Nat.le_refl _, Nat.le_refl _⟩ (by assumption) (y_begin (d := d - 1) hY ht) ?_
        rintro v64 hh64 ⟨rfl, hY1, hF1⟩
        obtain ⟨y0, y1, y2, y3, y4, y5, y6, y7, y8, y9, y10, y11, y12⟩ := id hY1
        replace y4 : hh64.2 224 = mj_ar 0 48 ((bg 23 τ) 0) := y4
        rw [bg_0] at y4
        refine s_aload_n (n := 68) (i := 0) dX5_markOf_67 rfl rfl rfl ?_
        refine s_iload_n (n := 69) (i := 1) dX5_markOf_68 rfl rfl rfl ?_
        refine s_bipush (n := 71) (v := 20) dX5_markOf_69 rfl (by decide) ?_
        refine s_v2 (M' := MX5_lent) (n := 74) (ci := 5) dX5_markOf_71 rfl wd_X5_240 okX5_lent rfl rfl (by omega) ⟨Nat.le_refl _, Nat.le_refl _⟩ (by assumption) (y_lent20 (d := d - 1) hY1 (okt_bg ht) hj (by omega)) ?_
        rintro v71 hh71 ⟨rfl, hY2, hF2⟩
        obtain ⟨y0, y1, y2, y3, y4, y5, y6, y7, y8, y9, y10, y11, y12⟩ := id hY2
        replace y4 : hh71.2 224 = mj_ar 0 48 ((bg 20 (bg 23 τ)) 0) := y4
        simp only [bg_0] at y4
        refine s_istore_n (n := 75) (i := 3) (ls' := [_, _, _, _]) dX5_markOf_74 rfl rfl rfl rfl rfl ?_
        refine s_iload_n (n := 76) (i := 3) dX5_markOf_75 rfl rfl rfl ?_
        refine s_aload_n (n := 77) (i := 0) dX5_markOf_76 rfl rfl rfl ?_
        refine s_iload_n (n := 78) (i := 1) dX5_markOf_77 rfl rfl rfl ?_
        refine s_v1 (M' := MX5_sizeOfSilent) (n := 81) (ci := 5) dX5_markOf_78 rfl wd_X5_249 okX5_sizeOfSilent rfl rfl (by omega) ⟨Nat.le_refl _, Nat.le_refl _⟩ (by assumption) (y_sos4 (d := d - 1) hY2 (okt_bg (okt_bg ht)) hj (by simp only [bg_0]; exact hc) (by omega)) ?_
        rintro v78 hh78 ⟨rfl, hY3, hF3⟩
        refine s_isub (n := 82) dX5_markOf_81 rfl ?_
        refine s_ireturn dX5_markOf_82 rfl (rfl) (Nat.le_refl _) (Nat.le_refl _) ?_
        refine ⟨?_, hY3, fr_tr hF1 (fr_tr hF2 hF3)⟩
        first | rfl | simp only [bg_0]
      · exact absurd b52 (by decide)
    · exact absurd b31 (by decide)
  · exact absurd b12 (by decide)
set_option maxRecDepth 100000 in
set_option maxHeartbeats 4000000 in
theorem y_mk5 {G : mj_G} {h : mj_H} {d : Nat} {τ : Nat → Nat → Int32} (hY : YS G h τ) (ht : okt τ) {j : Nat} (hj : j < 7) (hc : τ 0 (6 + j) = 5) (hd : 4 ≤ d) : mj_con G MX5_markOf d 0 0 [.ref (G.1 + 220), .int (nI j)] h (fun v h' => v = some (.int (nI j - 2 * (τ 0 (13 + j) - 100))) ∧ YS G h' (bg 10 (bg 13 (bg 14 (bg 20 (bg 23 τ))))) ∧ mj_fr 220 13 h h') := by
  refine mj_conV okX5_markOf (ls := [some (.ref (G.1 + 220)), some (.int (nI j)), none, none]) rfl rfl ?_
  obtain ⟨y0, y1, y2, y3, y4, y5, y6, y7, y8, y9, y10, y11, y12⟩ := id hY
  refine s_aload_n (n := 1) (i := 0) dX5_markOf_0 rfl rfl rfl ?_
  refine gf_X5_19 (n := 4) rfl dX5_markOf_1 rfl (by assumption) (by rfl) ?_
  refine s_bipush (n := 6) (v := 6) dX5_markOf_4 rfl (by decide) ?_
  refine s_iload_n (n := 7) (i := 1) dX5_markOf_6 rfl rfl rfl ?_
  refine s_iadd (n := 8) dX5_markOf_7 rfl ?_
  refine s_iald (n := 9) dX5_markOf_8 rfl (by assumption) (mj_ixa (o := 6) rfl (by omega)) ?_
  rw [hc]
  refine s_istore_n (n := 10) (i := 2) (ls' := [_, _, _, _]) dX5_markOf_9 rfl rfl rfl rfl rfl ?_
  refine s_iload_n (n := 11) (i := 2) dX5_markOf_10 rfl rfl rfl ?_
  refine s_iconst (n := 12) (v := 2) dX5_markOf_11 rfl (by decide) ?_
  refine s_icmp_ne (n := 15) (tgt := 29) dX5_markOf_12 rfl rfl (fun b12 => ?_) (fun b12 => ?_)
  · refine s_iload_n (n := 30) (i := 2) dX5_markOf_29 rfl rfl rfl ?_
    refine s_iconst (n := 31) (v := 3) dX5_markOf_30 rfl (by decide) ?_
    refine s_icmp_ne (n := 34) (tgt := 50) dX5_markOf_31 rfl rfl (fun b31 => ?_) (fun b31 => ?_)
    · refine s_iload_n (n := 51) (i := 2) dX5_markOf_50 rfl rfl rfl ?_
      refine s_iconst (n := 52) (v := 1) dX5_markOf_51 rfl (by decide) ?_
      refine s_icmp_ne (n := 55) (tgt := 61) dX5_markOf_52 rfl rfl (fun b52 => ?_) (fun b52 => ?_)
      · refine s_aload_n (n := 62) (i := 0) dX5_markOf_61 rfl rfl rfl ?_
        refine s_bipush (n := 64) (v := 23) dX5_markOf_62 rfl (by decide) ?_
        refine s_v1 (M' := MX5_begin) (n := 67) (ci := 5) dX5_markOf_64 rfl wd_X5_237 okX5_begin rfl rfl (by omega) ⟨Nat.le_refl _, Nat.le_refl _⟩ (by assumption) (y_begin (d := d - 1) hY ht) ?_
        rintro v64 hh64 ⟨rfl, hY1, hF1⟩
        obtain ⟨y0, y1, y2, y3, y4, y5, y6, y7, y8, y9, y10, y11, y12⟩ := id hY1
        replace y4 : hh64.2 224 = mj_ar 0 48 ((bg 23 τ) 0) := y4
        rw [bg_0] at y4
        refine s_aload_n (n := 68) (i := 0) dX5_markOf_67 rfl rfl rfl ?_
        refine s_iload_n (n := 69) (i := 1) dX5_markOf_68 rfl rfl rfl ?_
        refine s_bipush (n := 71) (v := 20) dX5_markOf_69 rfl (by decide) ?_
        refine s_v2 (M' := MX5_lent) (n := 74) (ci := 5) dX5_markOf_71 rfl wd_X5_240 okX5_lent rfl rfl (by omega) ⟨Nat.le_refl _, Nat.le_refl _⟩ (by assumption) (y_lent20 (d := d - 1) hY1 (okt_bg ht) hj (by omega)) ?_
        rintro v71 hh71 ⟨rfl, hY2, hF2⟩
        obtain ⟨y0, y1, y2, y3, y4, y5, y6, y7, y8, y9, y10, y11, y12⟩ := id hY2
        replace y4 : hh71.2 224 = mj_ar 0 48 ((bg 20 (bg 23 τ)) 0) := y4
        simp only [bg_0] at y4
        refine s_istore_n (n := 75) (i := 3) (ls' := [_, _, _, _]) dX5_markOf_74 rfl rfl rfl rfl rfl ?_
        refine s_iload_n (n := 76) (i := 3) dX5_markOf_75 rfl rfl rfl ?_
        refine s_aload_n (n := 77) (i := 0) dX5_markOf_76 rfl rfl rfl ?_
        refine s_iload_n (n := 78) (i := 1) dX5_markOf_77 rfl rfl rfl ?_
        refine s_v1 (M' := MX5_sizeOfSilent) (n := 81) (ci := 5) dX5_markOf_78 rfl wd_X5_249 okX5_sizeOfSilent rfl rfl (by omega) ⟨Nat.le_refl _, Nat.le_refl _⟩ (by assumption) (y_sos5 (d := d - 1) hY2 (okt_bg (okt_bg ht)) hj (by simp only [bg_0]; exact hc) (by omega)) ?_
        rintro v78 hh78 ⟨rfl, hY3, hF3⟩
        refine s_isub (n := 82) dX5_markOf_81 rfl ?_
        refine s_ireturn dX5_markOf_82 rfl (rfl) (Nat.le_refl _) (Nat.le_refl _) ?_
        refine ⟨?_, hY3, fr_tr hF1 (fr_tr hF2 hF3)⟩
        first | rfl | simp only [bg_0]
      · exact absurd b52 (by decide)
    · exact absurd b31 (by decide)
  · exact absurd b12 (by decide)
set_option maxRecDepth 100000 in
set_option maxHeartbeats 4000000 in
theorem y_ks1 {G : mj_G} {h : mj_H} {d : Nat} {τ : Nat → Nat → Int32} (hY : YS G h τ) (ht : okt τ) {j : Nat} (hj : j < 7) (hc : τ 0 (6 + j) = 1) (hd : 4 ≤ d) : mj_con G MX5_kindlySize d 0 0 [.ref (G.1 + 220), .int (nI j)] h (fun v h' => v = some (.int (τ 0 (13 + j) + (nI j + τ 0 (34 + j)))) ∧ YS G h' (bg 20 (bg 21 (bg 10 (bg 11 τ)))) ∧ mj_fr 220 13 h h') := by
  refine mj_conV okX5_kindlySize (ls := [some (.ref (G.1 + 220)), some (.int (nI j)), none]) rfl rfl ?_
  obtain ⟨y0, y1, y2, y3, y4, y5, y6, y7, y8, y9, y10, y11, y12⟩ := id hY
  refine s_aload_n (n := 1) (i := 0) dX5_kindlySize_0 rfl rfl rfl ?_
  refine s_bipush (n := 3) (v := 11) dX5_kindlySize_1 rfl (by decide) ?_
  refine s_v1 (M' := MX5_begin) (n := 6) (ci := 5) dX5_kindlySize_3 rfl wd_X5_237 okX5_begin rfl rfl (by omega) ⟨Nat.le_refl _, Nat.le_refl _⟩ (by assumption) (y_begin (d := d - 1) hY ht) ?_
  rintro v3 hh3 ⟨rfl, hY1, hF1⟩
  obtain ⟨y0, y1, y2, y3, y4, y5, y6, y7, y8, y9, y10, y11, y12⟩ := id hY1
  replace y4 : hh3.2 224 = mj_ar 0 48 ((bg 11 τ) 0) := y4
  rw [bg_0] at y4
  refine s_aload_n (n := 7) (i := 0) dX5_kindlySize_6 rfl rfl rfl ?_
  refine s_iload_n (n := 8) (i := 1) dX5_kindlySize_7 rfl rfl rfl ?_
  refine s_bipush (n := 10) (v := 10) dX5_kindlySize_8 rfl (by decide) ?_
  refine s_v2 (M' := MX5_lent) (n := 13) (ci := 5) dX5_kindlySize_10 rfl wd_X5_240 okX5_lent rfl rfl (by omega) ⟨Nat.le_refl _, Nat.le_refl _⟩ (by assumption) (y_lent10 (d := d - 1) hY1 (okt_bg ht) hj (by omega)) ?_
  rintro v10 hh10 ⟨rfl, hY2, hF2⟩
  obtain ⟨y0, y1, y2, y3, y4, y5, y6, y7, y8, y9, y10, y11, y12⟩ := id hY2
  replace y4 : hh10.2 224 = mj_ar 0 48 ((bg 10 (bg 11 τ)) 0) := y4
  simp only [bg_0] at y4
  refine s_istore_n (n := 14) (i := 2) (ls' := [_, _, _]) dX5_kindlySize_13 rfl rfl rfl rfl rfl ?_
  refine s_iload_n (n := 15) (i := 2) dX5_kindlySize_14 rfl rfl rfl ?_
  refine s_aload_n (n := 16) (i := 0) dX5_kindlySize_15 rfl rfl rfl ?_
  refine s_iload_n (n := 17) (i := 1) dX5_kindlySize_16 rfl rfl rfl ?_
  refine s_v1 (M' := MX5_markOf) (n := 20) (ci := 5) dX5_kindlySize_17 rfl wd_X5_252 okX5_markOf rfl rfl (by omega) ⟨Nat.le_refl _, Nat.le_refl _⟩ (by assumption) (y_mk1 (d := d - 1) hY2 (okt_bg (okt_bg ht)) hj (by simp only [bg_0]; exact hc) (by omega)) ?_
  rintro v17 hh17 ⟨rfl, hY3, hF3⟩
  refine s_iadd (n := 21) dX5_kindlySize_20 rfl ?_
  refine s_ireturn dX5_kindlySize_21 rfl (rfl) (Nat.le_refl _) (Nat.le_refl _) ?_
  refine ⟨?_, hY3, fr_tr hF1 (fr_tr hF2 hF3)⟩
  first | rfl | simp only [bg_0]
set_option maxRecDepth 100000 in
set_option maxHeartbeats 4000000 in
theorem y_ks2 {G : mj_G} {h : mj_H} {d : Nat} {τ : Nat → Nat → Int32} (hY : YS G h τ) (ht : okt τ) {j : Nat} (hj : j < 7) (hc : τ 0 (6 + j) = 2) (hd : 4 ≤ d) : mj_con G MX5_kindlySize d 0 0 [.ref (G.1 + 220), .int (nI j)] h (fun v h' => v = some (.int (τ 0 (13 + j) + (2 * (nI j + τ 0 (34 + j))))) ∧ YS G h' (bg 20 (bg 21 (bg 24 (bg 10 (bg 11 τ))))) ∧ mj_fr 220 13 h h') := by
  refine mj_conV okX5_kindlySize (ls := [some (.ref (G.1 + 220)), some (.int (nI j)), none]) rfl rfl ?_
  obtain ⟨y0, y1, y2, y3, y4, y5, y6, y7, y8, y9, y10, y11, y12⟩ := id hY
  refine s_aload_n (n := 1) (i := 0) dX5_kindlySize_0 rfl rfl rfl ?_
  refine s_bipush (n := 3) (v := 11) dX5_kindlySize_1 rfl (by decide) ?_
  refine s_v1 (M' := MX5_begin) (n := 6) (ci := 5) dX5_kindlySize_3 rfl wd_X5_237 okX5_begin rfl rfl (by omega) ⟨Nat.le_refl _, Nat.le_refl _⟩ (by assumption) (y_begin (d := d - 1) hY ht) ?_
  rintro v3 hh3 ⟨rfl, hY1, hF1⟩
  obtain ⟨y0, y1, y2, y3, y4, y5, y6, y7, y8, y9, y10, y11, y12⟩ := id hY1
  replace y4 : hh3.2 224 = mj_ar 0 48 ((bg 11 τ) 0) := y4
  rw [bg_0] at y4
  refine s_aload_n (n := 7) (i := 0) dX5_kindlySize_6 rfl rfl rfl ?_
  refine s_iload_n (n := 8) (i := 1) dX5_kindlySize_7 rfl rfl rfl ?_
  refine s_bipush (n := 10) (v := 10) dX5_kindlySize_8 rfl (by decide) ?_
  refine s_v2 (M' := MX5_lent) (n := 13) (ci := 5) dX5_kindlySize_10 rfl wd_X5_240 okX5_lent rfl rfl (by omega) ⟨Nat.le_refl _, Nat.le_refl _⟩ (by assumption) (y_lent10 (d := d - 1) hY1 (okt_bg ht) hj (by omega)) ?_
  rintro v10 hh10 ⟨rfl, hY2, hF2⟩
  obtain ⟨y0, y1, y2, y3, y4, y5, y6, y7, y8, y9, y10, y11, y12⟩ := id hY2
  replace y4 : hh10.2 224 = mj_ar 0 48 ((bg 10 (bg 11 τ)) 0) := y4
  simp only [bg_0] at y4
  refine s_istore_n (n := 14) (i := 2) (ls' := [_, _, _]) dX5_kindlySize_13 rfl rfl rfl rfl rfl ?_
  refine s_iload_n (n := 15) (i := 2) dX5_kindlySize_14 rfl rfl rfl ?_
  refine s_aload_n (n := 16) (i := 0) dX5_kindlySize_15 rfl rfl rfl ?_
  refine s_iload_n (n := 17) (i := 1) dX5_kindlySize_16 rfl rfl rfl ?_
  refine s_v1 (M' := MX5_markOf) (n := 20) (ci := 5) dX5_kindlySize_17 rfl wd_X5_252 okX5_markOf rfl rfl (by omega) ⟨Nat.le_refl _, Nat.le_refl _⟩ (by assumption) (y_mk2 (d := d - 1) hY2 (okt_bg (okt_bg ht)) hj (by simp only [bg_0]; exact hc) (by omega)) ?_
  rintro v17 hh17 ⟨rfl, hY3, hF3⟩
  refine s_iadd (n := 21) dX5_kindlySize_20 rfl ?_
  refine s_ireturn dX5_kindlySize_21 rfl (rfl) (Nat.le_refl _) (Nat.le_refl _) ?_
  refine ⟨?_, hY3, fr_tr hF1 (fr_tr hF2 hF3)⟩
  first | rfl | simp only [bg_0]
set_option maxRecDepth 100000 in
set_option maxHeartbeats 4000000 in
theorem y_ks3 {G : mj_G} {h : mj_H} {d : Nat} {τ : Nat → Nat → Int32} (hY : YS G h τ) (ht : okt τ) {j : Nat} (hj : j < 7) (hc : τ 0 (6 + j) = 3) (hd : 4 ≤ d) : mj_con G MX5_kindlySize d 0 0 [.ref (G.1 + 220), .int (nI j)] h (fun v h' => v = some (.int (τ 0 (13 + j) + (nI j + τ 0 (34 + j) - 1000))) ∧ YS G h' (bg 20 (bg 21 (bg 22 (bg 10 (bg 11 τ))))) ∧ mj_fr 220 13 h h') := by
  refine mj_conV okX5_kindlySize (ls := [some (.ref (G.1 + 220)), some (.int (nI j)), none]) rfl rfl ?_
  obtain ⟨y0, y1, y2, y3, y4, y5, y6, y7, y8, y9, y10, y11, y12⟩ := id hY
  refine s_aload_n (n := 1) (i := 0) dX5_kindlySize_0 rfl rfl rfl ?_
  refine s_bipush (n := 3) (v := 11) dX5_kindlySize_1 rfl (by decide) ?_
  refine s_v1 (M' := MX5_begin) (n := 6) (ci := 5) dX5_kindlySize_3 rfl wd_X5_237 okX5_begin rfl rfl (by omega) ⟨Nat.le_refl _, Nat.le_refl _⟩ (by assumption) (y_begin (d := d - 1) hY ht) ?_
  rintro v3 hh3 ⟨rfl, hY1, hF1⟩
  obtain ⟨y0, y1, y2, y3, y4, y5, y6, y7, y8, y9, y10, y11, y12⟩ := id hY1
  replace y4 : hh3.2 224 = mj_ar 0 48 ((bg 11 τ) 0) := y4
  rw [bg_0] at y4
  refine s_aload_n (n := 7) (i := 0) dX5_kindlySize_6 rfl rfl rfl ?_
  refine s_iload_n (n := 8) (i := 1) dX5_kindlySize_7 rfl rfl rfl ?_
  refine s_bipush (n := 10) (v := 10) dX5_kindlySize_8 rfl (by decide) ?_
  refine s_v2 (M' := MX5_lent) (n := 13) (ci := 5) dX5_kindlySize_10 rfl wd_X5_240 okX5_lent rfl rfl (by omega) ⟨Nat.le_refl _, Nat.le_refl _⟩ (by assumption) (y_lent10 (d := d - 1) hY1 (okt_bg ht) hj (by omega)) ?_
  rintro v10 hh10 ⟨rfl, hY2, hF2⟩
  obtain ⟨y0, y1, y2, y3, y4, y5, y6, y7, y8, y9, y10, y11, y12⟩ := id hY2
  replace y4 : hh10.2 224 = mj_ar 0 48 ((bg 10 (bg 11 τ)) 0) := y4
  simp only [bg_0] at y4
  refine s_istore_n (n := 14) (i := 2) (ls' := [_, _, _]) dX5_kindlySize_13 rfl rfl rfl rfl rfl ?_
  refine s_iload_n (n := 15) (i := 2) dX5_kindlySize_14 rfl rfl rfl ?_
  refine s_aload_n (n := 16) (i := 0) dX5_kindlySize_15 rfl rfl rfl ?_
  refine s_iload_n (n := 17) (i := 1) dX5_kindlySize_16 rfl rfl rfl ?_
  refine s_v1 (M' := MX5_markOf) (n := 20) (ci := 5) dX5_kindlySize_17 rfl wd_X5_252 okX5_markOf rfl rfl (by omega) ⟨Nat.le_refl _, Nat.le_refl _⟩ (by assumption) (y_mk3 (d := d - 1) hY2 (okt_bg (okt_bg ht)) hj (by simp only [bg_0]; exact hc) (by omega)) ?_
  rintro v17 hh17 ⟨rfl, hY3, hF3⟩
  refine s_iadd (n := 21) dX5_kindlySize_20 rfl ?_
  refine s_ireturn dX5_kindlySize_21 rfl (rfl) (Nat.le_refl _) (Nat.le_refl _) ?_
  refine ⟨?_, hY3, fr_tr hF1 (fr_tr hF2 hF3)⟩
  first | rfl | simp only [bg_0]
set_option maxRecDepth 100000 in
set_option maxHeartbeats 4000000 in
theorem y_sz2 {G : mj_G} {h : mj_H} {d : Nat} {τ : Nat → Nat → Int32} (hY : YS G h τ) (ht : okt τ) {j : Nat} (hj : j < 7) (hc : τ 0 (6 + j) = 2) (hd : 5 ≤ d) : mj_con G MX5_sizeOf d 0 0 [.ref (G.1 + 220), .int (nI j)] h (fun v h' => v = some (.int (-(τ 0 (13 + j) + 2 * (nI j + τ 0 (34 + j))))) ∧ YS G h' (bg 20 (bg 21 (bg 24 (bg 10 (bg 11 (bg 12 τ)))))) ∧ mj_fr 220 13 h h') := by
  refine mj_conV okX5_sizeOf (ls := [some (.ref (G.1 + 220)), some (.int (nI j)), none]) rfl rfl ?_
  obtain ⟨y0, y1, y2, y3, y4, y5, y6, y7, y8, y9, y10, y11, y12⟩ := id hY
  refine s_aload_n (n := 1) (i := 0) dX5_sizeOf_0 rfl rfl rfl ?_
  refine gf_X5_19 (n := 4) rfl dX5_sizeOf_1 rfl (by assumption) (by rfl) ?_
  refine s_bipush (n := 6) (v := 6) dX5_sizeOf_4 rfl (by decide) ?_
  refine s_iload_n (n := 7) (i := 1) dX5_sizeOf_6 rfl rfl rfl ?_
  refine s_iadd (n := 8) dX5_sizeOf_7 rfl ?_
  refine s_iald (n := 9) dX5_sizeOf_8 rfl (by assumption) (mj_ixa (o := 6) rfl (by omega)) ?_
  rw [hc]
  refine s_istore_n (n := 10) (i := 2) (ls' := [_, _, _]) dX5_sizeOf_9 rfl rfl rfl rfl rfl ?_
  refine s_iload_n (n := 11) (i := 2) dX5_sizeOf_10 rfl rfl rfl ?_
  refine s_iconst (n := 12) (v := 2) dX5_sizeOf_11 rfl (by decide) ?_
  refine s_icmp_ne (n := 15) (tgt := 28) dX5_sizeOf_12 rfl rfl (fun b12 => ?_) (fun b12 => ?_)
  · exact absurd rfl b12
  · refine s_aload_n (n := 16) (i := 0) dX5_sizeOf_15 rfl rfl rfl ?_
    refine s_bipush (n := 18) (v := 12) dX5_sizeOf_16 rfl (by decide) ?_
    refine s_v1 (M' := MX5_begin) (n := 21) (ci := 5) dX5_sizeOf_18 rfl wd_X5_237 okX5_begin rfl rfl (by omega) ⟨Nat.le_refl _, Nat.le_refl _⟩ (by assumption) (y_begin (d := d - 1) hY ht) ?_
    rintro v18 hh18 ⟨rfl, hY1, hF1⟩
    obtain ⟨y0, y1, y2, y3, y4, y5, y6, y7, y8, y9, y10, y11, y12⟩ := id hY1
    replace y4 : hh18.2 224 = mj_ar 0 48 ((bg 12 τ) 0) := y4
    rw [bg_0] at y4
    refine s_aload_n (n := 22) (i := 0) dX5_sizeOf_21 rfl rfl rfl ?_
    refine s_iload_n (n := 23) (i := 1) dX5_sizeOf_22 rfl rfl rfl ?_
    refine s_v1 (M' := MX5_kindlySize) (n := 26) (ci := 5) dX5_sizeOf_23 rfl wd_X5_255 okX5_kindlySize rfl rfl (by omega) ⟨Nat.le_refl _, Nat.le_refl _⟩ (by assumption) (y_ks2 (d := d - 1) hY1 (okt_bg ht) hj (by simp only [bg_0]; exact hc) (by omega)) ?_
    rintro v23 hh23 ⟨rfl, hY2, hF2⟩
    refine s_ineg (n := 27) dX5_sizeOf_26 rfl ?_
    refine s_ireturn dX5_sizeOf_27 rfl (rfl) (Nat.le_refl _) (Nat.le_refl _) ?_
    refine ⟨?_, hY2, fr_tr hF1 hF2⟩
    first | rfl | simp only [bg_0]
set_option maxRecDepth 100000 in
set_option maxHeartbeats 4000000 in
theorem y_sz1 {G : mj_G} {h : mj_H} {d : Nat} {τ : Nat → Nat → Int32} (hY : YS G h τ) (ht : okt τ) {j : Nat} (hj : j < 7) (hc : τ 0 (6 + j) = 1) (hd : 5 ≤ d) : mj_con G MX5_sizeOf d 0 0 [.ref (G.1 + 220), .int (nI j)] h (fun v h' => v = some (.int (τ 0 (13 + j) + (nI j + τ 0 (34 + j)))) ∧ YS G h' (bg 20 (bg 21 (bg 10 (bg 11 τ)))) ∧ mj_fr 220 13 h h') := by
  refine mj_conV okX5_sizeOf (ls := [some (.ref (G.1 + 220)), some (.int (nI j)), none]) rfl rfl ?_
  obtain ⟨y0, y1, y2, y3, y4, y5, y6, y7, y8, y9, y10, y11, y12⟩ := id hY
  refine s_aload_n (n := 1) (i := 0) dX5_sizeOf_0 rfl rfl rfl ?_
  refine gf_X5_19 (n := 4) rfl dX5_sizeOf_1 rfl (by assumption) (by rfl) ?_
  refine s_bipush (n := 6) (v := 6) dX5_sizeOf_4 rfl (by decide) ?_
  refine s_iload_n (n := 7) (i := 1) dX5_sizeOf_6 rfl rfl rfl ?_
  refine s_iadd (n := 8) dX5_sizeOf_7 rfl ?_
  refine s_iald (n := 9) dX5_sizeOf_8 rfl (by assumption) (mj_ixa (o := 6) rfl (by omega)) ?_
  rw [hc]
  refine s_istore_n (n := 10) (i := 2) (ls' := [_, _, _]) dX5_sizeOf_9 rfl rfl rfl rfl rfl ?_
  refine s_iload_n (n := 11) (i := 2) dX5_sizeOf_10 rfl rfl rfl ?_
  refine s_iconst (n := 12) (v := 2) dX5_sizeOf_11 rfl (by decide) ?_
  refine s_icmp_ne (n := 15) (tgt := 28) dX5_sizeOf_12 rfl rfl (fun b12 => ?_) (fun b12 => ?_)
  · refine s_iload_n (n := 29) (i := 2) dX5_sizeOf_28 rfl rfl rfl ?_
    refine s_iconst (n := 30) (v := 4) dX5_sizeOf_29 rfl (by decide) ?_
    refine s_icmp_lt (n := 33) (tgt := 41) dX5_sizeOf_30 rfl rfl (fun b30 => ?_) (fun b30 => ?_)
    · refine s_aload_n (n := 42) (i := 0) dX5_sizeOf_41 rfl rfl rfl ?_
      refine s_iload_n (n := 43) (i := 1) dX5_sizeOf_42 rfl rfl rfl ?_
      refine s_v1 (M' := MX5_kindlySize) (n := 46) (ci := 5) dX5_sizeOf_43 rfl wd_X5_255 okX5_kindlySize rfl rfl (by omega) ⟨Nat.le_refl _, Nat.le_refl _⟩ (by assumption) (y_ks1 (d := d - 1) hY ht hj hc (by omega)) ?_
      rintro v43 hh43 ⟨rfl, hY2, hF2⟩
      refine s_ireturn dX5_sizeOf_46 rfl (rfl) (Nat.le_refl _) (Nat.le_refl _) ?_
      refine ⟨?_, hY2, hF2⟩
      first | rfl | simp only [bg_0]
    · exact absurd (by decide) b30
  · exact absurd b12 (by decide)
set_option maxRecDepth 100000 in
set_option maxHeartbeats 4000000 in
theorem y_sz3 {G : mj_G} {h : mj_H} {d : Nat} {τ : Nat → Nat → Int32} (hY : YS G h τ) (ht : okt τ) {j : Nat} (hj : j < 7) (hc : τ 0 (6 + j) = 3) (hd : 5 ≤ d) : mj_con G MX5_sizeOf d 0 0 [.ref (G.1 + 220), .int (nI j)] h (fun v h' => v = some (.int (τ 0 (13 + j) + (nI j + τ 0 (34 + j) - 1000))) ∧ YS G h' (bg 20 (bg 21 (bg 22 (bg 10 (bg 11 τ))))) ∧ mj_fr 220 13 h h') := by
  refine mj_conV okX5_sizeOf (ls := [some (.ref (G.1 + 220)), some (.int (nI j)), none]) rfl rfl ?_
  obtain ⟨y0, y1, y2, y3, y4, y5, y6, y7, y8, y9, y10, y11, y12⟩ := id hY
  refine s_aload_n (n := 1) (i := 0) dX5_sizeOf_0 rfl rfl rfl ?_
  refine gf_X5_19 (n := 4) rfl dX5_sizeOf_1 rfl (by assumption) (by rfl) ?_
  refine s_bipush (n := 6) (v := 6) dX5_sizeOf_4 rfl (by decide) ?_
  refine s_iload_n (n := 7) (i := 1) dX5_sizeOf_6 rfl rfl rfl ?_
  refine s_iadd (n := 8) dX5_sizeOf_7 rfl ?_
  refine s_iald (n := 9) dX5_sizeOf_8 rfl (by assumption) (mj_ixa (o := 6) rfl (by omega)) ?_
  rw [hc]
  refine s_istore_n (n := 10) (i := 2) (ls' := [_, _, _]) dX5_sizeOf_9 rfl rfl rfl rfl rfl ?_
  refine s_iload_n (n := 11) (i := 2) dX5_sizeOf_10 rfl rfl rfl ?_
  refine s_iconst (n := 12) (v := 2) dX5_sizeOf_11 rfl (by decide) ?_
  refine s_icmp_ne (n := 15) (tgt := 28) dX5_sizeOf_12 rfl rfl (fun b12 => ?_) (fun b12 => ?_)
  · refine s_iload_n (n := 29) (i := 2) dX5_sizeOf_28 rfl rfl rfl ?_
    refine s_iconst (n := 30) (v := 4) dX5_sizeOf_29 rfl (by decide) ?_
    refine s_icmp_lt (n := 33) (tgt := 41) dX5_sizeOf_30 rfl rfl (fun b30 => ?_) (fun b30 => ?_)
    · refine s_aload_n (n := 42) (i := 0) dX5_sizeOf_41 rfl rfl rfl ?_
      refine s_iload_n (n := 43) (i := 1) dX5_sizeOf_42 rfl rfl rfl ?_
      refine s_v1 (M' := MX5_kindlySize) (n := 46) (ci := 5) dX5_sizeOf_43 rfl wd_X5_255 okX5_kindlySize rfl rfl (by omega) ⟨Nat.le_refl _, Nat.le_refl _⟩ (by assumption) (y_ks3 (d := d - 1) hY ht hj hc (by omega)) ?_
      rintro v43 hh43 ⟨rfl, hY2, hF2⟩
      refine s_ireturn dX5_sizeOf_46 rfl (rfl) (Nat.le_refl _) (Nat.le_refl _) ?_
      refine ⟨?_, hY2, hF2⟩
      first | rfl | simp only [bg_0]
    · exact absurd (by decide) b30
  · exact absurd b12 (by decide)
set_option maxRecDepth 100000 in
set_option maxHeartbeats 4000000 in
theorem y_sz4 {G : mj_G} {h : mj_H} {d : Nat} {τ : Nat → Nat → Int32} (hY : YS G h τ) (ht : okt τ) {j : Nat} (hj : j < 7) (hc : τ 0 (6 + j) = 4) (hd : 5 ≤ d) : mj_con G MX5_sizeOf d 0 0 [.ref (G.1 + 220), .int (nI j)] h (fun v h' => v = some (.int (τ 0 (13 + j) - 100)) ∧ YS G h' (bg 10 (bg 13 τ)) ∧ mj_fr 220 13 h h') := by
  refine mj_conV okX5_sizeOf (ls := [some (.ref (G.1 + 220)), some (.int (nI j)), none]) rfl rfl ?_
  obtain ⟨y0, y1, y2, y3, y4, y5, y6, y7, y8, y9, y10, y11, y12⟩ := id hY
  refine s_aload_n (n := 1) (i := 0) dX5_sizeOf_0 rfl rfl rfl ?_
  refine gf_X5_19 (n := 4) rfl dX5_sizeOf_1 rfl (by assumption) (by rfl) ?_
  refine s_bipush (n := 6) (v := 6) dX5_sizeOf_4 rfl (by decide) ?_
  refine s_iload_n (n := 7) (i := 1) dX5_sizeOf_6 rfl rfl rfl ?_
  refine s_iadd (n := 8) dX5_sizeOf_7 rfl ?_
  refine s_iald (n := 9) dX5_sizeOf_8 rfl (by assumption) (mj_ixa (o := 6) rfl (by omega)) ?_
  rw [hc]
  refine s_istore_n (n := 10) (i := 2) (ls' := [_, _, _]) dX5_sizeOf_9 rfl rfl rfl rfl rfl ?_
  refine s_iload_n (n := 11) (i := 2) dX5_sizeOf_10 rfl rfl rfl ?_
  refine s_iconst (n := 12) (v := 2) dX5_sizeOf_11 rfl (by decide) ?_
  refine s_icmp_ne (n := 15) (tgt := 28) dX5_sizeOf_12 rfl rfl (fun b12 => ?_) (fun b12 => ?_)
  · refine s_iload_n (n := 29) (i := 2) dX5_sizeOf_28 rfl rfl rfl ?_
    refine s_iconst (n := 30) (v := 4) dX5_sizeOf_29 rfl (by decide) ?_
    refine s_icmp_lt (n := 33) (tgt := 41) dX5_sizeOf_30 rfl rfl (fun b30 => ?_) (fun b30 => ?_)
    · exact absurd b30 (by decide)
    · refine s_aload_n (n := 34) (i := 0) dX5_sizeOf_33 rfl rfl rfl ?_
      refine s_iload_n (n := 35) (i := 1) dX5_sizeOf_34 rfl rfl rfl ?_
      refine s_v1 (M' := MX5_sizeOfSilent) (n := 38) (ci := 5) dX5_sizeOf_35 rfl wd_X5_249 okX5_sizeOfSilent rfl rfl (by omega) ⟨Nat.le_refl _, Nat.le_refl _⟩ (by assumption) (y_sos4 (d := d - 1) hY ht hj hc (by omega)) ?_
      rintro v35 hh35 ⟨rfl, hY2, hF2⟩
      refine s_goto (tgt := 46) dX5_sizeOf_38 rfl ?_
      refine s_ireturn dX5_sizeOf_46 rfl (rfl) (Nat.le_refl _) (Nat.le_refl _) ?_
      refine ⟨?_, hY2, hF2⟩
      first | rfl | simp only [bg_0]
  · exact absurd b12 (by decide)
set_option maxRecDepth 100000 in
set_option maxHeartbeats 4000000 in
theorem y_sz5 {G : mj_G} {h : mj_H} {d : Nat} {τ : Nat → Nat → Int32} (hY : YS G h τ) (ht : okt τ) {j : Nat} (hj : j < 7) (hc : τ 0 (6 + j) = 5) (hd : 5 ≤ d) : mj_con G MX5_sizeOf d 0 0 [.ref (G.1 + 220), .int (nI j)] h (fun v h' => v = some (.int (2 * (τ 0 (13 + j) - 100))) ∧ YS G h' (bg 10 (bg 13 (bg 14 τ))) ∧ mj_fr 220 13 h h') := by
  refine mj_conV okX5_sizeOf (ls := [some (.ref (G.1 + 220)), some (.int (nI j)), none]) rfl rfl ?_
  obtain ⟨y0, y1, y2, y3, y4, y5, y6, y7, y8, y9, y10, y11, y12⟩ := id hY
  refine s_aload_n (n := 1) (i := 0) dX5_sizeOf_0 rfl rfl rfl ?_
  refine gf_X5_19 (n := 4) rfl dX5_sizeOf_1 rfl (by assumption) (by rfl) ?_
  refine s_bipush (n := 6) (v := 6) dX5_sizeOf_4 rfl (by decide) ?_
  refine s_iload_n (n := 7) (i := 1) dX5_sizeOf_6 rfl rfl rfl ?_
  refine s_iadd (n := 8) dX5_sizeOf_7 rfl ?_
  refine s_iald (n := 9) dX5_sizeOf_8 rfl (by assumption) (mj_ixa (o := 6) rfl (by omega)) ?_
  rw [hc]
  refine s_istore_n (n := 10) (i := 2) (ls' := [_, _, _]) dX5_sizeOf_9 rfl rfl rfl rfl rfl ?_
  refine s_iload_n (n := 11) (i := 2) dX5_sizeOf_10 rfl rfl rfl ?_
  refine s_iconst (n := 12) (v := 2) dX5_sizeOf_11 rfl (by decide) ?_
  refine s_icmp_ne (n := 15) (tgt := 28) dX5_sizeOf_12 rfl rfl (fun b12 => ?_) (fun b12 => ?_)
  · refine s_iload_n (n := 29) (i := 2) dX5_sizeOf_28 rfl rfl rfl ?_
    refine s_iconst (n := 30) (v := 4) dX5_sizeOf_29 rfl (by decide) ?_
    refine s_icmp_lt (n := 33) (tgt := 41) dX5_sizeOf_30 rfl rfl (fun b30 => ?_) (fun b30 => ?_)
    · exact absurd b30 (by decide)
    · refine s_aload_n (n := 34) (i := 0) dX5_sizeOf_33 rfl rfl rfl ?_
      refine s_iload_n (n := 35) (i := 1) dX5_sizeOf_34 rfl rfl rfl ?_
      refine s_v1 (M' := MX5_sizeOfSilent) (n := 38) (ci := 5) dX5_sizeOf_35 rfl wd_X5_249 okX5_sizeOfSilent rfl rfl (by omega) ⟨Nat.le_refl _, Nat.le_refl _⟩ (by assumption) (y_sos5 (d := d - 1) hY ht hj hc (by omega)) ?_
      rintro v35 hh35 ⟨rfl, hY2, hF2⟩
      refine s_goto (tgt := 46) dX5_sizeOf_38 rfl ?_
      refine s_ireturn dX5_sizeOf_46 rfl (rfl) (Nat.le_refl _) (Nat.le_refl _) ?_
      refine ⟨?_, hY2, hF2⟩
      first | rfl | simp only [bg_0]
  · exact absurd b12 (by decide)
set_option maxRecDepth 100000 in
set_option maxHeartbeats 4000000 in
theorem y_ask_bad {G : mj_G} {h : mj_H} {d : Nat} {τ : Nat → Nat → Int32} (hY : YS G h τ) {n : Nat} (hn : τ 0 2 = nI n) (h7 : n ≤ 7) {x y : Int32} (hb : ¬ (Hs n x ∧ Wi y 0 1)) (hd : 2 ≤ d) : mj_con G MX5_ask d 0 0 [.ref (G.1 + 220), .int x, .int y] h (rI (-1000001) h) := by
  refine mj_conV okX5_ask (ls := [some (.ref (G.1 + 220)), some (.int x), some (.int y)]) rfl rfl ?_
  obtain ⟨y0, y1, y2, y3, y4, y5, y6, y7, y8, y9, y10, y11, y12⟩ := id hY
  refine s_aload_n (n := 1) (i := 0) dX5_ask_0 rfl rfl rfl ?_
  refine s_iload_n (n := 2) (i := 1) dX5_ask_1 rfl rfl rfl ?_
  refine s_v1 (M' := MX5_isHouse) (n := 5) (ci := 5) dX5_ask_2 rfl wd_X5_155 okX5_isHouse rfl rfl (by omega) ⟨Nat.le_refl _, Nat.le_refl _⟩ (by assumption) (y_isHouse (d := d - 1) hY hn h7 (by omega)) ?_
  rintro v2 hh2 ⟨rfl, rfl⟩
  refine s_if_eq (n := 8) (tgt := 18) dX5_ask_5 rfl rfl (fun b5 => ?_) (fun b5 => ?_)
  · refine s_ldc (n := 20) dX5_ask_18 rfl wd_X5_64 ?_
    refine s_ireturn dX5_ask_20 rfl (rfl) (Nat.le_refl _) (Nat.le_refl _) ?_
    exact ⟨rfl, rfl⟩
  · refine s_iload_n (n := 9) (i := 2) dX5_ask_8 rfl rfl rfl ?_
    refine s_i2l (n := 10) dX5_ask_9 rfl ?_
    refine s_lconst (n := 11) (v := 0) dX5_ask_10 rfl (by decide) ?_
    refine s_lconst (n := 12) (v := 1) dX5_ask_11 rfl (by decide) ?_
    refine s_s3 (M' := MX5_in) (n := 15) dX5_ask_12 rfl wd_X5_54 okX5_in rfl (by omega) ⟨Nat.le_refl _, Nat.le_refl _⟩ (y_in (d := d - 1) (A := 0) (B := 1) (by decide) (by decide)) ?_
    rintro v12 hh12 ⟨rfl, rfl⟩
    refine s_if_ne (n := 18) (tgt := 21) dX5_ask_15 rfl rfl (fun b15 => ?_) (fun b15 => ?_)
    · exact absurd (⟨if1 b5, if1 b15⟩) hb
    · refine s_ldc (n := 20) dX5_ask_18 rfl wd_X5_64 ?_
      refine s_ireturn dX5_ask_20 rfl (rfl) (Nat.le_refl _) (Nat.le_refl _) ?_
      exact ⟨rfl, rfl⟩
def ty0 (τ : Nat → Nat → Int32) : Nat → Nat → Int32 := u2 τ 12 (upd (τ 12) 10 0)
theorem okt_0 {τ : Nat → Nat → Int32} : okt (ty0 τ) := ⟨0, by omega, rfl⟩
set_option maxRecDepth 100000 in
set_option maxHeartbeats 4000000 in
theorem y_ask_1_0 {G : mj_G} {h : mj_H} {d : Nat} {τ : Nat → Nat → Int32} (hY : YS G h τ) {n : Nat} (hn : τ 0 2 = nI n) (h7 : n ≤ 7) {j : Nat} (hj : j < n) (hc : τ 0 (6 + j) = 1) (hd : 6 ≤ d) : mj_con G MX5_ask d 0 0 [.ref (G.1 + 220), .int (nI j), .int 0] h (fun v h' => v = some (.int (τ 0 (13 + j) + (nI j + τ 0 (34 + j)))) ∧ YS G h' (bg 20 (bg 21 (bg 10 (bg 11 (ty0 τ))))) ∧ mj_fr 220 13 h h') := by
  refine mj_conV okX5_ask (ls := [some (.ref (G.1 + 220)), some (.int (nI j)), some (.int 0)]) rfl rfl ?_
  obtain ⟨y0, y1, y2, y3, y4, y5, y6, y7, y8, y9, y10, y11, y12⟩ := id hY
  refine s_aload_n (n := 1) (i := 0) dX5_ask_0 rfl rfl rfl ?_
  refine s_iload_n (n := 2) (i := 1) dX5_ask_1 rfl rfl rfl ?_
  refine s_v1 (M' := MX5_isHouse) (n := 5) (ci := 5) dX5_ask_2 rfl wd_X5_155 okX5_isHouse rfl rfl (by omega) ⟨Nat.le_refl _, Nat.le_refl _⟩ (by assumption) (y_isHouse (d := d - 1) hY hn h7 (by omega)) ?_
  rintro v2 hh2 ⟨rfl, rfl⟩
  refine s_if_eq (n := 8) (tgt := 18) dX5_ask_5 rfl rfl (fun b5 => ?_) (fun b5 => ?_)
  · exact absurd (Hs_n hj h7) (if0 b5)
  · refine s_iload_n (n := 9) (i := 2) dX5_ask_8 rfl rfl rfl ?_
    refine s_i2l (n := 10) dX5_ask_9 rfl ?_
    refine s_lconst (n := 11) (v := 0) dX5_ask_10 rfl (by decide) ?_
    refine s_lconst (n := 12) (v := 1) dX5_ask_11 rfl (by decide) ?_
    refine s_s3 (M' := MX5_in) (n := 15) dX5_ask_12 rfl wd_X5_54 okX5_in rfl (by omega) ⟨Nat.le_refl _, Nat.le_refl _⟩ (y_in (d := d - 1) (A := 0) (B := 1) (by decide) (by decide)) ?_
    rintro v12 hh12 ⟨rfl, rfl⟩
    refine s_if_ne (n := 18) (tgt := 21) dX5_ask_15 rfl rfl (fun b15 => ?_) (fun b15 => ?_)
    · refine s_aload_n (n := 22) (i := 0) dX5_ask_21 rfl rfl rfl ?_
      refine s_iconst (n := 23) (v := 0) dX5_ask_22 rfl (by decide) ?_
      refine pf_X5_234 (n := 26) (fs' := [_, _, _, _, _, _, _, _, _, _, _, _, _, _, _, _, _, _, _, _, _, _, _]) rfl dX5_ask_23 rfl (by assumption) (by rfl) (by rfl) ?_
      refine YF_10 hY (fun h1 hY1 hF1 => ?_)
      obtain ⟨y0, y1, y2, y3, y4, y5, y6, y7, y8, y9, y10, y11, y12⟩ := id hY1
      replace y4 : h1.2 224 = mj_ar 0 48 (τ 0) := y4
      refine s_iload_n (n := 27) (i := 2) dX5_ask_26 rfl rfl rfl ?_
      refine s_if_ne (n := 30) (tgt := 38) dX5_ask_27 rfl rfl (fun b27 => ?_) (fun b27 => ?_)
      · exact absurd rfl b27
      · refine s_aload_n (n := 31) (i := 0) dX5_ask_30 rfl rfl rfl ?_
        refine s_iload_n (n := 32) (i := 1) dX5_ask_31 rfl rfl rfl ?_
        refine s_v1 (M' := MX5_sizeOf) (n := 35) (ci := 5) dX5_ask_32 rfl wd_X5_258 okX5_sizeOf rfl rfl (by omega) ⟨Nat.le_refl _, Nat.le_refl _⟩ (by assumption) (y_sz1 (d := d - 1) (τ := ty0 τ) hY1 okt_0 (by omega) hc (by omega)) ?_
        rintro v32 hh32 ⟨rfl, hY2, hF2⟩
        refine s_goto (tgt := 43) dX5_ask_35 rfl ?_
        refine s_ireturn dX5_ask_43 rfl (rfl) (Nat.le_refl _) (Nat.le_refl _) ?_
        exact ⟨rfl, hY2, fr_tr hF1 hF2⟩
    · exact absurd (⟨by decide, by decide⟩) (if0 b15)
set_option maxRecDepth 100000 in
set_option maxHeartbeats 4000000 in
theorem y_ask_2_0 {G : mj_G} {h : mj_H} {d : Nat} {τ : Nat → Nat → Int32} (hY : YS G h τ) {n : Nat} (hn : τ 0 2 = nI n) (h7 : n ≤ 7) {j : Nat} (hj : j < n) (hc : τ 0 (6 + j) = 2) (hd : 6 ≤ d) : mj_con G MX5_ask d 0 0 [.ref (G.1 + 220), .int (nI j), .int 0] h (fun v h' => v = some (.int (-(τ 0 (13 + j) + 2 * (nI j + τ 0 (34 + j))))) ∧ YS G h' (bg 20 (bg 21 (bg 24 (bg 10 (bg 11 (bg 12 (ty0 τ))))))) ∧ mj_fr 220 13 h h') := by
  refine mj_conV okX5_ask (ls := [some (.ref (G.1 + 220)), some (.int (nI j)), some (.int 0)]) rfl rfl ?_
  obtain ⟨y0, y1, y2, y3, y4, y5, y6, y7, y8, y9, y10, y11, y12⟩ := id hY
  refine s_aload_n (n := 1) (i := 0) dX5_ask_0 rfl rfl rfl ?_
  refine s_iload_n (n := 2) (i := 1) dX5_ask_1 rfl rfl rfl ?_
  refine s_v1 (M' := MX5_isHouse) (n := 5) (ci := 5) dX5_ask_2 rfl wd_X5_155 okX5_isHouse rfl rfl (by omega) ⟨Nat.le_refl _, Nat.le_refl _⟩ (by assumption) (y_isHouse (d := d - 1) hY hn h7 (by omega)) ?_
  rintro v2 hh2 ⟨rfl, rfl⟩
  refine s_if_eq (n := 8) (tgt := 18) dX5_ask_5 rfl rfl (fun b5 => ?_) (fun b5 => ?_)
  · exact absurd (Hs_n hj h7) (if0 b5)
  · refine s_iload_n (n := 9) (i := 2) dX5_ask_8 rfl rfl rfl ?_
    refine s_i2l (n := 10) dX5_ask_9 rfl ?_
    refine s_lconst (n := 11) (v := 0) dX5_ask_10 rfl (by decide) ?_
    refine s_lconst (n := 12) (v := 1) dX5_ask_11 rfl (by decide) ?_
    refine s_s3 (M' := MX5_in) (n := 15) dX5_ask_12 rfl wd_X5_54 okX5_in rfl (by omega) ⟨Nat.le_refl _, Nat.le_refl _⟩ (y_in (d := d - 1) (A := 0) (B := 1) (by decide) (by decide)) ?_
    rintro v12 hh12 ⟨rfl, rfl⟩
    refine s_if_ne (n := 18) (tgt := 21) dX5_ask_15 rfl rfl (fun b15 => ?_) (fun b15 => ?_)
    · refine s_aload_n (n := 22) (i := 0) dX5_ask_21 rfl rfl rfl ?_
      refine s_iconst (n := 23) (v := 0) dX5_ask_22 rfl (by decide) ?_
      refine pf_X5_234 (n := 26) (fs' := [_, _, _, _, _, _, _, _, _, _, _, _, _, _, _, _, _, _, _, _, _, _, _]) rfl dX5_ask_23 rfl (by assumption) (by rfl) (by rfl) ?_
      refine YF_10 hY (fun h1 hY1 hF1 => ?_)
      obtain ⟨y0, y1, y2, y3, y4, y5, y6, y7, y8, y9, y10, y11, y12⟩ := id hY1
      replace y4 : h1.2 224 = mj_ar 0 48 (τ 0) := y4
      refine s_iload_n (n := 27) (i := 2) dX5_ask_26 rfl rfl rfl ?_
      refine s_if_ne (n := 30) (tgt := 38) dX5_ask_27 rfl rfl (fun b27 => ?_) (fun b27 => ?_)
      · exact absurd rfl b27
      · refine s_aload_n (n := 31) (i := 0) dX5_ask_30 rfl rfl rfl ?_
        refine s_iload_n (n := 32) (i := 1) dX5_ask_31 rfl rfl rfl ?_
        refine s_v1 (M' := MX5_sizeOf) (n := 35) (ci := 5) dX5_ask_32 rfl wd_X5_258 okX5_sizeOf rfl rfl (by omega) ⟨Nat.le_refl _, Nat.le_refl _⟩ (by assumption) (y_sz2 (d := d - 1) (τ := ty0 τ) hY1 okt_0 (by omega) hc (by omega)) ?_
        rintro v32 hh32 ⟨rfl, hY2, hF2⟩
        refine s_goto (tgt := 43) dX5_ask_35 rfl ?_
        refine s_ireturn dX5_ask_43 rfl (rfl) (Nat.le_refl _) (Nat.le_refl _) ?_
        exact ⟨rfl, hY2, fr_tr hF1 hF2⟩
    · exact absurd (⟨by decide, by decide⟩) (if0 b15)
set_option maxRecDepth 100000 in
set_option maxHeartbeats 4000000 in
theorem y_ask_3_0 {G : mj_G} {h : mj_H} {d : Nat} {τ : Nat → Nat → Int32} (hY : YS G h τ) {n : Nat} (hn : τ 0 2 = nI n) (h7 : n ≤ 7) {j : Nat} (hj : j < n) (hc : τ 0 (6 + j) = 3) (hd : 6 ≤ d) : mj_con G MX5_ask d 0 0 [.ref (G.1 + 220), .int (nI j), .int 0] h (fun v h' => v = some (.int (τ 0 (13 + j) + (nI j + τ 0 (34 + j) - 1000))) ∧ YS G h' (bg 20 (bg 21 (bg 22 (bg 10 (bg 11 (ty0 τ)))))) ∧ mj_fr 220 13 h h') := by
  refine mj_conV okX5_ask (ls := [some (.ref (G.1 + 220)), some (.int (nI j)), some (.int 0)]) rfl rfl ?_
  obtain ⟨y0, y1, y2, y3, y4, y5, y6, y7, y8, y9, y10, y11, y12⟩ := id hY
  refine s_aload_n (n := 1) (i := 0) dX5_ask_0 rfl rfl rfl ?_
  refine s_iload_n (n := 2) (i := 1) dX5_ask_1 rfl rfl rfl ?_
  refine s_v1 (M' := MX5_isHouse) (n := 5) (ci := 5) dX5_ask_2 rfl wd_X5_155 okX5_isHouse rfl rfl (by omega) ⟨Nat.le_refl _, Nat.le_refl _⟩ (by assumption) (y_isHouse (d := d - 1) hY hn h7 (by omega)) ?_
  rintro v2 hh2 ⟨rfl, rfl⟩
  refine s_if_eq (n := 8) (tgt := 18) dX5_ask_5 rfl rfl (fun b5 => ?_) (fun b5 => ?_)
  · exact absurd (Hs_n hj h7) (if0 b5)
  · refine s_iload_n (n := 9) (i := 2) dX5_ask_8 rfl rfl rfl ?_
    refine s_i2l (n := 10) dX5_ask_9 rfl ?_
    refine s_lconst (n := 11) (v := 0) dX5_ask_10 rfl (by decide) ?_
    refine s_lconst (n := 12) (v := 1) dX5_ask_11 rfl (by decide) ?_
    refine s_s3 (M' := MX5_in) (n := 15) dX5_ask_12 rfl wd_X5_54 okX5_in rfl (by omega) ⟨Nat.le_refl _, Nat.le_refl _⟩ (y_in (d := d - 1) (A := 0) (B := 1) (by decide) (by decide)) ?_
    rintro v12 hh12 ⟨rfl, rfl⟩
    refine s_if_ne (n := 18) (tgt := 21) dX5_ask_15 rfl rfl (fun b15 => ?_) (fun b15 => ?_)
    · refine s_aload_n (n := 22) (i := 0) dX5_ask_21 rfl rfl rfl ?_
      refine s_iconst (n := 23) (v := 0) dX5_ask_22 rfl (by decide) ?_
      refine pf_X5_234 (n := 26) (fs' := [_, _, _, _, _, _, _, _, _, _, _, _, _, _, _, _, _, _, _, _, _, _, _]) rfl dX5_ask_23 rfl (by assumption) (by rfl) (by rfl) ?_
      refine YF_10 hY (fun h1 hY1 hF1 => ?_)
      obtain ⟨y0, y1, y2, y3, y4, y5, y6, y7, y8, y9, y10, y11, y12⟩ := id hY1
      replace y4 : h1.2 224 = mj_ar 0 48 (τ 0) := y4
      refine s_iload_n (n := 27) (i := 2) dX5_ask_26 rfl rfl rfl ?_
      refine s_if_ne (n := 30) (tgt := 38) dX5_ask_27 rfl rfl (fun b27 => ?_) (fun b27 => ?_)
      · exact absurd rfl b27
      · refine s_aload_n (n := 31) (i := 0) dX5_ask_30 rfl rfl rfl ?_
        refine s_iload_n (n := 32) (i := 1) dX5_ask_31 rfl rfl rfl ?_
        refine s_v1 (M' := MX5_sizeOf) (n := 35) (ci := 5) dX5_ask_32 rfl wd_X5_258 okX5_sizeOf rfl rfl (by omega) ⟨Nat.le_refl _, Nat.le_refl _⟩ (by assumption) (y_sz3 (d := d - 1) (τ := ty0 τ) hY1 okt_0 (by omega) hc (by omega)) ?_
        rintro v32 hh32 ⟨rfl, hY2, hF2⟩
        refine s_goto (tgt := 43) dX5_ask_35 rfl ?_
        refine s_ireturn dX5_ask_43 rfl (rfl) (Nat.le_refl _) (Nat.le_refl _) ?_
        exact ⟨rfl, hY2, fr_tr hF1 hF2⟩
    · exact absurd (⟨by decide, by decide⟩) (if0 b15)
set_option maxRecDepth 100000 in
set_option maxHeartbeats 4000000 in
theorem y_ask_4_0 {G : mj_G} {h : mj_H} {d : Nat} {τ : Nat → Nat → Int32} (hY : YS G h τ) {n : Nat} (hn : τ 0 2 = nI n) (h7 : n ≤ 7) {j : Nat} (hj : j < n) (hc : τ 0 (6 + j) = 4) (hd : 6 ≤ d) : mj_con G MX5_ask d 0 0 [.ref (G.1 + 220), .int (nI j), .int 0] h (fun v h' => v = some (.int (τ 0 (13 + j) - 100)) ∧ YS G h' (bg 10 (bg 13 (ty0 τ))) ∧ mj_fr 220 13 h h') := by
  refine mj_conV okX5_ask (ls := [some (.ref (G.1 + 220)), some (.int (nI j)), some (.int 0)]) rfl rfl ?_
  obtain ⟨y0, y1, y2, y3, y4, y5, y6, y7, y8, y9, y10, y11, y12⟩ := id hY
  refine s_aload_n (n := 1) (i := 0) dX5_ask_0 rfl rfl rfl ?_
  refine s_iload_n (n := 2) (i := 1) dX5_ask_1 rfl rfl rfl ?_
  refine s_v1 (M' := MX5_isHouse) (n := 5) (ci := 5) dX5_ask_2 rfl wd_X5_155 okX5_isHouse rfl rfl (by omega) ⟨Nat.le_refl _, Nat.le_refl _⟩ (by assumption) (y_isHouse (d := d - 1) hY hn h7 (by omega)) ?_
  rintro v2 hh2 ⟨rfl, rfl⟩
  refine s_if_eq (n := 8) (tgt := 18) dX5_ask_5 rfl rfl (fun b5 => ?_) (fun b5 => ?_)
  · exact absurd (Hs_n hj h7) (if0 b5)
  · refine s_iload_n (n := 9) (i := 2) dX5_ask_8 rfl rfl rfl ?_
    refine s_i2l (n := 10) dX5_ask_9 rfl ?_
    refine s_lconst (n := 11) (v := 0) dX5_ask_10 rfl (by decide) ?_
    refine s_lconst (n := 12) (v := 1) dX5_ask_11 rfl (by decide) ?_
    refine s_s3 (M' := MX5_in) (n := 15) dX5_ask_12 rfl wd_X5_54 okX5_in rfl (by omega) ⟨Nat.le_refl _, Nat.le_refl _⟩ (y_in (d := d - 1) (A := 0) (B := 1) (by decide) (by decide)) ?_
    rintro v12 hh12 ⟨rfl, rfl⟩
    refine s_if_ne (n := 18) (tgt := 21) dX5_ask_15 rfl rfl (fun b15 => ?_) (fun b15 => ?_)
    · refine s_aload_n (n := 22) (i := 0) dX5_ask_21 rfl rfl rfl ?_
      refine s_iconst (n := 23) (v := 0) dX5_ask_22 rfl (by decide) ?_
      refine pf_X5_234 (n := 26) (fs' := [_, _, _, _, _, _, _, _, _, _, _, _, _, _, _, _, _, _, _, _, _, _, _]) rfl dX5_ask_23 rfl (by assumption) (by rfl) (by rfl) ?_
      refine YF_10 hY (fun h1 hY1 hF1 => ?_)
      obtain ⟨y0, y1, y2, y3, y4, y5, y6, y7, y8, y9, y10, y11, y12⟩ := id hY1
      replace y4 : h1.2 224 = mj_ar 0 48 (τ 0) := y4
      refine s_iload_n (n := 27) (i := 2) dX5_ask_26 rfl rfl rfl ?_
      refine s_if_ne (n := 30) (tgt := 38) dX5_ask_27 rfl rfl (fun b27 => ?_) (fun b27 => ?_)
      · exact absurd rfl b27
      · refine s_aload_n (n := 31) (i := 0) dX5_ask_30 rfl rfl rfl ?_
        refine s_iload_n (n := 32) (i := 1) dX5_ask_31 rfl rfl rfl ?_
        refine s_v1 (M' := MX5_sizeOf) (n := 35) (ci := 5) dX5_ask_32 rfl wd_X5_258 okX5_sizeOf rfl rfl (by omega) ⟨Nat.le_refl _, Nat.le_refl _⟩ (by assumption) (y_sz4 (d := d - 1) (τ := ty0 τ) hY1 okt_0 (by omega) hc (by omega)) ?_
        rintro v32 hh32 ⟨rfl, hY2, hF2⟩
        refine s_goto (tgt := 43) dX5_ask_35 rfl ?_
        refine s_ireturn dX5_ask_43 rfl (rfl) (Nat.le_refl _) (Nat.le_refl _) ?_
        exact ⟨rfl, hY2, fr_tr hF1 hF2⟩
    · exact absurd (⟨by decide, by decide⟩) (if0 b15)
set_option maxRecDepth 100000 in
set_option maxHeartbeats 4000000 in
theorem y_ask_5_0 {G : mj_G} {h : mj_H} {d : Nat} {τ : Nat → Nat → Int32} (hY : YS G h τ) {n : Nat} (hn : τ 0 2 = nI n) (h7 : n ≤ 7) {j : Nat} (hj : j < n) (hc : τ 0 (6 + j) = 5) (hd : 6 ≤ d) : mj_con G MX5_ask d 0 0 [.ref (G.1 + 220), .int (nI j), .int 0] h (fun v h' => v = some (.int (2 * (τ 0 (13 + j) - 100))) ∧ YS G h' (bg 10 (bg 13 (bg 14 (ty0 τ)))) ∧ mj_fr 220 13 h h') := by
  refine mj_conV okX5_ask (ls := [some (.ref (G.1 + 220)), some (.int (nI j)), some (.int 0)]) rfl rfl ?_
  obtain ⟨y0, y1, y2, y3, y4, y5, y6, y7, y8, y9, y10, y11, y12⟩ := id hY
  refine s_aload_n (n := 1) (i := 0) dX5_ask_0 rfl rfl rfl ?_
  refine s_iload_n (n := 2) (i := 1) dX5_ask_1 rfl rfl rfl ?_
  refine s_v1 (M' := MX5_isHouse) (n := 5) (ci := 5) dX5_ask_2 rfl wd_X5_155 okX5_isHouse rfl rfl (by omega) ⟨Nat.le_refl _, Nat.le_refl _⟩ (by assumption) (y_isHouse (d := d - 1) hY hn h7 (by omega)) ?_
  rintro v2 hh2 ⟨rfl, rfl⟩
  refine s_if_eq (n := 8) (tgt := 18) dX5_ask_5 rfl rfl (fun b5 => ?_) (fun b5 => ?_)
  · exact absurd (Hs_n hj h7) (if0 b5)
  · refine s_iload_n (n := 9) (i := 2) dX5_ask_8 rfl rfl rfl ?_
    refine s_i2l (n := 10) dX5_ask_9 rfl ?_
    refine s_lconst (n := 11) (v := 0) dX5_ask_10 rfl (by decide) ?_
    refine s_lconst (n := 12) (v := 1) dX5_ask_11 rfl (by decide) ?_
    refine s_s3 (M' := MX5_in) (n := 15) dX5_ask_12 rfl wd_X5_54 okX5_in rfl (by omega) ⟨Nat.le_refl _, Nat.le_refl _⟩ (y_in (d := d - 1) (A := 0) (B := 1) (by decide) (by decide)) ?_
    rintro v12 hh12 ⟨rfl, rfl⟩
    refine s_if_ne (n := 18) (tgt := 21) dX5_ask_15 rfl rfl (fun b15 => ?_) (fun b15 => ?_)
    · refine s_aload_n (n := 22) (i := 0) dX5_ask_21 rfl rfl rfl ?_
      refine s_iconst (n := 23) (v := 0) dX5_ask_22 rfl (by decide) ?_
      refine pf_X5_234 (n := 26) (fs' := [_, _, _, _, _, _, _, _, _, _, _, _, _, _, _, _, _, _, _, _, _, _, _]) rfl dX5_ask_23 rfl (by assumption) (by rfl) (by rfl) ?_
      refine YF_10 hY (fun h1 hY1 hF1 => ?_)
      obtain ⟨y0, y1, y2, y3, y4, y5, y6, y7, y8, y9, y10, y11, y12⟩ := id hY1
      replace y4 : h1.2 224 = mj_ar 0 48 (τ 0) := y4
      refine s_iload_n (n := 27) (i := 2) dX5_ask_26 rfl rfl rfl ?_
      refine s_if_ne (n := 30) (tgt := 38) dX5_ask_27 rfl rfl (fun b27 => ?_) (fun b27 => ?_)
      · exact absurd rfl b27
      · refine s_aload_n (n := 31) (i := 0) dX5_ask_30 rfl rfl rfl ?_
        refine s_iload_n (n := 32) (i := 1) dX5_ask_31 rfl rfl rfl ?_
        refine s_v1 (M' := MX5_sizeOf) (n := 35) (ci := 5) dX5_ask_32 rfl wd_X5_258 okX5_sizeOf rfl rfl (by omega) ⟨Nat.le_refl _, Nat.le_refl _⟩ (by assumption) (y_sz5 (d := d - 1) (τ := ty0 τ) hY1 okt_0 (by omega) hc (by omega)) ?_
        rintro v32 hh32 ⟨rfl, hY2, hF2⟩
        refine s_goto (tgt := 43) dX5_ask_35 rfl ?_
        refine s_ireturn dX5_ask_43 rfl (rfl) (Nat.le_refl _) (Nat.le_refl _) ?_
        exact ⟨rfl, hY2, fr_tr hF1 hF2⟩
    · exact absurd (⟨by decide, by decide⟩) (if0 b15)
set_option maxRecDepth 100000 in
set_option maxHeartbeats 4000000 in
theorem y_ask_1_1 {G : mj_G} {h : mj_H} {d : Nat} {τ : Nat → Nat → Int32} (hY : YS G h τ) {n : Nat} (hn : τ 0 2 = nI n) (h7 : n ≤ 7) {j : Nat} (hj : j < n) (hc : τ 0 (6 + j) = 1) (hd : 6 ≤ d) : mj_con G MX5_ask d 0 0 [.ref (G.1 + 220), .int (nI j), .int 1] h (fun v h' => v = some (.int (nI j + τ 0 (34 + j))) ∧ YS G h' (bg 20 (bg 21 (ty0 τ))) ∧ mj_fr 220 13 h h') := by
  refine mj_conV okX5_ask (ls := [some (.ref (G.1 + 220)), some (.int (nI j)), some (.int 1)]) rfl rfl ?_
  obtain ⟨y0, y1, y2, y3, y4, y5, y6, y7, y8, y9, y10, y11, y12⟩ := id hY
  refine s_aload_n (n := 1) (i := 0) dX5_ask_0 rfl rfl rfl ?_
  refine s_iload_n (n := 2) (i := 1) dX5_ask_1 rfl rfl rfl ?_
  refine s_v1 (M' := MX5_isHouse) (n := 5) (ci := 5) dX5_ask_2 rfl wd_X5_155 okX5_isHouse rfl rfl (by omega) ⟨Nat.le_refl _, Nat.le_refl _⟩ (by assumption) (y_isHouse (d := d - 1) hY hn h7 (by omega)) ?_
  rintro v2 hh2 ⟨rfl, rfl⟩
  refine s_if_eq (n := 8) (tgt := 18) dX5_ask_5 rfl rfl (fun b5 => ?_) (fun b5 => ?_)
  · exact absurd (Hs_n hj h7) (if0 b5)
  · refine s_iload_n (n := 9) (i := 2) dX5_ask_8 rfl rfl rfl ?_
    refine s_i2l (n := 10) dX5_ask_9 rfl ?_
    refine s_lconst (n := 11) (v := 0) dX5_ask_10 rfl (by decide) ?_
    refine s_lconst (n := 12) (v := 1) dX5_ask_11 rfl (by decide) ?_
    refine s_s3 (M' := MX5_in) (n := 15) dX5_ask_12 rfl wd_X5_54 okX5_in rfl (by omega) ⟨Nat.le_refl _, Nat.le_refl _⟩ (y_in (d := d - 1) (A := 0) (B := 1) (by decide) (by decide)) ?_
    rintro v12 hh12 ⟨rfl, rfl⟩
    refine s_if_ne (n := 18) (tgt := 21) dX5_ask_15 rfl rfl (fun b15 => ?_) (fun b15 => ?_)
    · refine s_aload_n (n := 22) (i := 0) dX5_ask_21 rfl rfl rfl ?_
      refine s_iconst (n := 23) (v := 0) dX5_ask_22 rfl (by decide) ?_
      refine pf_X5_234 (n := 26) (fs' := [_, _, _, _, _, _, _, _, _, _, _, _, _, _, _, _, _, _, _, _, _, _, _]) rfl dX5_ask_23 rfl (by assumption) (by rfl) (by rfl) ?_
      refine YF_10 hY (fun h1 hY1 hF1 => ?_)
      obtain ⟨y0, y1, y2, y3, y4, y5, y6, y7, y8, y9, y10, y11, y12⟩ := id hY1
      replace y4 : h1.2 224 = mj_ar 0 48 (τ 0) := y4
      refine s_iload_n (n := 27) (i := 2) dX5_ask_26 rfl rfl rfl ?_
      refine s_if_ne (n := 30) (tgt := 38) dX5_ask_27 rfl rfl (fun b27 => ?_) (fun b27 => ?_)
      · refine s_aload_n (n := 39) (i := 0) dX5_ask_38 rfl rfl rfl ?_
        refine s_iload_n (n := 40) (i := 1) dX5_ask_39 rfl rfl rfl ?_
        refine s_v1 (M' := MX5_markOf) (n := 43) (ci := 5) dX5_ask_40 rfl wd_X5_252 okX5_markOf rfl rfl (by omega) ⟨Nat.le_refl _, Nat.le_refl _⟩ (by assumption) (y_mk1 (d := d - 1) (τ := ty0 τ) hY1 okt_0 (by omega) hc (by omega)) ?_
        rintro v40 hh40 ⟨rfl, hY2, hF2⟩
        refine s_ireturn dX5_ask_43 rfl (rfl) (Nat.le_refl _) (Nat.le_refl _) ?_
        exact ⟨rfl, hY2, fr_tr hF1 hF2⟩
      · exact absurd b27 (by decide)
    · exact absurd (⟨by decide, by decide⟩) (if0 b15)
set_option maxRecDepth 100000 in
set_option maxHeartbeats 4000000 in
theorem y_ask_2_1 {G : mj_G} {h : mj_H} {d : Nat} {τ : Nat → Nat → Int32} (hY : YS G h τ) {n : Nat} (hn : τ 0 2 = nI n) (h7 : n ≤ 7) {j : Nat} (hj : j < n) (hc : τ 0 (6 + j) = 2) (hd : 6 ≤ d) : mj_con G MX5_ask d 0 0 [.ref (G.1 + 220), .int (nI j), .int 1] h (fun v h' => v = some (.int (2 * (nI j + τ 0 (34 + j)))) ∧ YS G h' (bg 20 (bg 21 (bg 24 (ty0 τ)))) ∧ mj_fr 220 13 h h') := by
  refine mj_conV okX5_ask (ls := [some (.ref (G.1 + 220)), some (.int (nI j)), some (.int 1)]) rfl rfl ?_
  obtain ⟨y0, y1, y2, y3, y4, y5, y6, y7, y8, y9, y10, y11, y12⟩ := id hY
  refine s_aload_n (n := 1) (i := 0) dX5_ask_0 rfl rfl rfl ?_
  refine s_iload_n (n := 2) (i := 1) dX5_ask_1 rfl rfl rfl ?_
  refine s_v1 (M' := MX5_isHouse) (n := 5) (ci := 5) dX5_ask_2 rfl wd_X5_155 okX5_isHouse rfl rfl (by omega) ⟨Nat.le_refl _, Nat.le_refl _⟩ (by assumption) (y_isHouse (d := d - 1) hY hn h7 (by omega)) ?_
  rintro v2 hh2 ⟨rfl, rfl⟩
  refine s_if_eq (n := 8) (tgt := 18) dX5_ask_5 rfl rfl (fun b5 => ?_) (fun b5 => ?_)
  · exact absurd (Hs_n hj h7) (if0 b5)
  · refine s_iload_n (n := 9) (i := 2) dX5_ask_8 rfl rfl rfl ?_
    refine s_i2l (n := 10) dX5_ask_9 rfl ?_
    refine s_lconst (n := 11) (v := 0) dX5_ask_10 rfl (by decide) ?_
    refine s_lconst (n := 12) (v := 1) dX5_ask_11 rfl (by decide) ?_
    refine s_s3 (M' := MX5_in) (n := 15) dX5_ask_12 rfl wd_X5_54 okX5_in rfl (by omega) ⟨Nat.le_refl _, Nat.le_refl _⟩ (y_in (d := d - 1) (A := 0) (B := 1) (by decide) (by decide)) ?_
    rintro v12 hh12 ⟨rfl, rfl⟩
    refine s_if_ne (n := 18) (tgt := 21) dX5_ask_15 rfl rfl (fun b15 => ?_) (fun b15 => ?_)
    · refine s_aload_n (n := 22) (i := 0) dX5_ask_21 rfl rfl rfl ?_
      refine s_iconst (n := 23) (v := 0) dX5_ask_22 rfl (by decide) ?_
      refine pf_X5_234 (n := 26) (fs' := [_, _, _, _, _, _, _, _, _, _, _, _, _, _, _, _, _, _, _, _, _, _, _]) rfl dX5_ask_23 rfl (by assumption) (by rfl) (by rfl) ?_
      refine YF_10 hY (fun h1 hY1 hF1 => ?_)
      obtain ⟨y0, y1, y2, y3, y4, y5, y6, y7, y8, y9, y10, y11, y12⟩ := id hY1
      replace y4 : h1.2 224 = mj_ar 0 48 (τ 0) := y4
      refine s_iload_n (n := 27) (i := 2) dX5_ask_26 rfl rfl rfl ?_
      refine s_if_ne (n := 30) (tgt := 38) dX5_ask_27 rfl rfl (fun b27 => ?_) (fun b27 => ?_)
      · refine s_aload_n (n := 39) (i := 0) dX5_ask_38 rfl rfl rfl ?_
        refine s_iload_n (n := 40) (i := 1) dX5_ask_39 rfl rfl rfl ?_
        refine s_v1 (M' := MX5_markOf) (n := 43) (ci := 5) dX5_ask_40 rfl wd_X5_252 okX5_markOf rfl rfl (by omega) ⟨Nat.le_refl _, Nat.le_refl _⟩ (by assumption) (y_mk2 (d := d - 1) (τ := ty0 τ) hY1 okt_0 (by omega) hc (by omega)) ?_
        rintro v40 hh40 ⟨rfl, hY2, hF2⟩
        refine s_ireturn dX5_ask_43 rfl (rfl) (Nat.le_refl _) (Nat.le_refl _) ?_
        exact ⟨rfl, hY2, fr_tr hF1 hF2⟩
      · exact absurd b27 (by decide)
    · exact absurd (⟨by decide, by decide⟩) (if0 b15)
set_option maxRecDepth 100000 in
set_option maxHeartbeats 4000000 in
theorem y_ask_3_1 {G : mj_G} {h : mj_H} {d : Nat} {τ : Nat → Nat → Int32} (hY : YS G h τ) {n : Nat} (hn : τ 0 2 = nI n) (h7 : n ≤ 7) {j : Nat} (hj : j < n) (hc : τ 0 (6 + j) = 3) (hd : 6 ≤ d) : mj_con G MX5_ask d 0 0 [.ref (G.1 + 220), .int (nI j), .int 1] h (fun v h' => v = some (.int (nI j + τ 0 (34 + j) - 1000)) ∧ YS G h' (bg 20 (bg 21 (bg 22 (ty0 τ)))) ∧ mj_fr 220 13 h h') := by
  refine mj_conV okX5_ask (ls := [some (.ref (G.1 + 220)), some (.int (nI j)), some (.int 1)]) rfl rfl ?_
  obtain ⟨y0, y1, y2, y3, y4, y5, y6, y7, y8, y9, y10, y11, y12⟩ := id hY
  refine s_aload_n (n := 1) (i := 0) dX5_ask_0 rfl rfl rfl ?_
  refine s_iload_n (n := 2) (i := 1) dX5_ask_1 rfl rfl rfl ?_
  refine s_v1 (M' := MX5_isHouse) (n := 5) (ci := 5) dX5_ask_2 rfl wd_X5_155 okX5_isHouse rfl rfl (by omega) ⟨Nat.le_refl _, Nat.le_refl _⟩ (by assumption) (y_isHouse (d := d - 1) hY hn h7 (by omega)) ?_
  rintro v2 hh2 ⟨rfl, rfl⟩
  refine s_if_eq (n := 8) (tgt := 18) dX5_ask_5 rfl rfl (fun b5 => ?_) (fun b5 => ?_)
  · exact absurd (Hs_n hj h7) (if0 b5)
  · refine s_iload_n (n := 9) (i := 2) dX5_ask_8 rfl rfl rfl ?_
    refine s_i2l (n := 10) dX5_ask_9 rfl ?_
    refine s_lconst (n := 11) (v := 0) dX5_ask_10 rfl (by decide) ?_
    refine s_lconst (n := 12) (v := 1) dX5_ask_11 rfl (by decide) ?_
    refine s_s3 (M' := MX5_in) (n := 15) dX5_ask_12 rfl wd_X5_54 okX5_in rfl (by omega) ⟨Nat.le_refl _, Nat.le_refl _⟩ (y_in (d := d - 1) (A := 0) (B := 1) (by decide) (by decide)) ?_
    rintro v12 hh12 ⟨rfl, rfl⟩
    refine s_if_ne (n := 18) (tgt := 21) dX5_ask_15 rfl rfl (fun b15 => ?_) (fun b15 => ?_)
    · refine s_aload_n (n := 22) (i := 0) dX5_ask_21 rfl rfl rfl ?_
      refine s_iconst (n := 23) (v := 0) dX5_ask_22 rfl (by decide) ?_
      refine pf_X5_234 (n := 26) (fs' := [_, _, _, _, _, _, _, _, _, _, _, _, _, _, _, _, _, _, _, _, _, _, _]) rfl dX5_ask_23 rfl (by assumption) (by rfl) (by rfl) ?_
      refine YF_10 hY (fun h1 hY1 hF1 => ?_)
      obtain ⟨y0, y1, y2, y3, y4, y5, y6, y7, y8, y9, y10, y11, y12⟩ := id hY1
      replace y4 : h1.2 224 = mj_ar 0 48 (τ 0) := y4
      refine s_iload_n (n := 27) (i := 2) dX5_ask_26 rfl rfl rfl ?_
      refine s_if_ne (n := 30) (tgt := 38) dX5_ask_27 rfl rfl (fun b27 => ?_) (fun b27 => ?_)
      · refine s_aload_n (n := 39) (i := 0) dX5_ask_38 rfl rfl rfl ?_
        refine s_iload_n (n := 40) (i := 1) dX5_ask_39 rfl rfl rfl ?_
        refine s_v1 (M' := MX5_markOf) (n := 43) (ci := 5) dX5_ask_40 rfl wd_X5_252 okX5_markOf rfl rfl (by omega) ⟨Nat.le_refl _, Nat.le_refl _⟩ (by assumption) (y_mk3 (d := d - 1) (τ := ty0 τ) hY1 okt_0 (by omega) hc (by omega)) ?_
        rintro v40 hh40 ⟨rfl, hY2, hF2⟩
        refine s_ireturn dX5_ask_43 rfl (rfl) (Nat.le_refl _) (Nat.le_refl _) ?_
        exact ⟨rfl, hY2, fr_tr hF1 hF2⟩
      · exact absurd b27 (by decide)
    · exact absurd (⟨by decide, by decide⟩) (if0 b15)
set_option maxRecDepth 100000 in
set_option maxHeartbeats 4000000 in
theorem y_ask_4_1 {G : mj_G} {h : mj_H} {d : Nat} {τ : Nat → Nat → Int32} (hY : YS G h τ) {n : Nat} (hn : τ 0 2 = nI n) (h7 : n ≤ 7) {j : Nat} (hj : j < n) (hc : τ 0 (6 + j) = 4) (hd : 6 ≤ d) : mj_con G MX5_ask d 0 0 [.ref (G.1 + 220), .int (nI j), .int 1] h (fun v h' => v = some (.int (nI j - (τ 0 (13 + j) - 100))) ∧ YS G h' (bg 10 (bg 13 (bg 20 (bg 23 (ty0 τ))))) ∧ mj_fr 220 13 h h') := by
  refine mj_conV okX5_ask (ls := [some (.ref (G.1 + 220)), some (.int (nI j)), some (.int 1)]) rfl rfl ?_
  obtain ⟨y0, y1, y2, y3, y4, y5, y6, y7, y8, y9, y10, y11, y12⟩ := id hY
  refine s_aload_n (n := 1) (i := 0) dX5_ask_0 rfl rfl rfl ?_
  refine s_iload_n (n := 2) (i := 1) dX5_ask_1 rfl rfl rfl ?_
  refine s_v1 (M' := MX5_isHouse) (n := 5) (ci := 5) dX5_ask_2 rfl wd_X5_155 okX5_isHouse rfl rfl (by omega) ⟨Nat.le_refl _, Nat.le_refl _⟩ (by assumption) (y_isHouse (d := d - 1) hY hn h7 (by omega)) ?_
  rintro v2 hh2 ⟨rfl, rfl⟩
  refine s_if_eq (n := 8) (tgt := 18) dX5_ask_5 rfl rfl (fun b5 => ?_) (fun b5 => ?_)
  · exact absurd (Hs_n hj h7) (if0 b5)
  · refine s_iload_n (n := 9) (i := 2) dX5_ask_8 rfl rfl rfl ?_
    refine s_i2l (n := 10) dX5_ask_9 rfl ?_
    refine s_lconst (n := 11) (v := 0) dX5_ask_10 rfl (by decide) ?_
    refine s_lconst (n := 12) (v := 1) dX5_ask_11 rfl (by decide) ?_
    refine s_s3 (M' := MX5_in) (n := 15) dX5_ask_12 rfl wd_X5_54 okX5_in rfl (by omega) ⟨Nat.le_refl _, Nat.le_refl _⟩ (y_in (d := d - 1) (A := 0) (B := 1) (by decide) (by decide)) ?_
    rintro v12 hh12 ⟨rfl, rfl⟩
    refine s_if_ne (n := 18) (tgt := 21) dX5_ask_15 rfl rfl (fun b15 => ?_) (fun b15 => ?_)
    · refine s_aload_n (n := 22) (i := 0) dX5_ask_21 rfl rfl rfl ?_
      refine s_iconst (n := 23) (v := 0) dX5_ask_22 rfl (by decide) ?_
      refine pf_X5_234 (n := 26) (fs' := [_, _, _, _, _, _, _, _, _, _, _, _, _, _, _, _, _, _, _, _, _, _, _]) rfl dX5_ask_23 rfl (by assumption) (by rfl) (by rfl) ?_
      refine YF_10 hY (fun h1 hY1 hF1 => ?_)
      obtain ⟨y0, y1, y2, y3, y4, y5, y6, y7, y8, y9, y10, y11, y12⟩ := id hY1
      replace y4 : h1.2 224 = mj_ar 0 48 (τ 0) := y4
      refine s_iload_n (n := 27) (i := 2) dX5_ask_26 rfl rfl rfl ?_
      refine s_if_ne (n := 30) (tgt := 38) dX5_ask_27 rfl rfl (fun b27 => ?_) (fun b27 => ?_)
      · refine s_aload_n (n := 39) (i := 0) dX5_ask_38 rfl rfl rfl ?_
        refine s_iload_n (n := 40) (i := 1) dX5_ask_39 rfl rfl rfl ?_
        refine s_v1 (M' := MX5_markOf) (n := 43) (ci := 5) dX5_ask_40 rfl wd_X5_252 okX5_markOf rfl rfl (by omega) ⟨Nat.le_refl _, Nat.le_refl _⟩ (by assumption) (y_mk4 (d := d - 1) (τ := ty0 τ) hY1 okt_0 (by omega) hc (by omega)) ?_
        rintro v40 hh40 ⟨rfl, hY2, hF2⟩
        refine s_ireturn dX5_ask_43 rfl (rfl) (Nat.le_refl _) (Nat.le_refl _) ?_
        exact ⟨rfl, hY2, fr_tr hF1 hF2⟩
      · exact absurd b27 (by decide)
    · exact absurd (⟨by decide, by decide⟩) (if0 b15)
set_option maxRecDepth 100000 in
set_option maxHeartbeats 4000000 in
theorem y_ask_5_1 {G : mj_G} {h : mj_H} {d : Nat} {τ : Nat → Nat → Int32} (hY : YS G h τ) {n : Nat} (hn : τ 0 2 = nI n) (h7 : n ≤ 7) {j : Nat} (hj : j < n) (hc : τ 0 (6 + j) = 5) (hd : 6 ≤ d) : mj_con G MX5_ask d 0 0 [.ref (G.1 + 220), .int (nI j), .int 1] h (fun v h' => v = some (.int (nI j - 2 * (τ 0 (13 + j) - 100))) ∧ YS G h' (bg 10 (bg 13 (bg 14 (bg 20 (bg 23 (ty0 τ)))))) ∧ mj_fr 220 13 h h') := by
  refine mj_conV okX5_ask (ls := [some (.ref (G.1 + 220)), some (.int (nI j)), some (.int 1)]) rfl rfl ?_
  obtain ⟨y0, y1, y2, y3, y4, y5, y6, y7, y8, y9, y10, y11, y12⟩ := id hY
  refine s_aload_n (n := 1) (i := 0) dX5_ask_0 rfl rfl rfl ?_
  refine s_iload_n (n := 2) (i := 1) dX5_ask_1 rfl rfl rfl ?_
  refine s_v1 (M' := MX5_isHouse) (n := 5) (ci := 5) dX5_ask_2 rfl wd_X5_155 okX5_isHouse rfl rfl (by omega) ⟨Nat.le_refl _, Nat.le_refl _⟩ (by assumption) (y_isHouse (d := d - 1) hY hn h7 (by omega)) ?_
  rintro v2 hh2 ⟨rfl, rfl⟩
  refine s_if_eq (n := 8) (tgt := 18) dX5_ask_5 rfl rfl (fun b5 => ?_) (fun b5 => ?_)
  · exact absurd (Hs_n hj h7) (if0 b5)
  · refine s_iload_n (n := 9) (i := 2) dX5_ask_8 rfl rfl rfl ?_
    refine s_i2l (n := 10) dX5_ask_9 rfl ?_
    refine s_lconst (n := 11) (v := 0) dX5_ask_10 rfl (by decide) ?_
    refine s_lconst (n := 12) (v := 1) dX5_ask_11 rfl (by decide) ?_
    refine s_s3 (M' := MX5_in) (n := 15) dX5_ask_12 rfl wd_X5_54 okX5_in rfl (by omega) ⟨Nat.le_refl _, Nat.le_refl _⟩ (y_in (d := d - 1) (A := 0) (B := 1) (by decide) (by decide)) ?_
    rintro v12 hh12 ⟨rfl, rfl⟩
    refine s_if_ne (n := 18) (tgt := 21) dX5_ask_15 rfl rfl (fun b15 => ?_) (fun b15 => ?_)
    · refine s_aload_n (n := 22) (i := 0) dX5_ask_21 rfl rfl rfl ?_
      refine s_iconst (n := 23) (v := 0) dX5_ask_22 rfl (by decide) ?_
      refine pf_X5_234 (n := 26) (fs' := [_, _, _, _, _, _, _, _, _, _, _, _, _, _, _, _, _, _, _, _, _, _, _]) rfl dX5_ask_23 rfl (by assumption) (by rfl) (by rfl) ?_
      refine YF_10 hY (fun h1 hY1 hF1 => ?_)
      obtain ⟨y0, y1, y2, y3, y4, y5, y6, y7, y8, y9, y10, y11, y12⟩ := id hY1
      replace y4 : h1.2 224 = mj_ar 0 48 (τ 0) := y4
      refine s_iload_n (n := 27) (i := 2) dX5_ask_26 rfl rfl rfl ?_
      refine s_if_ne (n := 30) (tgt := 38) dX5_ask_27 rfl rfl (fun b27 => ?_) (fun b27 => ?_)
      · refine s_aload_n (n := 39) (i := 0) dX5_ask_38 rfl rfl rfl ?_
        refine s_iload_n (n := 40) (i := 1) dX5_ask_39 rfl rfl rfl ?_
        refine s_v1 (M' := MX5_markOf) (n := 43) (ci := 5) dX5_ask_40 rfl wd_X5_252 okX5_markOf rfl rfl (by omega) ⟨Nat.le_refl _, Nat.le_refl _⟩ (by assumption) (y_mk5 (d := d - 1) (τ := ty0 τ) hY1 okt_0 (by omega) hc (by omega)) ?_
        rintro v40 hh40 ⟨rfl, hY2, hF2⟩
        refine s_ireturn dX5_ask_43 rfl (rfl) (Nat.le_refl _) (Nat.le_refl _) ?_
        exact ⟨rfl, hY2, fr_tr hF1 hF2⟩
      · exact absurd b27 (by decide)
    · exact absurd (⟨by decide, by decide⟩) (if0 b15)
