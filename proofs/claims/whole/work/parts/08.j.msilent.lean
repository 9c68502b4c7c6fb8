set_option maxRecDepth 100000 in
set_option maxHeartbeats 4000000 in
theorem y_silent_bad {G : mj_G} {h : mj_H} {d : Nat} {τ : Nat → Nat → Int32} (hY : YS G h τ) {n : Nat} (hn : τ 0 2 = nI n) (h7 : n ≤ 7) {x1 x2 x3 x4 : Int32} (hb : ¬ (Hs n x1 ∧ Wi x2 0 7 ∧ Wi x4 1 12)) (hd : 3 ≤ d) : mj_con G MX5_silent d 0 0 [.ref (G.1 + 220), .int x1, .int x2, .int x3, .int x4] h (rI (-1000001) h) := by
  refine mj_conV okX5_silent (ls := [some (.ref (G.1 + 220)), some (.int x1), some (.int x2), some (.int x3), some (.int x4), none, none, none]) rfl rfl ?_
  obtain ⟨y0, y1, y2, y3, y4, y5, y6, y7, y8, y9, y10, y11, y12⟩ := id hY
  refine s_aload_n (n := 1) (i := 0) dX5_silent_0 rfl rfl rfl ?_
  refine s_iload_n (n := 2) (i := 1) dX5_silent_1 rfl rfl rfl ?_
  refine s_v1 (M' := MX5_isHouse) (n := 5) (ci := 5) dX5_silent_2 rfl wd_X5_155 okX5_isHouse rfl rfl (by omega) ⟨Nat.le_refl _, Nat.le_refl _⟩ (by assumption) (y_isHouse (d := d - 1) hY hn h7 (by omega)) ?_
  rintro v2 hh2 ⟨rfl, rfl⟩
  refine s_if_eq (n := 8) (tgt := 19) dX5_silent_5 rfl rfl (fun b5 => ?_) (fun b5 => ?_)
  · refine s_ldc (n := 21) dX5_silent_19 rfl wd_X5_64 ?_
    refine s_istore (n := 23) (i := 5) (ls' := [_, _, _, _, _, _, _, _]) dX5_silent_21 rfl rfl rfl rfl ?_
    refine s_iload (n := 25) dX5_silent_23 rfl rfl ?_
    refine s_if_ge (n := 28) (tgt := 31) dX5_silent_25 rfl rfl (fun b25 => ?_) (fun b25 => ?_)
    · exact absurd b25 (by decide)
    · refine s_iload (n := 30) dX5_silent_28 rfl rfl ?_
      refine s_ireturn dX5_silent_30 rfl (rfl) (Nat.le_refl _) (Nat.le_refl _) ?_
      exact ⟨rfl, rfl⟩
  · refine s_aload_n (n := 9) (i := 0) dX5_silent_8 rfl rfl rfl ?_
    refine s_iload_n (n := 10) (i := 2) dX5_silent_9 rfl rfl rfl ?_
    refine s_iload_n (n := 11) (i := 3) dX5_silent_10 rfl rfl rfl ?_
    refine s_iload (n := 13) dX5_silent_11 rfl rfl ?_
    refine s_v3 (M' := MX5_lacks) (n := 16) (ci := 5) dX5_silent_13 rfl wd_X5_205 okX5_lacks rfl rfl (by omega) ⟨Nat.le_refl _, Nat.le_refl _⟩ (by assumption) (y_lacks_bad (d := d - 1) hY (fun z => hb ⟨if1 b5, z⟩) (by omega)) ?_
    rintro v13 hh13 ⟨rfl, rfl⟩
    refine s_goto (tgt := 21) dX5_silent_16 rfl ?_
    refine s_istore (n := 23) (i := 5) (ls' := [_, _, _, _, _, _, _, _]) dX5_silent_21 rfl rfl rfl rfl ?_
    refine s_iload (n := 25) dX5_silent_23 rfl rfl ?_
    refine s_if_ge (n := 28) (tgt := 31) dX5_silent_25 rfl rfl (fun b25 => ?_) (fun b25 => ?_)
    · exact absurd b25 (by decide)
    · refine s_iload (n := 30) dX5_silent_28 rfl rfl ?_
      refine s_ireturn dX5_silent_30 rfl (rfl) (Nat.le_refl _) (Nat.le_refl _) ?_
      exact ⟨rfl, rfl⟩
set_option maxRecDepth 100000 in
set_option maxHeartbeats 4000000 in
theorem y_silent_null {G : mj_G} {h : mj_H} {d : Nat} {τ : Nat → Nat → Int32} (hY : YS G h τ) {n : Nat} (hn : τ 0 2 = nI n) (h7 : n ≤ 7) {x1 x3 x4 : Int32} {a : Nat} (ha : a < 8) (h1 : Hs n x1) (h4 : Wi x4 1 12) (hf : τ 2 a < 0) (hd : 3 ≤ d) : mj_con G MX5_silent d 0 0 [.ref (G.1 + 220), .int x1, .int (nI a), .int x3, .int x4] h (fun v h' => v = some (.int (-1000010 - 1)) ∧ YS G h' (u2 (τ) 12 (upd (τ 12) 0 1)) ∧ mj_fr 220 13 h h') := by
  refine mj_conV okX5_silent (ls := [some (.ref (G.1 + 220)), some (.int x1), some (.int (nI a)), some (.int x3), some (.int x4), none, none, none]) rfl rfl ?_
  obtain ⟨y0, y1, y2, y3, y4, y5, y6, y7, y8, y9, y10, y11, y12⟩ := id hY
  refine s_aload_n (n := 1) (i := 0) dX5_silent_0 rfl rfl rfl ?_
  refine s_iload_n (n := 2) (i := 1) dX5_silent_1 rfl rfl rfl ?_
  refine s_v1 (M' := MX5_isHouse) (n := 5) (ci := 5) dX5_silent_2 rfl wd_X5_155 okX5_isHouse rfl rfl (by omega) ⟨Nat.le_refl _, Nat.le_refl _⟩ (by assumption) (y_isHouse (d := d - 1) hY hn h7 (by omega)) ?_
  rintro v2 hh2 ⟨rfl, rfl⟩
  refine s_if_eq (n := 8) (tgt := 19) dX5_silent_5 rfl rfl (fun b5 => ?_) (fun b5 => ?_)
  · exact absurd (h1) (if0 b5)
  · refine s_aload_n (n := 9) (i := 0) dX5_silent_8 rfl rfl rfl ?_
    refine s_iload_n (n := 10) (i := 2) dX5_silent_9 rfl rfl rfl ?_
    refine s_iload_n (n := 11) (i := 3) dX5_silent_10 rfl rfl rfl ?_
    refine s_iload (n := 13) dX5_silent_11 rfl rfl ?_
    refine s_v3 (M' := MX5_lacks) (n := 16) (ci := 5) dX5_silent_13 rfl wd_X5_205 okX5_lacks rfl rfl (by omega) ⟨Nat.le_refl _, Nat.le_refl _⟩ (by assumption) (y_lacks_null (d := d - 1) hY ha h4 hf (by omega)) ?_
    rintro v13 hh13 ⟨rfl, hY1, hF1⟩
    refine s_goto (tgt := 21) dX5_silent_16 rfl ?_
    refine s_istore (n := 23) (i := 5) (ls' := [_, _, _, _, _, _, _, _]) dX5_silent_21 rfl rfl rfl rfl ?_
    refine s_iload (n := 25) dX5_silent_23 rfl rfl ?_
    refine s_if_ge (n := 28) (tgt := 31) dX5_silent_25 rfl rfl (fun b25 => ?_) (fun b25 => ?_)
    · exact absurd b25 (by decide)
    · refine s_iload (n := 30) dX5_silent_28 rfl rfl ?_
      refine s_ireturn dX5_silent_30 rfl (rfl) (Nat.le_refl _) (Nat.le_refl _) ?_
      exact ⟨rfl, hY1, hF1⟩
set_option maxRecDepth 100000 in
set_option maxHeartbeats 4000000 in
theorem y_silent_place {G : mj_G} {h : mj_H} {d : Nat} {τ : Nat → Nat → Int32} (hY : YS G h τ) {n : Nat} (hn : τ 0 2 = nI n) (h7 : n ≤ 7) {x1 x3 x4 : Int32} {a : Nat} (ha : a < 8) (h1 : Hs n x1) (h4 : Wi x4 1 12) (hs : ¬ τ 2 a < 0) (hf : ¬ (0 ≤ x3 ∧ x3 ≤ τ 2 a - x4)) (hd : 3 ≤ d) : mj_con G MX5_silent d 0 0 [.ref (G.1 + 220), .int x1, .int (nI a), .int x3, .int x4] h (fun v h' => v = some (.int (-1000010 - 2)) ∧ YS G h' (u2 (τ) 12 (upd (τ 12) 0 2)) ∧ mj_fr 220 13 h h') := by
  refine mj_conV okX5_silent (ls := [some (.ref (G.1 + 220)), some (.int x1), some (.int (nI a)), some (.int x3), some (.int x4), none, none, none]) rfl rfl ?_
  obtain ⟨y0, y1, y2, y3, y4, y5, y6, y7, y8, y9, y10, y11, y12⟩ := id hY
  refine s_aload_n (n := 1) (i := 0) dX5_silent_0 rfl rfl rfl ?_
  refine s_iload_n (n := 2) (i := 1) dX5_silent_1 rfl rfl rfl ?_
  refine s_v1 (M' := MX5_isHouse) (n := 5) (ci := 5) dX5_silent_2 rfl wd_X5_155 okX5_isHouse rfl rfl (by omega) ⟨Nat.le_refl _, Nat.le_refl _⟩ (by assumption) (y_isHouse (d := d - 1) hY hn h7 (by omega)) ?_
  rintro v2 hh2 ⟨rfl, rfl⟩
  refine s_if_eq (n := 8) (tgt := 19) dX5_silent_5 rfl rfl (fun b5 => ?_) (fun b5 => ?_)
  · exact absurd (h1) (if0 b5)
  · refine s_aload_n (n := 9) (i := 0) dX5_silent_8 rfl rfl rfl ?_
    refine s_iload_n (n := 10) (i := 2) dX5_silent_9 rfl rfl rfl ?_
    refine s_iload_n (n := 11) (i := 3) dX5_silent_10 rfl rfl rfl ?_
    refine s_iload (n := 13) dX5_silent_11 rfl rfl ?_
    refine s_v3 (M' := MX5_lacks) (n := 16) (ci := 5) dX5_silent_13 rfl wd_X5_205 okX5_lacks rfl rfl (by omega) ⟨Nat.le_refl _, Nat.le_refl _⟩ (by assumption) (y_lacks_place (d := d - 1) hY ha h4 hs hf (by omega)) ?_
    rintro v13 hh13 ⟨rfl, hY1, hF1⟩
    refine s_goto (tgt := 21) dX5_silent_16 rfl ?_
    refine s_istore (n := 23) (i := 5) (ls' := [_, _, _, _, _, _, _, _]) dX5_silent_21 rfl rfl rfl rfl ?_
    refine s_iload (n := 25) dX5_silent_23 rfl rfl ?_
    refine s_if_ge (n := 28) (tgt := 31) dX5_silent_25 rfl rfl (fun b25 => ?_) (fun b25 => ?_)
    · exact absurd b25 (by decide)
    · refine s_iload (n := 30) dX5_silent_28 rfl rfl ?_
      refine s_ireturn dX5_silent_30 rfl (rfl) (Nat.le_refl _) (Nat.le_refl _) ?_
      exact ⟨rfl, hY1, hF1⟩
set_option maxRecDepth 100000 in
set_option maxHeartbeats 4000000 in
theorem l_sil {G : mj_G} {h0 : mj_H} {d n j a i k : Nat} {τ : Nat → Nat → Int32} {z5 : Int32} (hok : okB n (τ 0)) (hj : j < n) (ha : a < 8) (hk : k ≤ 12) (hik : i + k ≤ 40) (hd : 5 ≤ d) : ∀ (r v : Nat), v + r = n → ∀ (h : mj_H) (acc : Int32), YS G h (u2 (asS τ) 0 (τ 0)) → mj_fr 220 13 h0 h → mj_wp G MX5_silent d 0 0 63 [some (.ref (G.1 + 220)), some (.int (nI j)), some (.int (nI a)), some (.int (nI i)), some (.int (nI k)), some (.int z5), some (.int acc), some (.int (nI v))] [] h 0 0 (fun vv h' => vv = some (.int (siF n j (τ 3) (40 * a + i) k (τ 0) r v acc)) ∧ YS G h' (u2 (u2 (asS τ) 0 (τ 0)) 12 (upd (τ 12) 0 0)) ∧ mj_fr 220 13 h0 h') := by
  have h7 : n ≤ 7 := hok.1.2.1
  intro r
  induction r with
  | zero =>
    intro v hv h acc hY hF0
    have hvn : v = n := by omega
    subst hvn
    obtain ⟨y0, y1, y2, y3, y4, y5, y6, y7, y8, y9, y10, y11, y12⟩ := id hY
    replace y4 : h.2 224 = mj_ar 0 48 (τ 0) := y4
    replace y0 : h.2 220 = YO G (τ 12) := y0
    replace y3 : h.2 223 = mj_ar 0 320 (τ 3) := y3
    refine s_iload (n := 65) dX5_silent_63 rfl rfl ?_
    refine s_aload_n (n := 66) (i := 0) dX5_silent_65 rfl rfl rfl ?_
    refine gf_X5_19 (n := 69) rfl dX5_silent_66 rfl (by assumption) (by rfl) ?_
    refine s_iconst (n := 70) (v := 2) dX5_silent_69 rfl (by decide) ?_
    refine s_iald (n := 71) dX5_silent_70 rfl (by assumption) (mj_ixe (j := 2) rfl (by omega)) ?_
    rw [hok.1.1]
    refine s_icmp_ge (n := 74) (tgt := 136) dX5_silent_71 rfl rfl (fun b71 => ?_) (fun b71 => ?_)
    · refine s_aload_n (n := 137) (i := 0) dX5_silent_136 rfl rfl rfl ?_
      refine s_iload (n := 139) dX5_silent_137 rfl rfl ?_
      refine s_v1 (M' := MX5_well) (n := 142) (ci := 5) dX5_silent_139 rfl wd_X5_69 okX5_well rfl rfl (by omega) ⟨Nat.le_refl _, Nat.le_refl _⟩ (by assumption) (y_well (d := d - 1) hY) ?_
      rintro v139 hh139 ⟨rfl, hY2, hF2⟩
      refine s_ireturn dX5_silent_142 rfl (rfl) (Nat.le_refl _) (Nat.le_refl _) ?_
      exact ⟨rfl, hY2, fr_tr hF0 hF2⟩
    · exact absurd (Int32.le_refl _) b71
  | succ r ih =>
    intro v hv h acc hY hF0
    obtain ⟨y0, y1, y2, y3, y4, y5, y6, y7, y8, y9, y10, y11, y12⟩ := id hY
    replace y4 : h.2 224 = mj_ar 0 48 (τ 0) := y4
    replace y0 : h.2 220 = YO G (τ 12) := y0
    replace y3 : h.2 223 = mj_ar 0 320 (τ 3) := y3
    refine s_iload (n := 65) dX5_silent_63 rfl rfl ?_
    refine s_aload_n (n := 66) (i := 0) dX5_silent_65 rfl rfl rfl ?_
    refine gf_X5_19 (n := 69) rfl dX5_silent_66 rfl (by assumption) (by rfl) ?_
    refine s_iconst (n := 70) (v := 2) dX5_silent_69 rfl (by decide) ?_
    refine s_iald (n := 71) dX5_silent_70 rfl (by assumption) (mj_ixe (j := 2) rfl (by omega)) ?_
    rw [hok.1.1]
    refine s_icmp_ge (n := 74) (tgt := 136) dX5_silent_71 rfl rfl (fun b71 => ?_) (fun b71 => ?_)
    · exact absurd ((nI_leE (by omega) (by omega)).mp b71) (by omega)
    · refine s_aload_n (n := 75) (i := 0) dX5_silent_74 rfl rfl rfl ?_
      refine gf_X5_19 (n := 78) rfl dX5_silent_75 rfl (by assumption) (by rfl) ?_
      refine s_iconst (n := 79) (v := 4) dX5_silent_78 rfl (by decide) ?_
      refine s_iald (n := 80) dX5_silent_79 rfl (by assumption) (mj_ixe (j := 4) rfl (by omega)) ?_
      refine s_iload (n := 82) dX5_silent_80 rfl rfl ?_
      refine s_s2 (M' := MX5_has) (n := 85) dX5_silent_82 rfl wd_X5_139 okX5_has rfl (by omega) ⟨Nat.le_refl _, Nat.le_refl _⟩ (y_has (d := d - 1)) ?_
      rintro v82 hh82 ⟨rfl, rfl⟩
      refine s_if_ne (n := 88) (tgt := 130) dX5_silent_85 rfl rfl (fun b85 => ?_) (fun b85 => ?_)
      · have e : siF n j (τ 3) (40 * a + i) k (τ 0) (r + 1) v acc = siF n j (τ 3) (40 * a + i) k (τ 0) r (v + 1) acc := if_pos (if1 b85)
        refine s_iinc (n := 133) (v := _ + 1) (ls' := [_, _, _, _, _, _, _, _]) dX5_silent_130 rfl rfl rfl rfl rfl ?_
        refine s_goto (tgt := 63) dX5_silent_133 rfl ?_
        rw [nI_1, e]
        first | exact ih (v + 1) (by omega) _ _ hY2 (fr_tr hF0 (fr_tr hF1 hF2)) | exact ih (v + 1) (by omega) _ _ hY hF0
      · have e : siF n j (τ 3) (40 * a + i) k (τ 0) (r + 1) v acc = siF n j (τ 3) (40 * a + i) k (τ 0) r (v + 1) (acc ||| (if asF n j (τ 3) (40 * a + i) k 0 (upd (τ 0) 4 (τ 0 4 ||| (1 <<< (nI v &&& 31)))) = 0 then (0 : Int32) else 1 <<< (nI v &&& 31))) := if_neg (if0 b85)
        refine s_aload_n (n := 89) (i := 0) dX5_silent_88 rfl rfl rfl ?_
        refine gf_X5_19 (n := 92) rfl dX5_silent_89 rfl (by assumption) (by rfl) ?_
        refine s_iconst (n := 93) (v := 4) dX5_silent_92 rfl (by decide) ?_
        refine s_dup2 (n := 94) dX5_silent_93 rfl rfl rfl ?_
        refine s_iald (n := 95) dX5_silent_94 rfl (by assumption) (mj_ixe (j := 4) rfl (by omega)) ?_
        refine s_iconst (n := 96) (v := 1) dX5_silent_95 rfl (by decide) ?_
        refine s_iload (n := 98) dX5_silent_96 rfl rfl ?_
        refine s_ishl (n := 99) dX5_silent_98 rfl ?_
        refine s_ior (n := 100) dX5_silent_99 rfl ?_
        refine s_iast (n := 101) dX5_silent_100 rfl (by assumption) (mj_ixe (j := 4) rfl (by omega)) ?_
        refine YA_0 hY (fun h1 hY1 hF1 => ?_)
        rw [u2_u2] at hY1
        obtain ⟨y0, y1, y2, y3, y4, y5, y6, y7, y8, y9, y10, y11, y12⟩ := id hY1
        replace y4 : h1.2 224 = mj_ar 0 48 (upd (τ 0) 4 (τ 0 4 ||| (1 <<< (nI v &&& 31)))) := y4
        replace y0 : h1.2 220 = YO G (τ 12) := y0
        replace y3 : h1.2 223 = mj_ar 0 320 (τ 3) := y3
        refine s_iload (n := 103) dX5_silent_101 rfl rfl ?_
        refine s_aload_n (n := 104) (i := 0) dX5_silent_103 rfl rfl rfl ?_
        refine s_iload_n (n := 105) (i := 1) dX5_silent_104 rfl rfl rfl ?_
        refine s_bipush (n := 107) (v := 40) dX5_silent_105 rfl (by decide) ?_
        refine s_iload_n (n := 108) (i := 2) dX5_silent_107 rfl rfl rfl ?_
        refine s_imul (n := 109) dX5_silent_108 rfl ?_
        refine s_iload_n (n := 110) (i := 3) dX5_silent_109 rfl rfl rfl ?_
        refine s_iadd (n := 111) dX5_silent_110 rfl ?_
        refine s_iload (n := 113) dX5_silent_111 rfl rfl ?_
        rw [show (40 : Int32) * nI a + nI i = nI (40 * a + i) from by rw [show (40 : Int32) = nI 40 from rfl, pk_mul, nI_add]]
        refine s_v3 (M' := MX5_isSo) (n := 116) (ci := 5) dX5_silent_113 rfl wd_X5_209 okX5_isSo rfl rfl (by omega) ⟨Nat.le_refl _, Nat.le_refl _⟩ (by assumption) (y_isSo (d := d - 1) hY1 (n := n) (okB_up hok (Or.inl rfl)) (fun q hq => up_ne (by omega)) (by omega) (by omega) hk (by omega)) ?_
        rintro v113 hh113 ⟨rfl, hY2, hF2⟩
        obtain ⟨y0, y1, y2, y3, y4, y5, y6, y7, y8, y9, y10, y11, y12⟩ := id hY2
        replace y4 : hh113.2 224 = mj_ar 0 48 (τ 0) := y4
        replace y0 : hh113.2 220 = YO G (τ 12) := y0
        replace y3 : hh113.2 223 = mj_ar 0 320 (τ 3) := y3
        refine s_if_eq (n := 119) (tgt := 126) dX5_silent_116 rfl rfl (fun b116 => ?_) (fun b116 => ?_)
        · rw [if_pos b116] at e
          refine s_iconst (n := 127) (v := 0) dX5_silent_126 rfl (by decide) ?_
          refine s_ior (n := 128) dX5_silent_127 rfl ?_
          refine s_istore (n := 130) (i := 6) (ls' := [_, _, _, _, _, _, _, _]) dX5_silent_128 rfl rfl rfl rfl ?_
          refine s_iinc (n := 133) (v := _ + 1) (ls' := [_, _, _, _, _, _, _, _]) dX5_silent_130 rfl rfl rfl rfl rfl ?_
          refine s_goto (tgt := 63) dX5_silent_133 rfl ?_
          rw [nI_1, e]
          first | exact ih (v + 1) (by omega) _ _ hY2 (fr_tr hF0 (fr_tr hF1 hF2)) | exact ih (v + 1) (by omega) _ _ hY hF0
        · rw [if_neg b116] at e
          refine s_iconst (n := 120) (v := 1) dX5_silent_119 rfl (by decide) ?_
          refine s_iload (n := 122) dX5_silent_120 rfl rfl ?_
          refine s_ishl (n := 123) dX5_silent_122 rfl ?_
          refine s_goto (tgt := 127) dX5_silent_123 rfl ?_
          refine s_ior (n := 128) dX5_silent_127 rfl ?_
          refine s_istore (n := 130) (i := 6) (ls' := [_, _, _, _, _, _, _, _]) dX5_silent_128 rfl rfl rfl rfl ?_
          refine s_iinc (n := 133) (v := _ + 1) (ls' := [_, _, _, _, _, _, _, _]) dX5_silent_130 rfl rfl rfl rfl rfl ?_
          refine s_goto (tgt := 63) dX5_silent_133 rfl ?_
          rw [nI_1, e]
          first | exact ih (v + 1) (by omega) _ _ hY2 (fr_tr hF0 (fr_tr hF1 hF2)) | exact ih (v + 1) (by omega) _ _ hY hF0
set_option maxRecDepth 100000 in
set_option maxHeartbeats 4000000 in
theorem y_silent {G : mj_G} {h : mj_H} {d : Nat} {τ : Nat → Nat → Int32} (hY : YS G h τ) {n : Nat} (hn : τ 0 2 = nI n) (h7 : n ≤ 7) (hok : okB n (τ 0)) {j a i k : Nat} (hj : j < n) (ha : a < 8) (hk1 : 1 ≤ k) (hk : k ≤ 12) (hik : i + k ≤ 40) (hs : ¬ τ 2 a < 0) (hf : 0 ≤ nI i ∧ nI i ≤ τ 2 a - nI k) (hd : 5 ≤ d) : mj_con G MX5_silent d 0 0 [.ref (G.1 + 220), .int (nI j), .int (nI a), .int (nI i), .int (nI k)] h (fun vv h' => vv = some (.int (siF n j (τ 3) (40 * a + i) k (τ 0) n 0 (if asF n j (τ 3) (40 * a + i) k 0 (τ 0) = 0 then (0 : Int32) else 128))) ∧ YS G h' (u2 (u2 (asS τ) 0 (τ 0)) 12 (upd (τ 12) 0 0)) ∧ mj_fr 220 13 h h') := by
  refine mj_conV okX5_silent (ls := [some (.ref (G.1 + 220)), some (.int (nI j)), some (.int (nI a)), some (.int (nI i)), some (.int (nI k)), none, none, none]) rfl rfl ?_
  obtain ⟨y0, y1, y2, y3, y4, y5, y6, y7, y8, y9, y10, y11, y12⟩ := id hY
  refine s_aload_n (n := 1) (i := 0) dX5_silent_0 rfl rfl rfl ?_
  refine s_iload_n (n := 2) (i := 1) dX5_silent_1 rfl rfl rfl ?_
  refine s_v1 (M' := MX5_isHouse) (n := 5) (ci := 5) dX5_silent_2 rfl wd_X5_155 okX5_isHouse rfl rfl (by omega) ⟨Nat.le_refl _, Nat.le_refl _⟩ (by assumption) (y_isHouse (d := d - 1) hY hn h7 (by omega)) ?_
  rintro v2 hh2 ⟨rfl, rfl⟩
  refine s_if_eq (n := 8) (tgt := 19) dX5_silent_5 rfl rfl (fun b5 => ?_) (fun b5 => ?_)
  · exact absurd (Hs_n hj h7) (if0 b5)
  · refine s_aload_n (n := 9) (i := 0) dX5_silent_8 rfl rfl rfl ?_
    refine s_iload_n (n := 10) (i := 2) dX5_silent_9 rfl rfl rfl ?_
    refine s_iload_n (n := 11) (i := 3) dX5_silent_10 rfl rfl rfl ?_
    refine s_iload (n := 13) dX5_silent_11 rfl rfl ?_
    refine s_v3 (M' := MX5_lacks) (n := 16) (ci := 5) dX5_silent_13 rfl wd_X5_205 okX5_lacks rfl rfl (by omega) ⟨Nat.le_refl _, Nat.le_refl _⟩ (by assumption) (y_lacks (d := d - 1) hY ha (Wi_n (by omega) (by omega) (by omega)) hs hf (by omega)) ?_
    rintro v13 hh13 ⟨rfl, rfl⟩
    refine s_goto (tgt := 21) dX5_silent_16 rfl ?_
    refine s_istore (n := 23) (i := 5) (ls' := [_, _, _, _, _, _, _, _]) dX5_silent_21 rfl rfl rfl rfl ?_
    refine s_iload (n := 25) dX5_silent_23 rfl rfl ?_
    refine s_if_ge (n := 28) (tgt := 31) dX5_silent_25 rfl rfl (fun b25 => ?_) (fun b25 => ?_)
    · refine s_aload_n (n := 32) (i := 0) dX5_silent_31 rfl rfl rfl ?_
      refine s_v0 (M' := MX5_putAside) (n := 35) (ci := 5) dX5_silent_32 rfl wd_X5_174 okX5_putAside rfl rfl (by omega) ⟨Nat.le_refl _, Nat.le_refl _⟩ (by assumption) (y_pa (d := d - 1) hY) ?_
      rintro v32 hh32 ⟨rfl, hY1, hF1⟩
      obtain ⟨y0, y1, y2, y3, y4, y5, y6, y7, y8, y9, y10, y11, y12⟩ := id hY1
      replace y4 : hh32.2 224 = mj_ar 0 48 (τ 0) := y4
      replace y0 : hh32.2 220 = YO G (τ 12) := y0
      replace y3 : hh32.2 223 = mj_ar 0 320 (τ 3) := y3
      refine s_aload_n (n := 36) (i := 0) dX5_silent_35 rfl rfl rfl ?_
      refine s_iload_n (n := 37) (i := 1) dX5_silent_36 rfl rfl rfl ?_
      refine s_bipush (n := 39) (v := 40) dX5_silent_37 rfl (by decide) ?_
      refine s_iload_n (n := 40) (i := 2) dX5_silent_39 rfl rfl rfl ?_
      refine s_imul (n := 41) dX5_silent_40 rfl ?_
      refine s_iload_n (n := 42) (i := 3) dX5_silent_41 rfl rfl rfl ?_
      refine s_iadd (n := 43) dX5_silent_42 rfl ?_
      refine s_iload (n := 45) dX5_silent_43 rfl rfl ?_
      rw [show (40 : Int32) * nI a + nI i = nI (40 * a + i) from by rw [show (40 : Int32) = nI 40 from rfl, pk_mul, nI_add]]
      refine s_v3 (M' := MX5_isSo) (n := 48) (ci := 5) dX5_silent_45 rfl wd_X5_209 okX5_isSo rfl rfl (by omega) ⟨Nat.le_refl _, Nat.le_refl _⟩ (by assumption) (y_isSo (d := d - 1) hY1 (n := n) (hok) (rfl48) (by omega) (by omega) hk (by omega)) ?_
      rintro v45 hh45 ⟨rfl, hY2, hF2⟩
      obtain ⟨y0, y1, y2, y3, y4, y5, y6, y7, y8, y9, y10, y11, y12⟩ := id hY2
      replace y4 : hh45.2 224 = mj_ar 0 48 (τ 0) := y4
      replace y0 : hh45.2 220 = YO G (τ 12) := y0
      replace y3 : hh45.2 223 = mj_ar 0 320 (τ 3) := y3
      refine s_if_eq (n := 51) (tgt := 57) dX5_silent_48 rfl rfl (fun b48 => ?_) (fun b48 => ?_)
      · rw [if_pos b48]
        refine s_iconst (n := 58) (v := 0) dX5_silent_57 rfl (by decide) ?_
        refine s_istore (n := 60) (i := 6) (ls' := [_, _, _, _, _, _, _, _]) dX5_silent_58 rfl rfl rfl rfl ?_
        refine s_iconst (n := 61) (v := 0) dX5_silent_60 rfl (by decide) ?_
        refine s_istore (n := 63) (i := 7) (ls' := [_, _, _, _, _, _, _, _]) dX5_silent_61 rfl rfl rfl rfl ?_
        exact l_sil hok hj ha hk hik hd n 0 (by omega) _ _ hY2 (fr_tr hF1 hF2)
      · rw [if_neg b48]
        refine s_sipush (n := 54) (v := 128) dX5_silent_51 rfl (by decide) ?_
        refine s_goto (tgt := 58) dX5_silent_54 rfl ?_
        refine s_istore (n := 60) (i := 6) (ls' := [_, _, _, _, _, _, _, _]) dX5_silent_58 rfl rfl rfl rfl ?_
        refine s_iconst (n := 61) (v := 0) dX5_silent_60 rfl (by decide) ?_
        refine s_istore (n := 63) (i := 7) (ls' := [_, _, _, _, _, _, _, _]) dX5_silent_61 rfl rfl rfl rfl ?_
        exact l_sil hok hj ha hk hik hd n 0 (by omega) _ _ hY2 (fr_tr hF1 hF2)
    · exact absurd (by decide) b25
set_option maxRecDepth 100000 in
set_option maxHeartbeats 4000000 in
theorem y_image_bad {G : mj_G} {h : mj_H} {d : Nat} {τ : Nat → Nat → Int32} (hY : YS G h τ) {x : Int32} (hb : ¬ Wi x 0 1) (hd : 2 ≤ d) : mj_con G MX5_image d 0 0 [.ref (G.1 + 220), .int x] h (rI (-1000001) h) := by
  refine mj_conV okX5_image (ls := [some (.ref (G.1 + 220)), some (.int x), none]) rfl rfl ?_
  obtain ⟨y0, y1, y2, y3, y4, y5, y6, y7, y8, y9, y10, y11, y12⟩ := id hY
  refine s_iload_n (n := 1) (i := 1) dX5_image_0 rfl rfl rfl ?_
  refine s_i2l (n := 2) dX5_image_1 rfl ?_
  refine s_lconst (n := 3) (v := 0) dX5_image_2 rfl (by decide) ?_
  refine s_lconst (n := 4) (v := 1) dX5_image_3 rfl (by decide) ?_
  refine s_s3 (M' := MX5_in) (n := 7) dX5_image_4 rfl wd_X5_54 okX5_in rfl (by omega) ⟨Nat.le_refl _, Nat.le_refl _⟩ (y_in (d := d - 1) (A := 0) (B := 1) (by decide) (by decide)) ?_
  rintro v4 hh4 ⟨rfl, rfl⟩
  refine s_if_ne (n := 10) (tgt := 13) dX5_image_7 rfl rfl (fun b7 => ?_) (fun b7 => ?_)
  · exact absurd (if1 b7) hb
  · refine s_ldc (n := 12) dX5_image_10 rfl wd_X5_64 ?_
    refine s_ireturn dX5_image_12 rfl (rfl) (Nat.le_refl _) (Nat.le_refl _) ?_
    exact ⟨rfl, rfl⟩
set_option maxRecDepth 100000 in
set_option maxHeartbeats 4000000 in
theorem y_image_st {G : mj_G} {h : mj_H} {d : Nat} {τ : Nat → Nat → Int32} (hY : YS G h τ) {x : Int32} (hx : Wi x 0 1) (hb : τ 12 1 = 0) (hd : 2 ≤ d) : mj_con G MX5_image d 0 0 [.ref (G.1 + 220), .int x] h (rI (-1000002) h) := by
  refine mj_conV okX5_image (ls := [some (.ref (G.1 + 220)), some (.int x), none]) rfl rfl ?_
  obtain ⟨y0, y1, y2, y3, y4, y5, y6, y7, y8, y9, y10, y11, y12⟩ := id hY
  refine s_iload_n (n := 1) (i := 1) dX5_image_0 rfl rfl rfl ?_
  refine s_i2l (n := 2) dX5_image_1 rfl ?_
  refine s_lconst (n := 3) (v := 0) dX5_image_2 rfl (by decide) ?_
  refine s_lconst (n := 4) (v := 1) dX5_image_3 rfl (by decide) ?_
  refine s_s3 (M' := MX5_in) (n := 7) dX5_image_4 rfl wd_X5_54 okX5_in rfl (by omega) ⟨Nat.le_refl _, Nat.le_refl _⟩ (y_in (d := d - 1) (A := 0) (B := 1) (by decide) (by decide)) ?_
  rintro v4 hh4 ⟨rfl, rfl⟩
  refine s_if_ne (n := 10) (tgt := 13) dX5_image_7 rfl rfl (fun b7 => ?_) (fun b7 => ?_)
  · refine s_aload_n (n := 14) (i := 0) dX5_image_13 rfl rfl rfl ?_
    refine gf_X5_132 (n := 17) rfl dX5_image_14 rfl (by assumption) (by rfl) ?_
    refine s_if_ne (n := 20) (tgt := 23) dX5_image_17 rfl rfl (fun b17 => ?_) (fun b17 => ?_)
    · exact absurd hb b17
    · refine s_ldc (n := 22) dX5_image_20 rfl wd_X5_146 ?_
      refine s_ireturn dX5_image_22 rfl (rfl) (Nat.le_refl _) (Nat.le_refl _) ?_
      exact ⟨rfl, rfl⟩
  · exact absurd (hx) (if0 b7)
set_option maxRecDepth 100000 in
set_option maxHeartbeats 4000000 in
theorem l_image {G : mj_G} {h0 : mj_H} {d a : Nat} {τ : Nat → Nat → Int32} (ha : a < 2) : ∀ (r i : Nat), i + r = 48 → ∀ (h : mj_H), YS G h (u2 τ 10 (cpI (τ 10) (τ 0) (48 * a) i)) → mj_fr 220 13 h0 h → mj_wp G MX5_image d 0 0 25 [some (.ref (G.1 + 220)), some (.int (nI a)), some (.int (nI i))] [] h 0 0 (fun vv h' => vv = some (.int (1)) ∧ YS G h' (u2 (u2 τ 10 (cpI (τ 10) (τ 0) (48 * a) 48)) 9 (upd (τ 9) a 1)) ∧ mj_fr 220 13 h0 h') := by
  intro r
  induction r with
  | zero =>
    intro i hi h hY hF
    have hi8 : i = 48 := by omega
    subst hi8
    obtain ⟨y0, y1, y2, y3, y4, y5, y6, y7, y8, y9, y10, y11, y12⟩ := id hY
    replace y0 : h.2 220 = YO G (τ 12) := y0
    replace y10 : h.2 230 = mj_ar 1 2 (τ 9) := y10
    refine s_iload_n (n := 26) (i := 2) dX5_image_25 rfl rfl rfl ?_
    refine s_bipush (n := 28) (v := 48) dX5_image_26 rfl (by decide) ?_
    refine s_icmp_ge (n := 31) (tgt := 54) dX5_image_28 rfl rfl (fun b28 => ?_) (fun b28 => ?_)
    · refine s_aload_n (n := 55) (i := 0) dX5_image_54 rfl rfl rfl ?_
      refine gf_X5_37 (n := 58) rfl dX5_image_55 rfl (by assumption) (by rfl) ?_
      refine s_iload_n (n := 59) (i := 1) dX5_image_58 rfl rfl rfl ?_
      refine s_iconst (n := 60) (v := 1) dX5_image_59 rfl (by decide) ?_
      refine s_zast (n := 61) dX5_image_60 rfl (by assumption) (mj_ixn (by omega)) ?_
      refine YA_9 (τ := u2 τ 10 (cpI (τ 10) (τ 0) (48 * a) 48)) hY (fun h1 hY1 hF1 => ?_)
      refine s_iconst (n := 62) (v := 1) dX5_image_61 rfl (by decide) ?_
      refine s_ireturn dX5_image_62 rfl (rfl) (Nat.le_refl _) (Nat.le_refl _) ?_
      exact ⟨rfl, hY1, fr_tr hF hF1⟩
    · exact absurd (Int32.le_refl _) b28
  | succ r ih =>
    intro i hi h hY hF
    obtain ⟨y0, y1, y2, y3, y4, y5, y6, y7, y8, y9, y10, y11, y12⟩ := id hY
    replace y11 : h.2 231 = mj_ar 0 96 (cpI (τ 10) (τ 0) (48 * a) i) := y11
    replace y0 : h.2 220 = YO G (τ 12) := y0
    replace y4 : h.2 224 = mj_ar 0 48 (τ 0) := y4
    refine s_iload_n (n := 26) (i := 2) dX5_image_25 rfl rfl rfl ?_
    refine s_bipush (n := 28) (v := 48) dX5_image_26 rfl (by decide) ?_
    refine s_icmp_ge (n := 31) (tgt := 54) dX5_image_28 rfl rfl (fun b28 => ?_) (fun b28 => ?_)
    · exact absurd ((nI_leE (a := 48) (by omega) (by omega)).mp b28) (by omega)
    · refine s_aload_n (n := 32) (i := 0) dX5_image_31 rfl rfl rfl ?_
      refine gf_X5_41 (n := 35) rfl dX5_image_32 rfl (by assumption) (by rfl) ?_
      refine s_bipush (n := 37) (v := 48) dX5_image_35 rfl (by decide) ?_
      refine s_iload_n (n := 38) (i := 1) dX5_image_37 rfl rfl rfl ?_
      refine s_imul (n := 39) dX5_image_38 rfl ?_
      refine s_iload_n (n := 40) (i := 2) dX5_image_39 rfl rfl rfl ?_
      refine s_iadd (n := 41) dX5_image_40 rfl ?_
      refine s_aload_n (n := 42) (i := 0) dX5_image_41 rfl rfl rfl ?_
      refine gf_X5_19 (n := 45) rfl dX5_image_42 rfl (by assumption) (by rfl) ?_
      refine s_iload_n (n := 46) (i := 2) dX5_image_45 rfl rfl rfl ?_
      refine s_iald (n := 47) dX5_image_46 rfl (by assumption) (mj_ixn (by omega)) ?_
      refine s_iast (n := 48) dX5_image_47 rfl (by assumption) (mj_ixm (k := 48) rfl (by omega)) ?_
      refine YA_10 hY (fun h1 hY1 hF1 => ?_)
      rw [cpI_s rfl, u2_u2] at hY1
      refine s_iinc (n := 51) (v := _ + 1) (ls' := [_, _, _]) dX5_image_48 rfl rfl rfl rfl rfl ?_
      refine s_goto (tgt := 25) dX5_image_51 rfl ?_
      rw [nI_1]
      exact ih (i + 1) (by omega) _ hY1 (fr_tr hF hF1)
set_option maxRecDepth 100000 in
set_option maxHeartbeats 4000000 in
theorem y_image {G : mj_G} {h : mj_H} {d : Nat} {τ : Nat → Nat → Int32} (hY : YS G h τ) {a : Nat} (ha : a < 2) (hT : ¬ τ 12 1 = 0) (hd : 2 ≤ d) : mj_con G MX5_image d 0 0 [.ref (G.1 + 220), .int (nI a)] h (fun vv h' => vv = some (.int (1)) ∧ YS G h' (u2 (u2 τ 10 (cpI (τ 10) (τ 0) (48 * a) 48)) 9 (upd (τ 9) a 1)) ∧ mj_fr 220 13 h h') := by
  refine mj_conV okX5_image (ls := [some (.ref (G.1 + 220)), some (.int (nI a)), none]) rfl rfl ?_
  obtain ⟨y0, y1, y2, y3, y4, y5, y6, y7, y8, y9, y10, y11, y12⟩ := id hY
  refine s_iload_n (n := 1) (i := 1) dX5_image_0 rfl rfl rfl ?_
  refine s_i2l (n := 2) dX5_image_1 rfl ?_
  refine s_lconst (n := 3) (v := 0) dX5_image_2 rfl (by decide) ?_
  refine s_lconst (n := 4) (v := 1) dX5_image_3 rfl (by decide) ?_
  refine s_s3 (M' := MX5_in) (n := 7) dX5_image_4 rfl wd_X5_54 okX5_in rfl (by omega) ⟨Nat.le_refl _, Nat.le_refl _⟩ (y_in (d := d - 1) (A := 0) (B := 1) (by decide) (by decide)) ?_
  rintro v4 hh4 ⟨rfl, rfl⟩
  refine s_if_ne (n := 10) (tgt := 13) dX5_image_7 rfl rfl (fun b7 => ?_) (fun b7 => ?_)
  · refine s_aload_n (n := 14) (i := 0) dX5_image_13 rfl rfl rfl ?_
    refine gf_X5_132 (n := 17) rfl dX5_image_14 rfl (by assumption) (by rfl) ?_
    refine s_if_ne (n := 20) (tgt := 23) dX5_image_17 rfl rfl (fun b17 => ?_) (fun b17 => ?_)
    · refine s_iconst (n := 24) (v := 0) dX5_image_23 rfl (by decide) ?_
      refine s_istore_n (n := 25) (i := 2) (ls' := [_, _, _]) dX5_image_24 rfl rfl rfl rfl rfl ?_
      exact l_image ha 48 0 (by omega) _ (by rw [cpI_0, u2_self]; exact hY) fr_rf
    · exact absurd b17 hT
  · exact absurd (Wi_n (by omega) (by omega) (by omega)) (if0 b7)
set_option maxRecDepth 100000 in
set_option maxHeartbeats 4000000 in
theorem y_restore_bad {G : mj_G} {h : mj_H} {d : Nat} {τ : Nat → Nat → Int32} (hY : YS G h τ) {x : Int32} (hb : ¬ Wi x 0 1) (hd : 2 ≤ d) : mj_con G MX5_restore d 0 0 [.ref (G.1 + 220), .int x] h (rI (-1000001) h) := by
  refine mj_conV okX5_restore (ls := [some (.ref (G.1 + 220)), some (.int x), none]) rfl rfl ?_
  obtain ⟨y0, y1, y2, y3, y4, y5, y6, y7, y8, y9, y10, y11, y12⟩ := id hY
  refine s_iload_n (n := 1) (i := 1) dX5_restore_0 rfl rfl rfl ?_
  refine s_i2l (n := 2) dX5_restore_1 rfl ?_
  refine s_lconst (n := 3) (v := 0) dX5_restore_2 rfl (by decide) ?_
  refine s_lconst (n := 4) (v := 1) dX5_restore_3 rfl (by decide) ?_
  refine s_s3 (M' := MX5_in) (n := 7) dX5_restore_4 rfl wd_X5_54 okX5_in rfl (by omega) ⟨Nat.le_refl _, Nat.le_refl _⟩ (y_in (d := d - 1) (A := 0) (B := 1) (by decide) (by decide)) ?_
  rintro v4 hh4 ⟨rfl, rfl⟩
  refine s_if_ne (n := 10) (tgt := 13) dX5_restore_7 rfl rfl (fun b7 => ?_) (fun b7 => ?_)
  · exact absurd (if1 b7) hb
  · refine s_ldc (n := 12) dX5_restore_10 rfl wd_X5_64 ?_
    refine s_ireturn dX5_restore_12 rfl (rfl) (Nat.le_refl _) (Nat.le_refl _) ?_
    exact ⟨rfl, rfl⟩
set_option maxRecDepth 100000 in
set_option maxHeartbeats 4000000 in
theorem y_restore_st {G : mj_G} {h : mj_H} {d : Nat} {τ : Nat → Nat → Int32} (hY : YS G h τ) {a : Nat} (ha : a < 2) (hb : τ 9 a = 0) (hd : 2 ≤ d) : mj_con G MX5_restore d 0 0 [.ref (G.1 + 220), .int (nI a)] h (rI (-1000002) h) := by
  refine mj_conV okX5_restore (ls := [some (.ref (G.1 + 220)), some (.int (nI a)), none]) rfl rfl ?_
  obtain ⟨y0, y1, y2, y3, y4, y5, y6, y7, y8, y9, y10, y11, y12⟩ := id hY
  refine s_iload_n (n := 1) (i := 1) dX5_restore_0 rfl rfl rfl ?_
  refine s_i2l (n := 2) dX5_restore_1 rfl ?_
  refine s_lconst (n := 3) (v := 0) dX5_restore_2 rfl (by decide) ?_
  refine s_lconst (n := 4) (v := 1) dX5_restore_3 rfl (by decide) ?_
  refine s_s3 (M' := MX5_in) (n := 7) dX5_restore_4 rfl wd_X5_54 okX5_in rfl (by omega) ⟨Nat.le_refl _, Nat.le_refl _⟩ (y_in (d := d - 1) (A := 0) (B := 1) (by decide) (by decide)) ?_
  rintro v4 hh4 ⟨rfl, rfl⟩
  refine s_if_ne (n := 10) (tgt := 13) dX5_restore_7 rfl rfl (fun b7 => ?_) (fun b7 => ?_)
  · refine s_aload_n (n := 14) (i := 0) dX5_restore_13 rfl rfl rfl ?_
    refine gf_X5_37 (n := 17) rfl dX5_restore_14 rfl (by assumption) (by rfl) ?_
    refine s_iload_n (n := 18) (i := 1) dX5_restore_17 rfl rfl rfl ?_
    refine s_zald (n := 19) dX5_restore_18 rfl (by assumption) (mj_ixn (by omega)) ?_
    refine s_if_ne (n := 22) (tgt := 25) dX5_restore_19 rfl rfl (fun b19 => ?_) (fun b19 => ?_)
    · exact absurd hb b19
    · refine s_ldc (n := 24) dX5_restore_22 rfl wd_X5_146 ?_
      refine s_ireturn dX5_restore_24 rfl (rfl) (Nat.le_refl _) (Nat.le_refl _) ?_
      exact ⟨rfl, rfl⟩
  · exact absurd (Wi_n (by omega) (by omega) (by omega)) (if0 b7)
set_option maxRecDepth 100000 in
set_option maxHeartbeats 4000000 in
theorem l_restore {G : mj_G} {h0 : mj_H} {d a : Nat} {τ : Nat → Nat → Int32} (ha : a < 2) : ∀ (r i : Nat), i + r = 48 → ∀ (h : mj_H), YS G h (u2 τ 0 (mvF (τ 10) (τ 0) (48 * a) i)) → mj_fr 220 13 h0 h → mj_wp G MX5_restore d 0 0 27 [some (.ref (G.1 + 220)), some (.int (nI a)), some (.int (nI i))] [] h 0 0 (fun vv h' => vv = some (.int (1)) ∧ YS G h' (u2 (u2 τ 0 (mvF (τ 10) (τ 0) (48 * a) 48)) 12 (upd (τ 12) 9 0)) ∧ mj_fr 220 13 h0 h') := by
  intro r
  induction r with
  | zero =>
    intro i hi h hY hF
    have hi8 : i = 48 := by omega
    subst hi8
    obtain ⟨y0, y1, y2, y3, y4, y5, y6, y7, y8, y9, y10, y11, y12⟩ := id hY
    replace y0 : h.2 220 = YO G (τ 12) := y0
    refine s_iload_n (n := 28) (i := 2) dX5_restore_27 rfl rfl rfl ?_
    refine s_bipush (n := 30) (v := 48) dX5_restore_28 rfl (by decide) ?_
    refine s_icmp_ge (n := 33) (tgt := 56) dX5_restore_30 rfl rfl (fun b30 => ?_) (fun b30 => ?_)
    · refine s_aload_n (n := 57) (i := 0) dX5_restore_56 rfl rfl rfl ?_
      refine s_iconst (n := 58) (v := 0) dX5_restore_57 rfl (by decide) ?_
      refine pf_X5_136 (n := 61) (fs' := [_, _, _, _, _, _, _, _, _, _, _, _, _, _, _, _, _, _, _, _, _, _, _]) rfl dX5_restore_58 rfl (by assumption) (by rfl) (by rfl) ?_
      refine YF_9 (τ := u2 τ 0 (mvF (τ 10) (τ 0) (48 * a) 48)) hY (fun h1 hY1 hF1 => ?_)
      refine s_iconst (n := 62) (v := 1) dX5_restore_61 rfl (by decide) ?_
      refine s_ireturn dX5_restore_62 rfl (rfl) (Nat.le_refl _) (Nat.le_refl _) ?_
      exact ⟨rfl, hY1, fr_tr hF hF1⟩
    · exact absurd (Int32.le_refl _) b30
  | succ r ih =>
    intro i hi h hY hF
    obtain ⟨y0, y1, y2, y3, y4, y5, y6, y7, y8, y9, y10, y11, y12⟩ := id hY
    replace y11 : h.2 231 = mj_ar 0 96 (τ 10) := y11
    replace y0 : h.2 220 = YO G (τ 12) := y0
    replace y4 : h.2 224 = mj_ar 0 48 (mvF (τ 10) (τ 0) (48 * a) i) := y4
    refine s_iload_n (n := 28) (i := 2) dX5_restore_27 rfl rfl rfl ?_
    refine s_bipush (n := 30) (v := 48) dX5_restore_28 rfl (by decide) ?_
    refine s_icmp_ge (n := 33) (tgt := 56) dX5_restore_30 rfl rfl (fun b30 => ?_) (fun b30 => ?_)
    · exact absurd ((nI_leE (a := 48) (by omega) (by omega)).mp b30) (by omega)
    · refine s_aload_n (n := 34) (i := 0) dX5_restore_33 rfl rfl rfl ?_
      refine gf_X5_19 (n := 37) rfl dX5_restore_34 rfl (by assumption) (by rfl) ?_
      refine s_iload_n (n := 38) (i := 2) dX5_restore_37 rfl rfl rfl ?_
      refine s_aload_n (n := 39) (i := 0) dX5_restore_38 rfl rfl rfl ?_
      refine gf_X5_41 (n := 42) rfl dX5_restore_39 rfl (by assumption) (by rfl) ?_
      refine s_bipush (n := 44) (v := 48) dX5_restore_42 rfl (by decide) ?_
      refine s_iload_n (n := 45) (i := 1) dX5_restore_44 rfl rfl rfl ?_
      refine s_imul (n := 46) dX5_restore_45 rfl ?_
      refine s_iload_n (n := 47) (i := 2) dX5_restore_46 rfl rfl rfl ?_
      refine s_iadd (n := 48) dX5_restore_47 rfl ?_
      refine s_iald (n := 49) dX5_restore_48 rfl (by assumption) (mj_ixm (k := 48) rfl (by omega)) ?_
      refine s_iast (n := 50) dX5_restore_49 rfl (by assumption) (mj_ixn (by omega)) ?_
      refine YA_0 hY (fun h1 hY1 hF1 => ?_)
      rw [mvF_s rfl, u2_u2] at hY1
      refine s_iinc (n := 53) (v := _ + 1) (ls' := [_, _, _]) dX5_restore_50 rfl rfl rfl rfl rfl ?_
      refine s_goto (tgt := 27) dX5_restore_53 rfl ?_
      rw [nI_1]
      exact ih (i + 1) (by omega) _ hY1 (fr_tr hF hF1)
set_option maxRecDepth 100000 in
set_option maxHeartbeats 4000000 in
theorem y_restore {G : mj_G} {h : mj_H} {d : Nat} {τ : Nat → Nat → Int32} (hY : YS G h τ) {a : Nat} (ha : a < 2) (hT : ¬ τ 9 a = 0) (hd : 2 ≤ d) : mj_con G MX5_restore d 0 0 [.ref (G.1 + 220), .int (nI a)] h (fun vv h' => vv = some (.int (1)) ∧ YS G h' (u2 (u2 τ 0 (mvF (τ 10) (τ 0) (48 * a) 48)) 12 (upd (τ 12) 9 0)) ∧ mj_fr 220 13 h h') := by
  refine mj_conV okX5_restore (ls := [some (.ref (G.1 + 220)), some (.int (nI a)), none]) rfl rfl ?_
  obtain ⟨y0, y1, y2, y3, y4, y5, y6, y7, y8, y9, y10, y11, y12⟩ := id hY
  refine s_iload_n (n := 1) (i := 1) dX5_restore_0 rfl rfl rfl ?_
  refine s_i2l (n := 2) dX5_restore_1 rfl ?_
  refine s_lconst (n := 3) (v := 0) dX5_restore_2 rfl (by decide) ?_
  refine s_lconst (n := 4) (v := 1) dX5_restore_3 rfl (by decide) ?_
  refine s_s3 (M' := MX5_in) (n := 7) dX5_restore_4 rfl wd_X5_54 okX5_in rfl (by omega) ⟨Nat.le_refl _, Nat.le_refl _⟩ (y_in (d := d - 1) (A := 0) (B := 1) (by decide) (by decide)) ?_
  rintro v4 hh4 ⟨rfl, rfl⟩
  refine s_if_ne (n := 10) (tgt := 13) dX5_restore_7 rfl rfl (fun b7 => ?_) (fun b7 => ?_)
  · refine s_aload_n (n := 14) (i := 0) dX5_restore_13 rfl rfl rfl ?_
    refine gf_X5_37 (n := 17) rfl dX5_restore_14 rfl (by assumption) (by rfl) ?_
    refine s_iload_n (n := 18) (i := 1) dX5_restore_17 rfl rfl rfl ?_
    refine s_zald (n := 19) dX5_restore_18 rfl (by assumption) (mj_ixn (by omega)) ?_
    refine s_if_ne (n := 22) (tgt := 25) dX5_restore_19 rfl rfl (fun b19 => ?_) (fun b19 => ?_)
    · refine s_iconst (n := 26) (v := 0) dX5_restore_25 rfl (by decide) ?_
      refine s_istore_n (n := 27) (i := 2) (ls' := [_, _, _]) dX5_restore_26 rfl rfl rfl rfl rfl ?_
      exact l_restore ha 48 0 (by omega) _ (by rw [show mvF (τ 10) (τ 0) (48 * a) 0 = τ 0 from cpI_0, u2_self]; exact hY) fr_rf
    · exact absurd b19 hT
  · exact absurd (Wi_n (by omega) (by omega) (by omega)) (if0 b7)
