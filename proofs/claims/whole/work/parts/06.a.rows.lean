/-! rows, the library's two loops, the ring of acts -/
def mj_Rw (G : mj_G) (h : mj_H) (p : Nat) (l s : Int32) (f : Nat → Int32) : Prop := h.2 p = mj_ob 1 [.ref (G.1 + (p + 1)), .int l, .int s] ∧ h.2 (p + 1) = mj_ar 0 40 f
theorem Rw_fr {G : mj_G} {p w q : Nat} {h h' : mj_H} {l s : Int32} {f : Nat → Int32} (a : mj_fr p w h h') (hq : q + 2 ≤ p ∨ p + w ≤ q) (hS : mj_Rw G h q l s f) : mj_Rw G h' q l s f := ⟨fr_get a (by omega) hS.1, fr_get a (by omega) hS.2⟩
set_option maxRecDepth 100000 in
set_option maxHeartbeats 4000000 in
theorem c_isMissing {G : mj_G} {h : mj_H} {d : Nat} {p : Nat} {l s : Int32} {f : Nat → Int32} (hS : mj_Rw G h p l s f) : mj_con G MX1_isMissing d 0 0 [.ref (G.1 + p)] h (rI (if l = -1 then 1 else 0) h) := by
  refine mj_conV okX1_isMissing (ls := [some (.ref (G.1 + p))]) rfl rfl ?_
  obtain ⟨c0, c1⟩ := id hS
  refine s_aload_n (n := 1) (i := 0) dX1_isMissing_0 rfl rfl rfl ?_
  refine gf_X1_15 (n := 4) rfl dX1_isMissing_1 rfl (by assumption) (by rfl) ?_
  refine s_iconst (n := 5) (v := (-1)) dX1_isMissing_4 rfl (by decide) ?_
  refine s_icmp_ne (n := 8) (tgt := 12) dX1_isMissing_5 rfl rfl (fun b5 => ?_) (fun b5 => ?_)
  · refine s_iconst (n := 13) (v := 0) dX1_isMissing_12 rfl (by decide) ?_
    refine s_ireturn dX1_isMissing_13 rfl (rfl) (Nat.le_refl _) (Nat.le_refl _) ?_
    refine rI_ok ?_
    first | rw [if_pos (by assumption)] | rw [if_neg (by assumption)]
  · refine s_iconst (n := 9) (v := 1) dX1_isMissing_8 rfl (by decide) ?_
    refine s_goto (tgt := 13) dX1_isMissing_9 rfl ?_
    refine s_ireturn dX1_isMissing_13 rfl (rfl) (Nat.le_refl _) (Nat.le_refl _) ?_
    refine rI_ok ?_
    first | rw [if_pos (by assumption)] | rw [if_neg (by assumption)]
set_option maxRecDepth 100000 in
set_option maxHeartbeats 4000000 in
theorem c_has {G : mj_G} {h : mj_H} {d : Nat} {p : Nat} {l s : Int32} {f : Nat → Int32} (hS : mj_Rw G h p l s f) {i n : Int32} : mj_con G MX1_has d 0 0 [.ref (G.1 + p), .int i, .int n] h (rI (if 0 ≤ i ∧ 0 ≤ n ∧ i ≤ s - n then 1 else 0) h) := by
  refine mj_conV okX1_has (ls := [some (.ref (G.1 + p)), some (.int i), some (.int n)]) rfl rfl ?_
  obtain ⟨c0, c1⟩ := id hS
  refine s_iload_n (n := 1) (i := 1) dX1_has_0 rfl rfl rfl ?_
  refine s_if_lt (n := 4) (tgt := 22) dX1_has_1 rfl rfl (fun b1 => ?_) (fun b1 => ?_)
  · refine s_iconst (n := 23) (v := 0) dX1_has_22 rfl (by decide) ?_
    refine s_ireturn dX1_has_23 rfl (rfl) (Nat.le_refl _) (Nat.le_refl _) ?_
    refine rI_ok ?_
    split
    · first | rfl | (rename_i q; exfalso; simp only [i_le, i_lt] at *; omega)
    · first | rfl | (rename_i q; exfalso; apply q; simp only [i_le, i_lt] at *; omega)
  · refine s_iload_n (n := 5) (i := 2) dX1_has_4 rfl rfl rfl ?_
    refine s_if_lt (n := 8) (tgt := 22) dX1_has_5 rfl rfl (fun b5 => ?_) (fun b5 => ?_)
    · refine s_iconst (n := 23) (v := 0) dX1_has_22 rfl (by decide) ?_
      refine s_ireturn dX1_has_23 rfl (rfl) (Nat.le_refl _) (Nat.le_refl _) ?_
      refine rI_ok ?_
      split
      · first | rfl | (rename_i q; exfalso; simp only [i_le, i_lt] at *; omega)
      · first | rfl | (rename_i q; exfalso; apply q; simp only [i_le, i_lt] at *; omega)
    · refine s_iload_n (n := 9) (i := 1) dX1_has_8 rfl rfl rfl ?_
      refine s_aload_n (n := 10) (i := 0) dX1_has_9 rfl rfl rfl ?_
      refine gf_X1_19 (n := 13) rfl dX1_has_10 rfl (by assumption) (by rfl) ?_
      refine s_iload_n (n := 14) (i := 2) dX1_has_13 rfl rfl rfl ?_
      refine s_isub (n := 15) dX1_has_14 rfl ?_
      refine s_icmp_gt (n := 18) (tgt := 22) dX1_has_15 rfl rfl (fun b15 => ?_) (fun b15 => ?_)
      · refine s_iconst (n := 23) (v := 0) dX1_has_22 rfl (by decide) ?_
        refine s_ireturn dX1_has_23 rfl (rfl) (Nat.le_refl _) (Nat.le_refl _) ?_
        refine rI_ok ?_
        split
        · first | rfl | (rename_i q; exfalso; simp only [i_le, i_lt] at *; omega)
        · first | rfl | (rename_i q; exfalso; apply q; simp only [i_le, i_lt] at *; omega)
      · refine s_iconst (n := 19) (v := 1) dX1_has_18 rfl (by decide) ?_
        refine s_goto (tgt := 23) dX1_has_19 rfl ?_
        refine s_ireturn dX1_has_23 rfl (rfl) (Nat.le_refl _) (Nat.le_refl _) ?_
        refine rI_ok ?_
        split
        · first | rfl | (rename_i q; exfalso; simp only [i_le, i_lt] at *; omega)
        · first | rfl | (rename_i q; exfalso; apply q; simp only [i_le, i_lt] at *; omega)
def fndR (l s i n : Int32) : Int32 := if l = -1 then 1 else if 0 ≤ i ∧ 0 ≤ n ∧ i ≤ s - n then 0 else 2
set_option maxRecDepth 100000 in
set_option maxHeartbeats 4000000 in
theorem c_findingOf {G : mj_G} {h : mj_H} {d : Nat} {p : Nat} {l s : Int32} {f : Nat → Int32} (hS : mj_Rw G h p l s f) {i n : Int32} (hd : 1 ≤ d) : mj_con G MX1_findingOf d 0 0 [.ref (G.1 + p), .int i, .int n] h (rI (fndR l s i n) h) := by
  refine mj_conV okX1_findingOf (ls := [some (.ref (G.1 + p)), some (.int i), some (.int n)]) rfl rfl ?_
  obtain ⟨c0, c1⟩ := id hS
  refine s_aload_n (n := 1) (i := 0) dX1_findingOf_0 rfl rfl rfl ?_
  refine s_v0 (M' := MX1_isMissing) (n := 4) (ci := 1) dX1_findingOf_1 rfl wd_X1_28 okX1_isMissing rfl rfl (by omega) ⟨Nat.le_refl _, Nat.le_refl _⟩ (by assumption) (c_isMissing (d := d - 1) hS) ?_
  rintro v1 hh1 ⟨rfl, rfl⟩
  refine s_if_eq (n := 7) (tgt := 9) dX1_findingOf_4 rfl rfl (fun b4 => ?_) (fun b4 => ?_)
  · refine s_aload_n (n := 10) (i := 0) dX1_findingOf_9 rfl rfl rfl ?_
    refine s_iload_n (n := 11) (i := 1) dX1_findingOf_10 rfl rfl rfl ?_
    refine s_iload_n (n := 12) (i := 2) dX1_findingOf_11 rfl rfl rfl ?_
    refine s_v2 (M' := MX1_has) (n := 15) (ci := 1) dX1_findingOf_12 rfl wd_X1_32 okX1_has rfl rfl (by omega) ⟨Nat.le_refl _, Nat.le_refl _⟩ (by assumption) (c_has (d := d - 1) hS) ?_
    rintro v12 hh12 ⟨rfl, rfl⟩
    refine s_if_eq (n := 18) (tgt := 22) dX1_findingOf_15 rfl rfl (fun b15 => ?_) (fun b15 => ?_)
    · refine s_iconst (n := 23) (v := 2) dX1_findingOf_22 rfl (by decide) ?_
      refine s_ireturn dX1_findingOf_23 rfl (rfl) (Nat.le_refl _) (Nat.le_refl _) ?_
      refine rI_ok ?_
      unfold fndR
      split at * <;> simp_all
    · refine s_iconst (n := 19) (v := 0) dX1_findingOf_18 rfl (by decide) ?_
      refine s_goto (tgt := 23) dX1_findingOf_19 rfl ?_
      refine s_ireturn dX1_findingOf_23 rfl (rfl) (Nat.le_refl _) (Nat.le_refl _) ?_
      refine rI_ok ?_
      unfold fndR
      split at * <;> simp_all
  · refine s_iconst (n := 8) (v := 1) dX1_findingOf_7 rfl (by decide) ?_
    refine s_ireturn dX1_findingOf_8 rfl (rfl) (Nat.le_refl _) (Nat.le_refl _) ?_
    refine rI_ok ?_
    unfold fndR
    split at * <;> simp_all
def lnV (l v : Int32) : Int32 := if l = 0 then v.toInt8.toInt32 else if l = 1 then v.toInt16.toInt32 else v
theorem Rw_put {G : mj_G} {h : mj_H} {p : Nat} {l s : Int32} {f f' : Nat → Int32} (hS : mj_Rw G h p l s f) : mj_Rw G (mj_up h (p + 1) (mj_ar 0 40 f')) p l s f' ∧ mj_fr p 2 h (mj_up h (p + 1) (mj_ar 0 40 f')) := ⟨⟨mj_un (by omega) hS.1, mj_ue⟩, fr_up (by omega) (by omega)⟩
theorem Rw_put0 {G : mj_G} {h : mj_H} {p : Nat} {l s l' s' : Int32} {f : Nat → Int32} (hS : mj_Rw G h p l s f) : mj_Rw G (mj_up h p (mj_ob 1 [.ref (G.1 + (p + 1)), .int l', .int s'])) p l' s' f ∧ mj_fr p 2 h (mj_up h p (mj_ob 1 [.ref (G.1 + (p + 1)), .int l', .int s'])) := ⟨⟨mj_ue, mj_un (by omega) hS.2⟩, fr_up (by omega) (by omega)⟩
set_option maxRecDepth 100000 in
set_option maxHeartbeats 4000000 in
theorem c_put {G : mj_G} {h : mj_H} {d : Nat} {p : Nat} {l s : Int32} {f : Nat → Int32} (hS : mj_Rw G h p l s f) {j : Nat} {v : Int32} (hj : j < 40) : mj_con G MX1_put d 0 0 [.ref (G.1 + p), .int (nI j), .int v] h (fun r h' => r = some (.int (lnV l v)) ∧ mj_Rw G h' p l s (upd f j (lnV l v)) ∧ mj_fr p 2 h h') := by
  refine mj_conV okX1_put (ls := [some (.ref (G.1 + p)), some (.int (nI j)), some (.int v)]) rfl rfl ?_
  obtain ⟨c0, c1⟩ := id hS
  refine s_aload_n (n := 1) (i := 0) dX1_put_0 rfl rfl rfl ?_
  refine gf_X1_15 (n := 4) rfl dX1_put_1 rfl (by assumption) (by rfl) ?_
  refine t_X1_put_4 dX1_put_4 (fun e0 => ?_) (fun e1 => ?_) (fun e0 e1 => ?_)
  · subst e0
    refine s_aload_n (n := 33) (i := 0) dX1_put_32 rfl rfl rfl ?_
    refine gf_X1_9 (n := 36) rfl dX1_put_33 rfl (by assumption) (by rfl) ?_
    refine s_iload_n (n := 37) (i := 1) dX1_put_36 rfl rfl rfl ?_
    refine s_iload_n (n := 38) (i := 2) dX1_put_37 rfl rfl rfl ?_
    refine s_i2b (n := 39) dX1_put_38 rfl ?_
    refine s_iast (n := 40) dX1_put_39 rfl (by assumption) (mj_ixn (by omega)) ?_
    obtain ⟨hS1, hF⟩ := Rw_put (f' := upd f j v.toInt8.toInt32) hS
    generalize mj_up h (p + 1) (mj_ar 0 40 (upd f j v.toInt8.toInt32)) = h1 at hS1 hF ⊢
    obtain ⟨c0, c1⟩ := id hS1
    refine s_goto (tgt := 61) dX1_put_40 rfl ?_
    refine s_aload_n (n := 62) (i := 0) dX1_put_61 rfl rfl rfl ?_
    refine gf_X1_9 (n := 65) rfl dX1_put_62 rfl (by assumption) (by rfl) ?_
    refine s_iload_n (n := 66) (i := 1) dX1_put_65 rfl rfl rfl ?_
    refine s_iald (n := 67) dX1_put_66 rfl (by assumption) (mj_ixn (by omega)) ?_
    refine s_ireturn dX1_put_67 rfl (rfl) (Nat.le_refl _) (Nat.le_refl _) ?_
    have e : lnV 0 v = v.toInt8.toInt32 := rfl
    rw [e]
    rw [up_eq]
    exact ⟨rfl, hS1, hF⟩
  · subst e1
    refine s_aload_n (n := 44) (i := 0) dX1_put_43 rfl rfl rfl ?_
    refine gf_X1_9 (n := 47) rfl dX1_put_44 rfl (by assumption) (by rfl) ?_
    refine s_iload_n (n := 48) (i := 1) dX1_put_47 rfl rfl rfl ?_
    refine s_iload_n (n := 49) (i := 2) dX1_put_48 rfl rfl rfl ?_
    refine s_i2s (n := 50) dX1_put_49 rfl ?_
    refine s_iast (n := 51) dX1_put_50 rfl (by assumption) (mj_ixn (by omega)) ?_
    obtain ⟨hS1, hF⟩ := Rw_put (f' := upd f j v.toInt16.toInt32) hS
    generalize mj_up h (p + 1) (mj_ar 0 40 (upd f j v.toInt16.toInt32)) = h1 at hS1 hF ⊢
    obtain ⟨c0, c1⟩ := id hS1
    refine s_goto (tgt := 61) dX1_put_51 rfl ?_
    refine s_aload_n (n := 62) (i := 0) dX1_put_61 rfl rfl rfl ?_
    refine gf_X1_9 (n := 65) rfl dX1_put_62 rfl (by assumption) (by rfl) ?_
    refine s_iload_n (n := 66) (i := 1) dX1_put_65 rfl rfl rfl ?_
    refine s_iald (n := 67) dX1_put_66 rfl (by assumption) (mj_ixn (by omega)) ?_
    refine s_ireturn dX1_put_67 rfl (rfl) (Nat.le_refl _) (Nat.le_refl _) ?_
    have e : lnV 1 v = v.toInt16.toInt32 := rfl
    rw [e]
    rw [up_eq]
    exact ⟨rfl, hS1, hF⟩
  · refine s_aload_n (n := 55) (i := 0) dX1_put_54 rfl rfl rfl ?_
    refine gf_X1_9 (n := 58) rfl dX1_put_55 rfl (by assumption) (by rfl) ?_
    refine s_iload_n (n := 59) (i := 1) dX1_put_58 rfl rfl rfl ?_
    refine s_iload_n (n := 60) (i := 2) dX1_put_59 rfl rfl rfl ?_
    refine s_iast (n := 61) dX1_put_60 rfl (by assumption) (mj_ixn (by omega)) ?_
    obtain ⟨hS1, hF⟩ := Rw_put (f' := upd f j v) hS
    generalize mj_up h (p + 1) (mj_ar 0 40 (upd f j v)) = h1 at hS1 hF ⊢
    obtain ⟨c0, c1⟩ := id hS1
    refine s_aload_n (n := 62) (i := 0) dX1_put_61 rfl rfl rfl ?_
    refine gf_X1_9 (n := 65) rfl dX1_put_62 rfl (by assumption) (by rfl) ?_
    refine s_iload_n (n := 66) (i := 1) dX1_put_65 rfl rfl rfl ?_
    refine s_iald (n := 67) dX1_put_66 rfl (by assumption) (mj_ixn (by omega)) ?_
    refine s_ireturn dX1_put_67 rfl (rfl) (Nat.le_refl _) (Nat.le_refl _) ?_
    have e : lnV l v = v := by unfold lnV; rw [if_neg e0, if_neg e1]
    rw [e]
    rw [up_eq]
    exact ⟨rfl, hS1, hF⟩
def fillF (f : Nat → Int32) (i : Nat) (x : Int32) : Nat → Int32 := fun k => if k < i then x else f k
theorem fillF_0 {f : Nat → Int32} {x : Int32} : fillF f 0 x = f := by
  funext k
  unfold fillF
  rw [if_neg (by omega)]
theorem fillF_s {f : Nat → Int32} {i : Nat} {x : Int32} : upd (fillF f i x) i x = fillF f (i + 1) x := by
  funext k
  unfold fillF
  rw [up_if]
  by_cases h1 : k = i
  · rw [if_pos h1, if_pos (by omega)]
  · rw [if_neg h1]
    by_cases h2 : k < i
    · rw [if_pos h2, if_pos (by omega)]
    · rw [if_neg h2, if_neg (by omega)]
set_option maxRecDepth 100000 in
set_option maxHeartbeats 4000000 in
theorem l_fill {G : mj_G} {h0 : mj_H} {d a N : Nat} {x : Int32} {f : Nat → Int32} (hN : N < 100000) : ∀ (m i : Nat), i + m = N → ∀ (h : mj_H), h.2 a = mj_ar 0 N (fillF f i x) → mj_fr a 1 h0 h → mj_wp G MJ7_fill_53178 d 0 0 5 [some (.ref (G.1 + a)), some (.int x), some (.int (nI i)), some (.int (nI N))] [] h 0 0 (fun v h' => v = none ∧ h'.2 a = mj_ar 0 N (fillF f N x) ∧ mj_fr a 1 h0 h') := by
  intro m
  induction m with
  | zero =>
    intro i hi h c0 hF
    have hin : i = N := by omega
    subst hin
    refine s_iload_n (n := 6) (i := 2) dJ7_fill_53178_5 rfl rfl rfl ?_
    refine s_iload_n (n := 7) (i := 3) dJ7_fill_53178_6 rfl rfl rfl ?_
    refine s_icmp_ge (n := 10) (tgt := 20) dJ7_fill_53178_7 rfl rfl (fun b7 => ?_) (fun b7 => ?_)
    · refine s_return dJ7_fill_53178_20 rfl (Nat.le_refl _) (Nat.le_refl _) ?_
      exact ⟨rfl, c0, hF⟩
    · exact absurd (Int32.le_refl _) b7
  | succ m ih =>
    intro i hi h c0 hF
    refine s_iload_n (n := 6) (i := 2) dJ7_fill_53178_5 rfl rfl rfl ?_
    refine s_iload_n (n := 7) (i := 3) dJ7_fill_53178_6 rfl rfl rfl ?_
    refine s_icmp_ge (n := 10) (tgt := 20) dJ7_fill_53178_7 rfl rfl (fun b7 => ?_) (fun b7 => ?_)
    · exact absurd ((nI_leE (by omega) (by omega)).mp b7) (by omega)
    · refine s_aload_n (n := 11) (i := 0) dJ7_fill_53178_10 rfl rfl rfl ?_
      refine s_iload_n (n := 12) (i := 2) dJ7_fill_53178_11 rfl rfl rfl ?_
      refine s_iload_n (n := 13) (i := 1) dJ7_fill_53178_12 rfl rfl rfl ?_
      refine s_iast (n := 14) dJ7_fill_53178_13 rfl (by assumption) (mj_ixn (by omega)) ?_
      refine s_iinc (n := 17) (v := _ + 1) (ls' := [_, _, _, _]) dJ7_fill_53178_14 rfl rfl rfl rfl rfl ?_
      refine s_goto (tgt := 5) dJ7_fill_53178_17 rfl ?_
      rw [nI_1]
      refine ih (i + 1) (by omega) _ ?_ (fr_tr hF (fr_up (by omega) (by omega)))
      rw [mj_ue, fillF_s]
set_option maxRecDepth 100000 in
set_option maxHeartbeats 4000000 in
theorem c_fill {G : mj_G} {h : mj_H} {d : Nat} {a N : Nat} {x : Int32} {f : Nat → Int32} (hN : N < 100000) (c0 : h.2 a = mj_ar 0 N f) : mj_con G MJ7_fill_53178 d 0 0 [.ref (G.1 + a), .int x] h (fun v h' => v = none ∧ h'.2 a = mj_ar 0 N (fillF f N x) ∧ mj_fr a 1 h h') := by
  refine mj_conS okJ7_fill_53178 (ls := [some (.ref (G.1 + a)), some (.int x), none, none]) rfl rfl ?_
  refine s_iconst (n := 1) (v := 0) dJ7_fill_53178_0 rfl (by decide) ?_
  refine s_istore_n (n := 2) (i := 2) (ls' := [_, _, _, _]) dJ7_fill_53178_1 rfl rfl rfl rfl rfl ?_
  refine s_aload_n (n := 3) (i := 0) dJ7_fill_53178_2 rfl rfl rfl ?_
  refine s_alen (n := 4) dJ7_fill_53178_3 rfl rfl (by assumption) rfl ?_
  refine s_istore_n (n := 5) (i := 3) (ls' := [_, _, _, _]) dJ7_fill_53178_4 rfl rfl rfl rfl rfl ?_
  exact l_fill hN N 0 (by omega) h (by rw [fillF_0]; exact c0) fr_rf
def bc (x : Int32) : Int32 :=
  let u (a b : Int32) : Int32 := (a.toUInt32 >>> (b.toUInt32 &&& Int32.toUInt32 31)).toInt32
  let a := x - (u x 1 &&& 1431655765)
  let b := (a &&& 858993459) + (u a 2 &&& 858993459)
  let c := (b + u b 4) &&& 252645135
  let e := c + u c 8
  let g := e + u e 16
  g &&& 63
set_option maxRecDepth 100000 in
set_option maxHeartbeats 4000000 in
theorem c_bitCount {G : mj_G} {h : mj_H} {d : Nat} {x : Int32} : mj_con G MJ6_bitCount_0f7a4 d 0 0 [.int x] h (rI (bc x) h) := by
  refine mj_conS okJ6_bitCount_0f7a4 (ls := [some (.int x)]) rfl rfl ?_
  refine s_iload_n (n := 1) (i := 0) dJ6_bitCount_0f7a4_0 rfl rfl rfl ?_
  refine s_iload_n (n := 2) (i := 0) dJ6_bitCount_0f7a4_1 rfl rfl rfl ?_
  refine s_iconst (n := 3) (v := 1) dJ6_bitCount_0f7a4_2 rfl (by decide) ?_
  refine s_iushr (n := 4) dJ6_bitCount_0f7a4_3 rfl rfl ?_
  refine s_ldcw (n := 7) dJ6_bitCount_0f7a4_4 rfl wd_J6_265 ?_
  refine s_iand (n := 8) dJ6_bitCount_0f7a4_7 rfl ?_
  refine s_isub (n := 9) dJ6_bitCount_0f7a4_8 rfl ?_
  refine s_istore_n (n := 10) (i := 0) (ls' := [_]) dJ6_bitCount_0f7a4_9 rfl rfl rfl rfl rfl ?_
  refine s_iload_n (n := 11) (i := 0) dJ6_bitCount_0f7a4_10 rfl rfl rfl ?_
  refine s_ldcw (n := 14) dJ6_bitCount_0f7a4_11 rfl wd_J6_266 ?_
  refine s_iand (n := 15) dJ6_bitCount_0f7a4_14 rfl ?_
  refine s_iload_n (n := 16) (i := 0) dJ6_bitCount_0f7a4_15 rfl rfl rfl ?_
  refine s_iconst (n := 17) (v := 2) dJ6_bitCount_0f7a4_16 rfl (by decide) ?_
  refine s_iushr (n := 18) dJ6_bitCount_0f7a4_17 rfl rfl ?_
  refine s_ldcw (n := 21) dJ6_bitCount_0f7a4_18 rfl wd_J6_266 ?_
  refine s_iand (n := 22) dJ6_bitCount_0f7a4_21 rfl ?_
  refine s_iadd (n := 23) dJ6_bitCount_0f7a4_22 rfl ?_
  refine s_istore_n (n := 24) (i := 0) (ls' := [_]) dJ6_bitCount_0f7a4_23 rfl rfl rfl rfl rfl ?_
  refine s_iload_n (n := 25) (i := 0) dJ6_bitCount_0f7a4_24 rfl rfl rfl ?_
  refine s_iload_n (n := 26) (i := 0) dJ6_bitCount_0f7a4_25 rfl rfl rfl ?_
  refine s_iconst (n := 27) (v := 4) dJ6_bitCount_0f7a4_26 rfl (by decide) ?_
  refine s_iushr (n := 28) dJ6_bitCount_0f7a4_27 rfl rfl ?_
  refine s_iadd (n := 29) dJ6_bitCount_0f7a4_28 rfl ?_
  refine s_ldcw (n := 32) dJ6_bitCount_0f7a4_29 rfl wd_J6_267 ?_
  refine s_iand (n := 33) dJ6_bitCount_0f7a4_32 rfl ?_
  refine s_istore_n (n := 34) (i := 0) (ls' := [_]) dJ6_bitCount_0f7a4_33 rfl rfl rfl rfl rfl ?_
  refine s_iload_n (n := 35) (i := 0) dJ6_bitCount_0f7a4_34 rfl rfl rfl ?_
  refine s_iload_n (n := 36) (i := 0) dJ6_bitCount_0f7a4_35 rfl rfl rfl ?_
  refine s_bipush (n := 38) (v := 8) dJ6_bitCount_0f7a4_36 rfl (by decide) ?_
  refine s_iushr (n := 39) dJ6_bitCount_0f7a4_38 rfl rfl ?_
  refine s_iadd (n := 40) dJ6_bitCount_0f7a4_39 rfl ?_
  refine s_istore_n (n := 41) (i := 0) (ls' := [_]) dJ6_bitCount_0f7a4_40 rfl rfl rfl rfl rfl ?_
  refine s_iload_n (n := 42) (i := 0) dJ6_bitCount_0f7a4_41 rfl rfl rfl ?_
  refine s_iload_n (n := 43) (i := 0) dJ6_bitCount_0f7a4_42 rfl rfl rfl ?_
  refine s_bipush (n := 45) (v := 16) dJ6_bitCount_0f7a4_43 rfl (by decide) ?_
  refine s_iushr (n := 46) dJ6_bitCount_0f7a4_45 rfl rfl ?_
  refine s_iadd (n := 47) dJ6_bitCount_0f7a4_46 rfl ?_
  refine s_istore_n (n := 48) (i := 0) (ls' := [_]) dJ6_bitCount_0f7a4_47 rfl rfl rfl rfl rfl ?_
  refine s_iload_n (n := 49) (i := 0) dJ6_bitCount_0f7a4_48 rfl rfl rfl ?_
  refine s_bipush (n := 51) (v := 63) dJ6_bitCount_0f7a4_49 rfl (by decide) ?_
  refine s_iand (n := 52) dJ6_bitCount_0f7a4_51 rfl ?_
  refine s_ireturn dJ6_bitCount_0f7a4_52 rfl (rfl) (Nat.le_refl _) (Nat.le_refl _) ?_
  exact rI_ok rfl
set_option maxRecDepth 100000 in
set_option maxHeartbeats 4000000 in
theorem c_rowBegin {G : mj_G} {h : mj_H} {d : Nat} {p : Nat} {l s : Int32} {f : Nat → Int32} (hS : mj_Rw G h p l s f) {x y : Int32} (hd : 1 ≤ d) : mj_con G MX1_begin d 0 0 [.ref (G.1 + p), .int x, .int y] h (fun v h' => v = none ∧ mj_Rw G h' p x y (fillF f 40 0) ∧ mj_fr p 2 h h') := by
  refine mj_conV okX1_begin (ls := [some (.ref (G.1 + p)), some (.int x), some (.int y)]) rfl rfl ?_
  obtain ⟨c0, c1⟩ := id hS
  refine s_aload_n (n := 1) (i := 0) dX1_begin_0 rfl rfl rfl ?_
  refine s_iload_n (n := 2) (i := 1) dX1_begin_1 rfl rfl rfl ?_
  refine pf_X1_15 (n := 5) (fs' := [_, _, _]) rfl dX1_begin_2 rfl (by assumption) (by rfl) (by rfl) ?_
  obtain ⟨hS1, hF⟩ := Rw_put0 (l' := x) (s' := s) hS
  generalize mj_up _ _ _ = h1 at hS1 hF ⊢
  obtain ⟨c0, c1⟩ := id hS1
  refine s_aload_n (n := 6) (i := 0) dX1_begin_5 rfl rfl rfl ?_
  refine s_iload_n (n := 7) (i := 2) dX1_begin_6 rfl rfl rfl ?_
  refine pf_X1_19 (n := 10) (fs' := [_, _, _]) rfl dX1_begin_7 rfl (by assumption) (by rfl) (by rfl) ?_
  obtain ⟨hS2, hF2⟩ := Rw_put0 (l' := x) (s' := y) hS1
  generalize mj_up _ _ _ = h2 at hS2 hF2 ⊢
  obtain ⟨c0, c1⟩ := id hS2
  refine s_aload_n (n := 11) (i := 0) dX1_begin_10 rfl rfl rfl ?_
  refine gf_X1_9 (n := 14) rfl dX1_begin_11 rfl (by assumption) (by rfl) ?_
  refine s_iconst (n := 15) (v := 0) dX1_begin_14 rfl (by decide) ?_
  refine s_s2 (M' := MJ7_fill_53178) (n := 18) dX1_begin_15 rfl wd_X1_22 okJ7_fill_53178 rfl (by omega) ⟨Nat.le_refl _, Nat.le_refl _⟩ (c_fill (d := d - 1) (by omega) c1) ?_
  rintro v15 hh15 ⟨rfl, q1, q2⟩
  refine s_return dX1_begin_18 rfl (Nat.le_refl _) (Nat.le_refl _) ?_
  exact ⟨rfl, ⟨fr_get q2 (by omega) c0, q1⟩, fr_tr hF (fr_tr hF2 (fr_wid q2 (by omega) (by omega)))⟩
