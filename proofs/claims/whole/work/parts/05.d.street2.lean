theorem pm_nn {T : Nat → Int32} {n : Nat} : pm T n n = T := by
  funext k
  unfold pm
  rw [if_neg (by omega), if_neg (by omega)]
theorem pondN_0 {T : Nat → Int32} : pondN T 0 = capP (T 5 + 0) := rfl
theorem pondN_s {T : Nat → Int32} {m : Nat} : pondN T (m + 1) = capP (T 5 + fl T m) := by simp [pondN]
set_option maxRecDepth 100000 in
set_option maxHeartbeats 4000000 in
theorem c_passMinute {G : mj_G} {h : mj_H} {d : Nat} {p : Nat} {T : Nat → Int32} (hS0 : mj_St G h p T) {n : Nat} (hok : okK n T) (hd : 3 ≤ d) : mj_con G MX2_passMinute d 0 0 [.ref (G.1 + p)] h (fun v h' => v = none ∧ mj_St G h' p (mn n T) ∧ mj_fr p 7 h h') := by
  refine mj_conV okX2_passMinute (ls := [some (.ref (G.1 + p)), none, none, none, none]) rfl rfl ?_
  obtain ⟨c0, c1, c2, c3, c4, c5, c6⟩ := id hS0
  refine s_aload_n (n := 1) (i := 0) dX2_passMinute_0 rfl rfl rfl ?_
  refine gf_X2_30 (n := 4) rfl dX2_passMinute_1 rfl (by assumption) (by rfl) ?_
  refine s_if_le (n := 7) (tgt := 20) dX2_passMinute_4 rfl rfl (fun b4 => ?_) (fun b4 => ?_)
  · have hn0 : n = 0 := by
      cases n with
      | zero => rfl
      | succ m => rw [hok.1] at b4; exact absurd b4 (nI_nle (by omega) (by have := hok.2.1; omega))
    subst hn0
    refine s_iconst (n := 21) (v := 0) dX2_passMinute_20 rfl (by decide) ?_
    refine s_istore_n (n := 22) (i := 1) (ls' := [_, _, _, _, _]) dX2_passMinute_21 rfl rfl rfl rfl rfl ?_
    refine s_aload_n (n := 23) (i := 0) dX2_passMinute_22 rfl rfl rfl ?_
    refine s_sipush (n := 26) (v := 9999) dX2_passMinute_23 rfl (by decide) ?_
    refine s_aload_n (n := 27) (i := 0) dX2_passMinute_26 rfl rfl rfl ?_
    refine gf_X2_43 (n := 30) rfl dX2_passMinute_27 rfl (by assumption) (by rfl) ?_
    refine s_iload_n (n := 31) (i := 1) dX2_passMinute_30 rfl rfl rfl ?_
    refine s_iadd (n := 32) dX2_passMinute_31 rfl ?_
    refine s_min (n := 35) dX2_passMinute_32 rfl wd_X2_88 (by omega) (by simp [Value.category]) (Nat.le_refl _) (Nat.le_refl _) ?_
    refine pf_X2_43 (n := 38) (fs' := [_, _, _, _, _, _, _, _, _, _, _, _]) rfl dX2_passMinute_35 rfl (by assumption) (by rfl) (by rfl) ?_
    refine St_put_pond hS0 (fun h1 hS1 hF1 => ?_)
    have e : upd (pm T 0 0) 5 (pondN T 0) = upd T 5 (if T 5 + 0 < 9999 then T 5 + 0 else 9999) := by rw [pm_nn, pondN_0]; rfl
    rw [← e] at hS1
    obtain ⟨c0, c1, c2, c3, c4, c5, c6⟩ := id hS1
    refine s_aload_n (n := 39) (i := 0) dX2_passMinute_38 rfl rfl rfl ?_
    refine gf_X2_30 (n := 42) rfl dX2_passMinute_39 rfl (by assumption) (by rfl) ?_
    refine s_iconst (n := 43) (v := 1) dX2_passMinute_42 rfl (by decide) ?_
    refine s_isub (n := 44) dX2_passMinute_43 rfl ?_
    refine s_istore_n (n := 45) (i := 2) (ls' := [_, _, _, _, _]) dX2_passMinute_44 rfl rfl rfl rfl rfl ?_
    exact l_passMinute hok (by omega) _ (Nat.le_refl _) h1 _ _ _ _ hS1 hF1 (by rw [up_ne (by omega), pm_same hok.2.1 (by omega), hok.1])
  · obtain ⟨m, rfl⟩ : ∃ m, n = m + 1 := by
      cases n with
      | zero => rw [hok.1] at b4; exact absurd (by decide) b4
      | succ m => exact ⟨m, rfl⟩
    refine s_aload_n (n := 8) (i := 0) dX2_passMinute_7 rfl rfl rfl ?_
    refine s_aload_n (n := 9) (i := 0) dX2_passMinute_8 rfl rfl rfl ?_
    refine gf_X2_30 (n := 12) rfl dX2_passMinute_9 rfl (by assumption) (by rfl) ?_
    refine s_iconst (n := 13) (v := 1) dX2_passMinute_12 rfl (by decide) ?_
    refine s_isub (n := 14) dX2_passMinute_13 rfl ?_
    rw [hok.1, nI_pred]
    refine s_v1 (M' := MX2_flowOf) (n := 17) (ci := 2) dX2_passMinute_14 rfl wd_X2_84 okX2_flowOf rfl rfl (by omega) ⟨Nat.le_refl _, Nat.le_refl _⟩ (by assumption) (c_flowOf (d := d - 1) hS0 (by have := hok.2.1; omega) (by omega)) ?_
    rintro v14 hh14 ⟨rfl, rfl⟩
    refine s_goto (tgt := 21) dX2_passMinute_17 rfl ?_
    refine s_istore_n (n := 22) (i := 1) (ls' := [_, _, _, _, _]) dX2_passMinute_21 rfl rfl rfl rfl rfl ?_
    refine s_aload_n (n := 23) (i := 0) dX2_passMinute_22 rfl rfl rfl ?_
    refine s_sipush (n := 26) (v := 9999) dX2_passMinute_23 rfl (by decide) ?_
    refine s_aload_n (n := 27) (i := 0) dX2_passMinute_26 rfl rfl rfl ?_
    refine gf_X2_43 (n := 30) rfl dX2_passMinute_27 rfl (by assumption) (by rfl) ?_
    refine s_iload_n (n := 31) (i := 1) dX2_passMinute_30 rfl rfl rfl ?_
    refine s_iadd (n := 32) dX2_passMinute_31 rfl ?_
    refine s_min (n := 35) dX2_passMinute_32 rfl wd_X2_88 (by omega) (by simp [Value.category]) (Nat.le_refl _) (Nat.le_refl _) ?_
    refine pf_X2_43 (n := 38) (fs' := [_, _, _, _, _, _, _, _, _, _, _, _]) rfl dX2_passMinute_35 rfl (by assumption) (by rfl) (by rfl) ?_
    refine St_put_pond hS0 (fun h1 hS1 hF1 => ?_)
    have e : upd (pm T (m + 1) (m + 1)) 5 (pondN T (m + 1)) = upd T 5 (if T 5 + fl T m < 9999 then T 5 + fl T m else 9999) := by rw [pm_nn, pondN_s]; rfl
    rw [← e] at hS1
    obtain ⟨c0, c1, c2, c3, c4, c5, c6⟩ := id hS1
    refine s_aload_n (n := 39) (i := 0) dX2_passMinute_38 rfl rfl rfl ?_
    refine gf_X2_30 (n := 42) rfl dX2_passMinute_39 rfl (by assumption) (by rfl) ?_
    refine s_iconst (n := 43) (v := 1) dX2_passMinute_42 rfl (by decide) ?_
    refine s_isub (n := 44) dX2_passMinute_43 rfl ?_
    refine s_istore_n (n := 45) (i := 2) (ls' := [_, _, _, _, _]) dX2_passMinute_44 rfl rfl rfl rfl rfl ?_
    exact l_passMinute hok (by omega) _ (Nat.le_refl _) h1 _ _ _ _ hS1 hF1 (by rw [up_ne (by omega), pm_same hok.2.1 (by omega), hok.1])
def mns (n : Nat) : Nat → (Nat → Int32) → Nat → Int32
  | 0, T => T
  | k + 1, T => mn n (mns n k T)
theorem mn_same {n k : Nat} {T : Nat → Int32} (hn : n ≤ 7) (hk : k < 34 ∨ 48 ≤ k) (h3 : k ≠ 3) (h5 : k ≠ 5) : mn n T k = T k := by
  unfold mn
  rw [up_ne h3, up_ne h5, pm_same hn (by omega)]
theorem okK_mn {n : Nat} {T : Nat → Int32} (h : okK n T) : okK n (mn n T) := by
  obtain ⟨h1, h2, h3⟩ := h
  refine ⟨by rw [mn_same h2 (by omega) (by omega) (by omega)]; exact h1, h2, fun j hj => ?_⟩
  rw [mn_same h2 (k := 20 + j) (by omega) (by omega) (by omega), mn_same h2 (k := 6 + j) (by omega) (by omega) (by omega)]
  exact h3 j hj
theorem okK_mns {n : Nat} {T : Nat → Int32} (h : okK n T) : ∀ k, okK n (mns n k T)
  | 0 => h
  | k + 1 => okK_mn (okK_mns h k)
theorem nI_ltE {a b : Nat} (ha : a < 2147483648) (hb : b < 2147483648) : nI a < nI b ↔ a < b := nI_ltI ha hb
theorem nI_leE {a b : Nat} (ha : a < 2147483648) (hb : b < 2147483648) : nI a ≤ nI b ↔ a ≤ b := nI_leI ha hb
set_option maxRecDepth 100000 in
set_option maxHeartbeats 4000000 in
theorem l_passMinutes {G : mj_G} {h0 : mj_H} {d p n k : Nat} {T : Nat → Int32} (hok : okK n T) (hk : k < 2147483648) (hd : 4 ≤ d) : ∀ (m i : Nat), i + m = k → ∀ (h : mj_H), mj_St G h p (mns n i T) → mj_fr p 7 h0 h → mj_wp G MX2_passMinutes d 0 0 2 [some (.ref (G.1 + p)), some (.int (nI k)), some (.int (nI i))] [] h 0 0 (fun v h' => v = none ∧ mj_St G h' p (mns n k T) ∧ mj_fr p 7 h0 h') := by
  intro m
  induction m with
  | zero =>
    intro i hi h hS0 hF
    have hik : i = k := by omega
    subst hik
    obtain ⟨c0, c1, c2, c3, c4, c5, c6⟩ := id hS0
    refine s_iload_n (n := 3) (i := 2) dX2_passMinutes_2 rfl rfl rfl ?_
    refine s_iload_n (n := 4) (i := 1) dX2_passMinutes_3 rfl rfl rfl ?_
    refine s_icmp_ge (n := 7) (tgt := 17) dX2_passMinutes_4 rfl rfl (fun b4 => ?_) (fun b4 => ?_)
    · refine s_return dX2_passMinutes_17 rfl (Nat.le_refl _) (Nat.le_refl _) ?_
      exact ⟨rfl, hS0, hF⟩
    · exact absurd (Int32.le_refl _) b4
  | succ m ih =>
    intro i hi h hS0 hF
    obtain ⟨c0, c1, c2, c3, c4, c5, c6⟩ := id hS0
    refine s_iload_n (n := 3) (i := 2) dX2_passMinutes_2 rfl rfl rfl ?_
    refine s_iload_n (n := 4) (i := 1) dX2_passMinutes_3 rfl rfl rfl ?_
    refine s_icmp_ge (n := 7) (tgt := 17) dX2_passMinutes_4 rfl rfl (fun b4 => ?_) (fun b4 => ?_)
    · exact absurd ((nI_leE hk (by omega)).mp b4) (by omega)
    · refine s_aload_n (n := 8) (i := 0) dX2_passMinutes_7 rfl rfl rfl ?_
      refine s_v0 (M' := MX2_passMinute) (n := 11) (ci := 2) dX2_passMinutes_8 rfl wd_X2_81 okX2_passMinute rfl rfl (by omega) ⟨Nat.le_refl _, Nat.le_refl _⟩ (by assumption) (c_passMinute (d := d - 1) hS0 (okK_mns hok i) (by omega)) ?_
      rintro v8 hh8 ⟨rfl, hS1, hF1⟩
      refine s_iinc (n := 14) (v := _ + 1) (ls' := [_, _, _]) dX2_passMinutes_11 rfl rfl rfl rfl rfl ?_
      refine s_goto (tgt := 2) dX2_passMinutes_14 rfl ?_
      rw [nI_1]
      exact ih (i + 1) (by omega) _ hS1 (fr_tr hF hF1)
set_option maxRecDepth 100000 in
set_option maxHeartbeats 4000000 in
theorem c_passMinutes {G : mj_G} {h : mj_H} {d : Nat} {p : Nat} {T : Nat → Int32} (hS0 : mj_St G h p T) {n k : Nat} (hok : okK n T) (hk : k < 2147483648) (hd : 4 ≤ d) : mj_con G MX2_passMinutes d 0 0 [.ref (G.1 + p), .int (nI k)] h (fun v h' => v = none ∧ mj_St G h' p (mns n k T) ∧ mj_fr p 7 h h') := by
  refine mj_conV okX2_passMinutes (ls := [some (.ref (G.1 + p)), some (.int (nI k)), none]) rfl rfl ?_
  obtain ⟨c0, c1, c2, c3, c4, c5, c6⟩ := id hS0
  refine s_iconst (n := 1) (v := 0) dX2_passMinutes_0 rfl (by decide) ?_
  refine s_istore_n (n := 2) (i := 2) (ls' := [_, _, _]) dX2_passMinutes_1 rfl rfl rfl rfl rfl ?_
  exact l_passMinutes hok hk (by omega) k 0 (by omega) _ hS0 fr_rf
theorem cpy7 {U T : Nat → Int32} {o o2 : Nat} : va_cpy (sl U o) (sl T o2) 0 0 7 = sl U o := by
  funext k
  unfold va_cpy sl
  by_cases h : k < 7
  · rw [if_pos (by omega)]; simp [h]
  · rw [if_neg (by omega), if_neg h, if_neg h]
set_option maxRecDepth 100000 in
set_option maxHeartbeats 4000000 in
theorem c_takeFrom {G : mj_G} {h : mj_H} {d : Nat} {p q : Nat} {T U : Nat → Int32} (hS : mj_St G h p T) (hU : mj_St G h q U) (hpq : p + 7 ≤ q ∨ q + 7 ≤ p) (hd : 2 ≤ d) : mj_con G MX2_takeFrom d 0 0 [.ref (G.1 + p), .ref (G.1 + q)] h (fun v h' => v = none ∧ mj_St G h' p (U) ∧ mj_fr p 7 h h') := by
  refine mj_conV okX2_takeFrom (ls := [some (.ref (G.1 + p)), some (.ref (G.1 + q))]) rfl rfl ?_
  obtain ⟨c0, c1, c2, c3, c4, c5, c6⟩ := hS
  obtain ⟨e0, e1, e2, e3, e4, e5, e6⟩ := hU
  refine s_aload_n (n := 1) (i := 0) dX2_takeFrom_0 rfl rfl rfl ?_
  refine s_aload_n (n := 2) (i := 1) dX2_takeFrom_1 rfl rfl rfl ?_
  refine gf_X2_34 (n := 5) rfl dX2_takeFrom_2 rfl (by repeat (first | with_reducible assumption | with_reducible exact mj_ue | refine mj_un (by omega) ?_)) (by rfl) ?_
  refine pf_X2_34 (n := 8) (fs' := [_, _, _, _, _, _, _, _, _, _, _, _]) rfl dX2_takeFrom_5 rfl (by repeat (first | with_reducible assumption | with_reducible exact mj_ue | refine mj_un (by omega) ?_)) (by rfl) (by rfl) ?_
  refine s_aload_n (n := 9) (i := 0) dX2_takeFrom_8 rfl rfl rfl ?_
  refine s_aload_n (n := 10) (i := 1) dX2_takeFrom_9 rfl rfl rfl ?_
  refine gf_X2_37 (n := 13) rfl dX2_takeFrom_10 rfl (by repeat (first | with_reducible assumption | with_reducible exact mj_ue | refine mj_un (by omega) ?_)) (by rfl) ?_
  refine pf_X2_37 (n := 16) (fs' := [_, _, _, _, _, _, _, _, _, _, _, _]) rfl dX2_takeFrom_13 rfl (by repeat (first | with_reducible assumption | with_reducible exact mj_ue | refine mj_un (by omega) ?_)) (by rfl) (by rfl) ?_
  refine s_aload_n (n := 17) (i := 0) dX2_takeFrom_16 rfl rfl rfl ?_
  refine s_aload_n (n := 18) (i := 1) dX2_takeFrom_17 rfl rfl rfl ?_
  refine gf_X2_30 (n := 21) rfl dX2_takeFrom_18 rfl (by repeat (first | with_reducible assumption | with_reducible exact mj_ue | refine mj_un (by omega) ?_)) (by rfl) ?_
  refine pf_X2_30 (n := 24) (fs' := [_, _, _, _, _, _, _, _, _, _, _, _]) rfl dX2_takeFrom_21 rfl (by repeat (first | with_reducible assumption | with_reducible exact mj_ue | refine mj_un (by omega) ?_)) (by rfl) (by rfl) ?_
  refine s_aload_n (n := 25) (i := 0) dX2_takeFrom_24 rfl rfl rfl ?_
  refine s_aload_n (n := 26) (i := 1) dX2_takeFrom_25 rfl rfl rfl ?_
  refine gf_X2_40 (n := 29) rfl dX2_takeFrom_26 rfl (by repeat (first | with_reducible assumption | with_reducible exact mj_ue | refine mj_un (by omega) ?_)) (by rfl) ?_
  refine pf_X2_40 (n := 32) (fs' := [_, _, _, _, _, _, _, _, _, _, _, _]) rfl dX2_takeFrom_29 rfl (by repeat (first | with_reducible assumption | with_reducible exact mj_ue | refine mj_un (by omega) ?_)) (by rfl) (by rfl) ?_
  refine s_aload_n (n := 33) (i := 0) dX2_takeFrom_32 rfl rfl rfl ?_
  refine s_aload_n (n := 34) (i := 1) dX2_takeFrom_33 rfl rfl rfl ?_
  refine gf_X2_43 (n := 37) rfl dX2_takeFrom_34 rfl (by repeat (first | with_reducible assumption | with_reducible exact mj_ue | refine mj_un (by omega) ?_)) (by rfl) ?_
  refine pf_X2_43 (n := 40) (fs' := [_, _, _, _, _, _, _, _, _, _, _, _]) rfl dX2_takeFrom_37 rfl (by repeat (first | with_reducible assumption | with_reducible exact mj_ue | refine mj_un (by omega) ?_)) (by rfl) (by rfl) ?_
  refine s_aload_n (n := 41) (i := 0) dX2_takeFrom_40 rfl rfl rfl ?_
  refine s_aload_n (n := 42) (i := 1) dX2_takeFrom_41 rfl rfl rfl ?_
  refine gf_X2_46 (n := 45) rfl dX2_takeFrom_42 rfl (by repeat (first | with_reducible assumption | with_reducible exact mj_ue | refine mj_un (by omega) ?_)) (by rfl) ?_
  refine pf_X2_46 (n := 48) (fs' := [_, _, _, _, _, _, _, _, _, _, _, _]) rfl dX2_takeFrom_45 rfl (by repeat (first | with_reducible assumption | with_reducible exact mj_ue | refine mj_un (by omega) ?_)) (by rfl) (by rfl) ?_
  refine s_aload_n (n := 49) (i := 1) dX2_takeFrom_48 rfl rfl rfl ?_
  refine gf_X2_9 (n := 52) rfl dX2_takeFrom_49 rfl (by repeat (first | with_reducible assumption | with_reducible exact mj_ue | refine mj_un (by omega) ?_)) (by rfl) ?_
  refine s_iconst (n := 53) (v := 0) dX2_takeFrom_52 rfl (by decide) ?_
  refine s_aload_n (n := 54) (i := 0) dX2_takeFrom_53 rfl rfl rfl ?_
  refine gf_X2_9 (n := 57) rfl dX2_takeFrom_54 rfl (by repeat (first | with_reducible assumption | with_reducible exact mj_ue | refine mj_un (by omega) ?_)) (by rfl) ?_
  refine s_iconst (n := 58) (v := 0) dX2_takeFrom_57 rfl (by decide) ?_
  refine s_bipush (n := 60) (v := 7) dX2_takeFrom_58 rfl (by decide) ?_
  refine s_cpy (n := 63) (ja := 0) (jb := 0) (jn := 7) dX2_takeFrom_60 rfl wd_X2_49 (by omega) (by simp [Value.category]) (by repeat (first | with_reducible assumption | with_reducible exact mj_ue | refine mj_un (by omega) ?_)) (by repeat (first | with_reducible assumption | with_reducible exact mj_ue | refine mj_un (by omega) ?_)) (by decide) (by decide) (by decide) (by decide) (by decide) (by decide) (by decide) (by decide) ?_
  rw [cpy7]
  refine s_aload_n (n := 64) (i := 1) dX2_takeFrom_63 rfl rfl rfl ?_
  refine gf_X2_15 (n := 67) rfl dX2_takeFrom_64 rfl (by repeat (first | with_reducible assumption | with_reducible exact mj_ue | refine mj_un (by omega) ?_)) (by rfl) ?_
  refine s_iconst (n := 68) (v := 0) dX2_takeFrom_67 rfl (by decide) ?_
  refine s_aload_n (n := 69) (i := 0) dX2_takeFrom_68 rfl rfl rfl ?_
  refine gf_X2_15 (n := 72) rfl dX2_takeFrom_69 rfl (by repeat (first | with_reducible assumption | with_reducible exact mj_ue | refine mj_un (by omega) ?_)) (by rfl) ?_
  refine s_iconst (n := 73) (v := 0) dX2_takeFrom_72 rfl (by decide) ?_
  refine s_bipush (n := 75) (v := 7) dX2_takeFrom_73 rfl (by decide) ?_
  refine s_cpy (n := 78) (ja := 0) (jb := 0) (jn := 7) dX2_takeFrom_75 rfl wd_X2_49 (by omega) (by simp [Value.category]) (by repeat (first | with_reducible assumption | with_reducible exact mj_ue | refine mj_un (by omega) ?_)) (by repeat (first | with_reducible assumption | with_reducible exact mj_ue | refine mj_un (by omega) ?_)) (by decide) (by decide) (by decide) (by decide) (by decide) (by decide) (by decide) (by decide) ?_
  rw [cpy7]
  refine s_aload_n (n := 79) (i := 1) dX2_takeFrom_78 rfl rfl rfl ?_
  refine gf_X2_18 (n := 82) rfl dX2_takeFrom_79 rfl (by repeat (first | with_reducible assumption | with_reducible exact mj_ue | refine mj_un (by omega) ?_)) (by rfl) ?_
  refine s_iconst (n := 83) (v := 0) dX2_takeFrom_82 rfl (by decide) ?_
  refine s_aload_n (n := 84) (i := 0) dX2_takeFrom_83 rfl rfl rfl ?_
  refine gf_X2_18 (n := 87) rfl dX2_takeFrom_84 rfl (by repeat (first | with_reducible assumption | with_reducible exact mj_ue | refine mj_un (by omega) ?_)) (by rfl) ?_
  refine s_iconst (n := 88) (v := 0) dX2_takeFrom_87 rfl (by decide) ?_
  refine s_bipush (n := 90) (v := 7) dX2_takeFrom_88 rfl (by decide) ?_
  refine s_cpy (n := 93) (ja := 0) (jb := 0) (jn := 7) dX2_takeFrom_90 rfl wd_X2_49 (by omega) (by simp [Value.category]) (by repeat (first | with_reducible assumption | with_reducible exact mj_ue | refine mj_un (by omega) ?_)) (by repeat (first | with_reducible assumption | with_reducible exact mj_ue | refine mj_un (by omega) ?_)) (by decide) (by decide) (by decide) (by decide) (by decide) (by decide) (by decide) (by decide) ?_
  rw [cpy7]
  refine s_aload_n (n := 94) (i := 1) dX2_takeFrom_93 rfl rfl rfl ?_
  refine gf_X2_21 (n := 97) rfl dX2_takeFrom_94 rfl (by repeat (first | with_reducible assumption | with_reducible exact mj_ue | refine mj_un (by omega) ?_)) (by rfl) ?_
  refine s_iconst (n := 98) (v := 0) dX2_takeFrom_97 rfl (by decide) ?_
  refine s_aload_n (n := 99) (i := 0) dX2_takeFrom_98 rfl rfl rfl ?_
  refine gf_X2_21 (n := 102) rfl dX2_takeFrom_99 rfl (by repeat (first | with_reducible assumption | with_reducible exact mj_ue | refine mj_un (by omega) ?_)) (by rfl) ?_
  refine s_iconst (n := 103) (v := 0) dX2_takeFrom_102 rfl (by decide) ?_
  refine s_bipush (n := 105) (v := 7) dX2_takeFrom_103 rfl (by decide) ?_
  refine s_cpy (n := 108) (ja := 0) (jb := 0) (jn := 7) dX2_takeFrom_105 rfl wd_X2_49 (by omega) (by simp [Value.category]) (by repeat (first | with_reducible assumption | with_reducible exact mj_ue | refine mj_un (by omega) ?_)) (by repeat (first | with_reducible assumption | with_reducible exact mj_ue | refine mj_un (by omega) ?_)) (by decide) (by decide) (by decide) (by decide) (by decide) (by decide) (by decide) (by decide) ?_
  rw [cpy7]
  refine s_aload_n (n := 109) (i := 1) dX2_takeFrom_108 rfl rfl rfl ?_
  refine gf_X2_24 (n := 112) rfl dX2_takeFrom_109 rfl (by repeat (first | with_reducible assumption | with_reducible exact mj_ue | refine mj_un (by omega) ?_)) (by rfl) ?_
  refine s_iconst (n := 113) (v := 0) dX2_takeFrom_112 rfl (by decide) ?_
  refine s_aload_n (n := 114) (i := 0) dX2_takeFrom_113 rfl rfl rfl ?_
  refine gf_X2_24 (n := 117) rfl dX2_takeFrom_114 rfl (by repeat (first | with_reducible assumption | with_reducible exact mj_ue | refine mj_un (by omega) ?_)) (by rfl) ?_
  refine s_iconst (n := 118) (v := 0) dX2_takeFrom_117 rfl (by decide) ?_
  refine s_bipush (n := 120) (v := 7) dX2_takeFrom_118 rfl (by decide) ?_
  refine s_cpy (n := 123) (ja := 0) (jb := 0) (jn := 7) dX2_takeFrom_120 rfl wd_X2_49 (by omega) (by simp [Value.category]) (by repeat (first | with_reducible assumption | with_reducible exact mj_ue | refine mj_un (by omega) ?_)) (by repeat (first | with_reducible assumption | with_reducible exact mj_ue | refine mj_un (by omega) ?_)) (by decide) (by decide) (by decide) (by decide) (by decide) (by decide) (by decide) (by decide) ?_
  rw [cpy7]
  refine s_aload_n (n := 124) (i := 1) dX2_takeFrom_123 rfl rfl rfl ?_
  refine gf_X2_27 (n := 127) rfl dX2_takeFrom_124 rfl (by repeat (first | with_reducible assumption | with_reducible exact mj_ue | refine mj_un (by omega) ?_)) (by rfl) ?_
  refine s_iconst (n := 128) (v := 0) dX2_takeFrom_127 rfl (by decide) ?_
  refine s_aload_n (n := 129) (i := 0) dX2_takeFrom_128 rfl rfl rfl ?_
  refine gf_X2_27 (n := 132) rfl dX2_takeFrom_129 rfl (by repeat (first | with_reducible assumption | with_reducible exact mj_ue | refine mj_un (by omega) ?_)) (by rfl) ?_
  refine s_iconst (n := 133) (v := 0) dX2_takeFrom_132 rfl (by decide) ?_
  refine s_bipush (n := 135) (v := 7) dX2_takeFrom_133 rfl (by decide) ?_
  refine s_cpy (n := 138) (ja := 0) (jb := 0) (jn := 7) dX2_takeFrom_135 rfl wd_X2_49 (by omega) (by simp [Value.category]) (by repeat (first | with_reducible assumption | with_reducible exact mj_ue | refine mj_un (by omega) ?_)) (by repeat (first | with_reducible assumption | with_reducible exact mj_ue | refine mj_un (by omega) ?_)) (by decide) (by decide) (by decide) (by decide) (by decide) (by decide) (by decide) (by decide) ?_
  rw [cpy7]
  refine s_return dX2_takeFrom_138 rfl (Nat.le_refl _) (Nat.le_refl _) ?_
  refine ⟨rfl, ⟨?_, ?_, ?_, ?_, ?_, ?_, ?_⟩, rfl, fun j hj => ?_⟩
  · repeat (first | with_reducible assumption | with_reducible exact mj_ue | refine mj_un (by omega) ?_)
  · repeat (first | with_reducible assumption | with_reducible exact mj_ue | refine mj_un (by omega) ?_)
  · repeat (first | with_reducible assumption | with_reducible exact mj_ue | refine mj_un (by omega) ?_)
  · repeat (first | with_reducible assumption | with_reducible exact mj_ue | refine mj_un (by omega) ?_)
  · repeat (first | with_reducible assumption | with_reducible exact mj_ue | refine mj_un (by omega) ?_)
  · repeat (first | with_reducible assumption | with_reducible exact mj_ue | refine mj_un (by omega) ?_)
  · repeat (first | with_reducible assumption | with_reducible exact mj_ue | refine mj_un (by omega) ?_)
  · repeat (first | rfl | refine mj_un (by omega) ?_)
def bld (T : Nat → Int32) (j : Nat) (k t e b : Int32) : Nat → Int32 := upd (upd (upd (upd (upd (upd (upd T (6 + j) k) (13 + j) t) (20 + j) e) (34 + j) 0) (27 + j) b) (41 + j) 0) 2 (nI (j + 1))
set_option maxRecDepth 100000 in
set_option maxHeartbeats 4000000 in
theorem c_build {G : mj_G} {h : mj_H} {d : Nat} {p : Nat} {T : Nat → Int32} (hS0 : mj_St G h p T) {j : Nat} {k t e b : Int32} (hj : j < 7) (hn : T 2 = nI j) (hd : 1 ≤ d) : mj_con G MX2_build d 0 0 [.ref (G.1 + p), .int k, .int t, .int e, .int b] h (fun v h' => v = none ∧ mj_St G h' p (bld T j k t e b) ∧ mj_fr p 7 h h') := by
  refine mj_conV okX2_build (ls := [some (.ref (G.1 + p)), some (.int k), some (.int t), some (.int e), some (.int b)]) rfl rfl ?_
  obtain ⟨c0, c1, c2, c3, c4, c5, c6⟩ := id hS0
  refine s_aload_n (n := 1) (i := 0) dX2_build_0 rfl rfl rfl ?_
  refine s_v0 (M' := MX2_hasRoom) (n := 4) (ci := 2) dX2_build_1 rfl wd_X2_55 okX2_hasRoom rfl rfl (by omega) ⟨Nat.le_refl _, Nat.le_refl _⟩ (by assumption) (c_hasRoom (d := d - 1) hS0) ?_
  rintro v1 hh1 ⟨rfl, rfl⟩
  refine s_if_eq (n := 7) (tgt := 67) dX2_build_4 rfl rfl (fun b4 => ?_) (fun b4 => ?_)
  · exfalso
    rw [hn, if_pos (show nI j < 7 from (nI_ltE (b := 7) (by omega) (by omega)).mpr hj)] at b4
    exact absurd b4 (by decide)
  · refine s_aload_n (n := 8) (i := 0) dX2_build_7 rfl rfl rfl ?_
    refine gf_X2_9 (n := 11) rfl dX2_build_8 rfl (by assumption) (by rfl) ?_
    refine s_aload_n (n := 12) (i := 0) dX2_build_11 rfl rfl rfl ?_
    refine gf_X2_30 (n := 15) rfl dX2_build_12 rfl (by assumption) (by rfl) ?_
    rw [hn]
    refine s_iload_n (n := 16) (i := 1) dX2_build_15 rfl rfl rfl ?_
    refine s_iast (n := 17) dX2_build_16 rfl (by assumption) (mj_ixn (by omega)) ?_
    refine St_put_kind hj hS0 (fun h1 hS1 hF1 => ?_)
    have hF := hF1
    obtain ⟨c0, c1, c2, c3, c4, c5, c6⟩ := id hS1
    have hS0 := hS1
    have hn : (upd _ (6 + j) k) 2 = nI j := (up_ne (by omega)).trans hn
    refine s_aload_n (n := 18) (i := 0) dX2_build_17 rfl rfl rfl ?_
    refine gf_X2_15 (n := 21) rfl dX2_build_18 rfl (by assumption) (by rfl) ?_
    refine s_aload_n (n := 22) (i := 0) dX2_build_21 rfl rfl rfl ?_
    refine gf_X2_30 (n := 25) rfl dX2_build_22 rfl (by assumption) (by rfl) ?_
    rw [hn]
    refine s_iload_n (n := 26) (i := 2) dX2_build_25 rfl rfl rfl ?_
    refine s_iast (n := 27) dX2_build_26 rfl (by assumption) (mj_ixn (by omega)) ?_
    refine St_put_talk hj hS0 (fun h1 hS1 hF1 => ?_)
    have hF := fr_tr hF hF1
    obtain ⟨c0, c1, c2, c3, c4, c5, c6⟩ := id hS1
    have hS0 := hS1
    have hn : (upd _ (13 + j) t) 2 = nI j := (up_ne (by omega)).trans hn
    refine s_aload_n (n := 28) (i := 0) dX2_build_27 rfl rfl rfl ?_
    refine gf_X2_18 (n := 31) rfl dX2_build_28 rfl (by assumption) (by rfl) ?_
    refine s_aload_n (n := 32) (i := 0) dX2_build_31 rfl rfl rfl ?_
    refine gf_X2_30 (n := 35) rfl dX2_build_32 rfl (by assumption) (by rfl) ?_
    rw [hn]
    refine s_iload_n (n := 36) (i := 3) dX2_build_35 rfl rfl rfl ?_
    refine s_iast (n := 37) dX2_build_36 rfl (by assumption) (mj_ixn (by omega)) ?_
    refine St_put_keeps hj hS0 (fun h1 hS1 hF1 => ?_)
    have hF := fr_tr hF hF1
    obtain ⟨c0, c1, c2, c3, c4, c5, c6⟩ := id hS1
    have hS0 := hS1
    have hn : (upd _ (20 + j) e) 2 = nI j := (up_ne (by omega)).trans hn
    refine s_aload_n (n := 38) (i := 0) dX2_build_37 rfl rfl rfl ?_
    refine gf_X2_24 (n := 41) rfl dX2_build_38 rfl (by assumption) (by rfl) ?_
    refine s_aload_n (n := 42) (i := 0) dX2_build_41 rfl rfl rfl ?_
    refine gf_X2_30 (n := 45) rfl dX2_build_42 rfl (by assumption) (by rfl) ?_
    rw [hn]
    refine s_iconst (n := 46) (v := 0) dX2_build_45 rfl (by decide) ?_
    refine s_iast (n := 47) dX2_build_46 rfl (by assumption) (mj_ixn (by omega)) ?_
    refine St_put_gutter hj hS0 (fun h1 hS1 hF1 => ?_)
    have hF := fr_tr hF hF1
    obtain ⟨c0, c1, c2, c3, c4, c5, c6⟩ := id hS1
    have hS0 := hS1
    have hn : (upd _ (34 + j) 0) 2 = nI j := (up_ne (by omega)).trans hn
    refine s_aload_n (n := 48) (i := 0) dX2_build_47 rfl rfl rfl ?_
    refine s_aload_n (n := 49) (i := 0) dX2_build_48 rfl rfl rfl ?_
    refine gf_X2_30 (n := 52) rfl dX2_build_49 rfl (by assumption) (by rfl) ?_
    rw [hn]
    refine s_iload (n := 54) dX2_build_52 rfl rfl ?_
    refine s_v2 (M' := MX2_putBars) (n := 57) (ci := 2) dX2_build_54 rfl wd_X2_59 okX2_putBars rfl rfl (by omega) ⟨Nat.le_refl _, Nat.le_refl _⟩ (by assumption) (c_putBars (d := d - 1) hS0 hj) ?_
    rintro v54 hh54 ⟨rfl, hS0, hF1⟩
    have hF := fr_tr hF hF1
    obtain ⟨c0, c1, c2, c3, c4, c5, c6⟩ := id hS0
    have hn : (upd (upd _ (27 + j) b) (41 + j) 0) 2 = nI j := (up_ne (by omega)).trans ((up_ne (by omega)).trans hn)
    refine s_aload_n (n := 58) (i := 0) dX2_build_57 rfl rfl rfl ?_
    refine s_dup (n := 59) dX2_build_58 rfl rfl ?_
    refine gf_X2_30 (n := 62) rfl dX2_build_59 rfl (by assumption) (by rfl) ?_
    rw [hn]
    refine s_iconst (n := 63) (v := 1) dX2_build_62 rfl (by decide) ?_
    refine s_iadd (n := 64) dX2_build_63 rfl ?_
    rw [nI_1]
    refine pf_X2_30 (n := 67) (fs' := [_, _, _, _, _, _, _, _, _, _, _, _]) rfl dX2_build_64 rfl (by assumption) (by rfl) (by rfl) ?_
    refine St_put_houses hS0 (fun h1 hS1 hF1 => ?_)
    have hF := fr_tr hF hF1
    obtain ⟨c0, c1, c2, c3, c4, c5, c6⟩ := id hS1
    have hS0 := hS1
    refine s_return dX2_build_67 rfl (Nat.le_refl _) (Nat.le_refl _) ?_
    exact ⟨rfl, hS0, hF⟩
def drw (n a : Nat) (T : Nat → Int32) : Nat → Int32 := if a % 9 = 0 then lowP (upd T (13 + a % n) (nI (a % 21))) 5 else upd T (13 + a % n) (nI (a % 21))
theorem nI_mod {a d : Nat} (ha : a < 2147483648) (h0 : 0 < d) (hd : d < 2147483648) : nI a % nI d = nI (a % d) := by
  rw [← irem_eq_mod]
  exact pk_rem ha h0 hd
theorem nI_z {a : Nat} (h : a < 2147483648) : nI a = 0 ↔ a = 0 := nI_eq (b := 0) h (by omega)
set_option maxRecDepth 100000 in
set_option maxHeartbeats 4000000 in
theorem c_takeDraw {G : mj_G} {h : mj_H} {d : Nat} {p : Nat} {T : Nat → Int32} (hS0 : mj_St G h p T) {n a : Nat} (hn : T 2 = nI n) (h0 : 0 < n) (h7 : n ≤ 7) (ha : a < 2147483648) (hd : 2 ≤ d) : mj_con G MX2_takeDraw d 0 0 [.ref (G.1 + p), .int (nI a)] h (fun v h' => v = none ∧ mj_St G h' p (drw n a T) ∧ mj_fr p 7 h h') := by
  refine mj_conV okX2_takeDraw (ls := [some (.ref (G.1 + p)), some (.int (nI a))]) rfl rfl ?_
  obtain ⟨c0, c1, c2, c3, c4, c5, c6⟩ := id hS0
  refine s_aload_n (n := 1) (i := 0) dX2_takeDraw_0 rfl rfl rfl ?_
  refine gf_X2_30 (n := 4) rfl dX2_takeDraw_1 rfl (by assumption) (by rfl) ?_
  refine s_if_le (n := 7) (tgt := 22) dX2_takeDraw_4 rfl rfl (fun b4 => ?_) (fun b4 => ?_)
  · rw [hn] at b4
    exact absurd b4 (nI_nle h0 (by omega))
  · refine s_aload_n (n := 8) (i := 0) dX2_takeDraw_7 rfl rfl rfl ?_
    refine gf_X2_15 (n := 11) rfl dX2_takeDraw_8 rfl (by assumption) (by rfl) ?_
    refine s_iload_n (n := 12) (i := 1) dX2_takeDraw_11 rfl rfl rfl ?_
    refine s_aload_n (n := 13) (i := 0) dX2_takeDraw_12 rfl rfl rfl ?_
    refine gf_X2_30 (n := 16) rfl dX2_takeDraw_13 rfl (by assumption) (by rfl) ?_
    rw [hn]
    refine s_irem (n := 17) dX2_takeDraw_16 rfl (by rw [nI_z (by omega)]; omega) ?_
    rw [nI_mod ha h0 (by omega)]
    refine s_iload_n (n := 18) (i := 1) dX2_takeDraw_17 rfl rfl rfl ?_
    refine s_bipush (n := 20) (v := 21) dX2_takeDraw_18 rfl (by decide) ?_
    refine s_irem (n := 21) dX2_takeDraw_20 rfl (by decide) ?_
    rw [show (21 : Int32) = nI 21 from rfl, nI_mod ha (by omega) (by omega)]
    refine s_iast (n := 22) dX2_takeDraw_21 rfl (by assumption) (mj_ixn (by have := Nat.mod_lt a h0; omega)) ?_
    refine St_put_talk (by have := Nat.mod_lt a h0; omega) hS0 (fun h1 hS1 hF1 => ?_)
    have hF := hF1
    obtain ⟨c0, c1, c2, c3, c4, c5, c6⟩ := id hS1
    have hS0 := hS1
    refine s_iload_n (n := 23) (i := 1) dX2_takeDraw_22 rfl rfl rfl ?_
    refine s_bipush (n := 25) (v := 9) dX2_takeDraw_23 rfl (by decide) ?_
    refine s_irem (n := 26) dX2_takeDraw_25 rfl (by decide) ?_
    rw [show (9 : Int32) = nI 9 from rfl, nI_mod ha (by omega) (by omega)]
    refine s_if_ne (n := 29) (tgt := 34) dX2_takeDraw_26 rfl rfl (fun b26 => ?_) (fun b26 => ?_)
    · refine s_return dX2_takeDraw_34 rfl (Nat.le_refl _) (Nat.le_refl _) ?_
      have q : ¬ a % 9 = 0 := fun q => b26 (by rw [q]; rfl)
      unfold drw
      rw [if_neg q]
      exact ⟨rfl, hS0, hF⟩
    · refine s_aload_n (n := 30) (i := 0) dX2_takeDraw_29 rfl rfl rfl ?_
      refine s_iconst (n := 31) (v := 5) dX2_takeDraw_30 rfl (by decide) ?_
      refine s_v1 (M' := MX2_lowerPond) (n := 34) (ci := 2) dX2_takeDraw_31 rfl wd_X2_69 okX2_lowerPond rfl rfl (by omega) ⟨Nat.le_refl _, Nat.le_refl _⟩ (by assumption) (c_lowerPond (d := d - 1) hS0 (by omega)) ?_
      rintro v31 hh31 ⟨rfl, hS2, hF2⟩
      refine s_return dX2_takeDraw_34 rfl (Nat.le_refl _) (Nat.le_refl _) ?_
      have q : a % 9 = 0 := (nI_z (by omega)).mp b26
      unfold drw
      rw [if_pos q]
      exact ⟨rfl, hS2, fr_tr hF hF2⟩
set_option maxRecDepth 100000 in
set_option maxHeartbeats 4000000 in
theorem c_clearPond {G : mj_G} {h : mj_H} {d : Nat} {p : Nat} {T : Nat → Int32} (hS0 : mj_St G h p T) (hd : 1 ≤ d) : mj_con G MX2_isClearAt d 0 0 [.ref (G.1 + p), .int (-1)] h (rI (if T 1 < T 5 then 0 else 1) h) := by
  refine mj_conV okX2_isClearAt (ls := [some (.ref (G.1 + p)), some (.int (-1))]) rfl rfl ?_
  obtain ⟨c0, c1, c2, c3, c4, c5, c6⟩ := id hS0
  refine s_iload_n (n := 1) (i := 1) dX2_isClearAt_0 rfl rfl rfl ?_
  refine s_iconst (n := 2) (v := (-1)) dX2_isClearAt_1 rfl (by decide) ?_
  refine s_icmp_ne (n := 5) (tgt := 20) dX2_isClearAt_2 rfl rfl (fun b2 => ?_) (fun b2 => ?_)
  · exact absurd rfl b2
  · refine s_aload_n (n := 6) (i := 0) dX2_isClearAt_5 rfl rfl rfl ?_
    refine s_v0 (M' := MX2_isOverPlank) (n := 9) (ci := 2) dX2_isClearAt_6 rfl wd_X2_97 okX2_isOverPlank rfl rfl (by omega) ⟨Nat.le_refl _, Nat.le_refl _⟩ (by assumption) (c_isOverPlank (d := d - 1) hS0) ?_
    rintro v6 hh6 ⟨rfl, rfl⟩
    refine s_if_ne (n := 12) (tgt := 16) dX2_isClearAt_9 rfl rfl (fun b9 => ?_) (fun b9 => ?_)
    · refine s_iconst (n := 17) (v := 0) dX2_isClearAt_16 rfl (by decide) ?_
      refine s_goto (tgt := 34) dX2_isClearAt_17 rfl ?_
      refine s_ireturn dX2_isClearAt_34 rfl (rfl) (Nat.le_refl _) (Nat.le_refl _) ?_
      refine rI_ok ?_
      split at b9 <;> simp_all
    · refine s_iconst (n := 13) (v := 1) dX2_isClearAt_12 rfl (by decide) ?_
      refine s_goto (tgt := 34) dX2_isClearAt_13 rfl ?_
      refine s_ireturn dX2_isClearAt_34 rfl (rfl) (Nat.le_refl _) (Nat.le_refl _) ?_
      refine rI_ok ?_
      split at b9 <;> simp_all
set_option maxRecDepth 100000 in
set_option maxHeartbeats 4000000 in
theorem c_clearAt {G : mj_G} {h : mj_H} {d : Nat} {p : Nat} {T : Nat → Int32} (hS0 : mj_St G h p T) {j : Nat} (hj : j < 7) : mj_con G MX2_isClearAt d 0 0 [.ref (G.1 + p), .int (nI j)] h (rI (if T (34 + j) = 0 then 1 else 0) h) := by
  refine mj_conV okX2_isClearAt (ls := [some (.ref (G.1 + p)), some (.int (nI j))]) rfl rfl ?_
  obtain ⟨c0, c1, c2, c3, c4, c5, c6⟩ := id hS0
  refine s_iload_n (n := 1) (i := 1) dX2_isClearAt_0 rfl rfl rfl ?_
  refine s_iconst (n := 2) (v := (-1)) dX2_isClearAt_1 rfl (by decide) ?_
  refine s_icmp_ne (n := 5) (tgt := 20) dX2_isClearAt_2 rfl rfl (fun b2 => ?_) (fun b2 => ?_)
  · refine s_aload_n (n := 21) (i := 0) dX2_isClearAt_20 rfl rfl rfl ?_
    refine gf_X2_24 (n := 24) rfl dX2_isClearAt_21 rfl (by assumption) (by rfl) ?_
    refine s_iload_n (n := 25) (i := 1) dX2_isClearAt_24 rfl rfl rfl ?_
    first | refine s_ials (n := 26) dX2_isClearAt_25 rfl (by assumption) (mj_ixn (by omega)) ?_ | refine s_iald (n := 26) dX2_isClearAt_25 rfl (by assumption) (mj_ixn (by omega)) ?_
    refine s_if_ne (n := 29) (tgt := 33) dX2_isClearAt_26 rfl rfl (fun b26 => ?_) (fun b26 => ?_)
    · refine s_iconst (n := 34) (v := 0) dX2_isClearAt_33 rfl (by decide) ?_
      refine s_ireturn dX2_isClearAt_34 rfl (rfl) (Nat.le_refl _) (Nat.le_refl _) ?_
      refine rI_ok ?_
      first | rw [if_pos (by assumption)] | rw [if_neg (by assumption)]
    · refine s_iconst (n := 30) (v := 1) dX2_isClearAt_29 rfl (by decide) ?_
      refine s_goto (tgt := 34) dX2_isClearAt_30 rfl ?_
      refine s_ireturn dX2_isClearAt_34 rfl (rfl) (Nat.le_refl _) (Nat.le_refl _) ?_
      refine rI_ok ?_
      first | rw [if_pos (by assumption)] | rw [if_neg (by assumption)]
  · exfalso
    have q : nI j < 0 := by rw [b2]; decide
    exact nI_lt0 (by omega) q
def ffb (T : Nat → Int32) : Nat → Nat → Int32
  | _, 0 => -1000000
  | i, m + 1 => if 0 < T (27 + i) ∧ T (41 + i) = T (27 + i) then nI i else ffb T (i + 1) m
def sumF (T : Nat → Int32) (o : Nat) : Nat → Int32
  | 0 => 0
  | m + 1 => sumF T o m + T (o + m)
def dryF (T : Nat → Int32) : Nat → Int32
  | 0 => 0
  | m + 1 => if T (34 + m) = 0 then dryF T m ||| (1 <<< (nI m &&& 31)) else dryF T m
set_option maxRecDepth 100000 in
set_option maxHeartbeats 4000000 in
theorem l_ffb {G : mj_G} {h : mj_H} {d p n : Nat} {T : Nat → Int32} (hS0 : mj_St G h p T) (hn : T 2 = nI n) (h7 : n ≤ 7) : ∀ (m i : Nat), i + m = n → mj_wp G MX2_firstFullBars d 0 0 2 [some (.ref (G.1 + p)), some (.int (nI i))] [] h 0 0 (rI (ffb T i m) h) := by
  obtain ⟨c0, c1, c2, c3, c4, c5, c6⟩ := id hS0
  intro m
  induction m with
  | zero =>
    intro i hi 
    have hin : i = n := by omega
    subst hin
    refine s_iload_n (n := 3) (i := 1) dX2_firstFullBars_2 rfl rfl rfl ?_
    refine s_aload_n (n := 4) (i := 0) dX2_firstFullBars_3 rfl rfl rfl ?_
    refine gf_X2_30 (n := 7) rfl dX2_firstFullBars_4 rfl (by assumption) (by rfl) ?_
    refine s_icmp_ge (n := 10) (tgt := 42) dX2_firstFullBars_7 rfl rfl (fun b7 => ?_) (fun b7 => ?_)
    · refine s_ldc (n := 44) dX2_firstFullBars_42 rfl wd_X2_100 ?_
      refine s_ireturn dX2_firstFullBars_44 rfl (rfl) (Nat.le_refl _) (Nat.le_refl _) ?_
      exact rI_ok rfl
    · rw [hn] at b7
      exact absurd (Int32.le_refl _) b7
  | succ m ih =>
    intro i hi 
    refine s_iload_n (n := 3) (i := 1) dX2_firstFullBars_2 rfl rfl rfl ?_
    refine s_aload_n (n := 4) (i := 0) dX2_firstFullBars_3 rfl rfl rfl ?_
    refine gf_X2_30 (n := 7) rfl dX2_firstFullBars_4 rfl (by assumption) (by rfl) ?_
    refine s_icmp_ge (n := 10) (tgt := 42) dX2_firstFullBars_7 rfl rfl (fun b7 => ?_) (fun b7 => ?_)
    · rw [hn] at b7
      exact absurd ((nI_leE (by omega) (by omega)).mp b7) (by omega)
    · refine s_aload_n (n := 11) (i := 0) dX2_firstFullBars_10 rfl rfl rfl ?_
      refine gf_X2_21 (n := 14) rfl dX2_firstFullBars_11 rfl (by assumption) (by rfl) ?_
      refine s_iload_n (n := 15) (i := 1) dX2_firstFullBars_14 rfl rfl rfl ?_
      first | refine s_ials (n := 16) dX2_firstFullBars_15 rfl (by assumption) (mj_ixn (by omega)) ?_ | refine s_iald (n := 16) dX2_firstFullBars_15 rfl (by assumption) (mj_ixn (by omega)) ?_
      refine s_if_le (n := 19) (tgt := 36) dX2_firstFullBars_16 rfl rfl (fun b16 => ?_) (fun b16 => ?_)
      · have q : ¬ (0 < T (27 + i) ∧ T (41 + i) = T (27 + i)) := fun q => absurd q.1 (Int32.not_lt.mpr b16)
        refine s_iinc (n := 39) (v := _ + 1) (ls' := [_, _]) dX2_firstFullBars_36 rfl rfl rfl rfl rfl ?_
        refine s_goto (tgt := 2) dX2_firstFullBars_39 rfl ?_
        rw [nI_1]
        unfold ffb
        rw [if_neg q]
        exact ih (i + 1) (by omega)
      · refine s_aload_n (n := 20) (i := 0) dX2_firstFullBars_19 rfl rfl rfl ?_
        refine gf_X2_27 (n := 23) rfl dX2_firstFullBars_20 rfl (by assumption) (by rfl) ?_
        refine s_iload_n (n := 24) (i := 1) dX2_firstFullBars_23 rfl rfl rfl ?_
        first | refine s_ials (n := 25) dX2_firstFullBars_24 rfl (by assumption) (mj_ixn (by omega)) ?_ | refine s_iald (n := 25) dX2_firstFullBars_24 rfl (by assumption) (mj_ixn (by omega)) ?_
        refine s_aload_n (n := 26) (i := 0) dX2_firstFullBars_25 rfl rfl rfl ?_
        refine gf_X2_21 (n := 29) rfl dX2_firstFullBars_26 rfl (by assumption) (by rfl) ?_
        refine s_iload_n (n := 30) (i := 1) dX2_firstFullBars_29 rfl rfl rfl ?_
        first | refine s_ials (n := 31) dX2_firstFullBars_30 rfl (by assumption) (mj_ixn (by omega)) ?_ | refine s_iald (n := 31) dX2_firstFullBars_30 rfl (by assumption) (mj_ixn (by omega)) ?_
        refine s_icmp_ne (n := 34) (tgt := 36) dX2_firstFullBars_31 rfl rfl (fun b31 => ?_) (fun b31 => ?_)
        · have q : ¬ (0 < T (27 + i) ∧ T (41 + i) = T (27 + i)) := fun q => b31 q.2
          refine s_iinc (n := 39) (v := _ + 1) (ls' := [_, _]) dX2_firstFullBars_36 rfl rfl rfl rfl rfl ?_
          refine s_goto (tgt := 2) dX2_firstFullBars_39 rfl ?_
          rw [nI_1]
          unfold ffb
          rw [if_neg q]
          exact ih (i + 1) (by omega)
        · refine s_iload_n (n := 35) (i := 1) dX2_firstFullBars_34 rfl rfl rfl ?_
          refine s_ireturn dX2_firstFullBars_35 rfl (rfl) (Nat.le_refl _) (Nat.le_refl _) ?_
          unfold ffb
          rw [if_pos ⟨Int32.not_le.mp b16, b31⟩]
          exact rI_ok rfl
set_option maxRecDepth 100000 in
set_option maxHeartbeats 4000000 in
theorem c_firstFullBars {G : mj_G} {h : mj_H} {d : Nat} {p : Nat} {T : Nat → Int32} (hS0 : mj_St G h p T) {n : Nat} (hn : T 2 = nI n) (h7 : n ≤ 7) : mj_con G MX2_firstFullBars d 0 0 [.ref (G.1 + p)] h (rI (ffb T 0 n) h) := by
  refine mj_conV okX2_firstFullBars (ls := [some (.ref (G.1 + p)), none]) rfl rfl ?_
  obtain ⟨c0, c1, c2, c3, c4, c5, c6⟩ := id hS0
  refine s_iconst (n := 1) (v := 0) dX2_firstFullBars_0 rfl (by decide) ?_
  refine s_istore_n (n := 2) (i := 1) (ls' := [_, _]) dX2_firstFullBars_1 rfl rfl rfl rfl rfl ?_
  exact l_ffb hS0 hn h7 n 0 (by omega)
set_option maxRecDepth 100000 in
set_option maxHeartbeats 4000000 in
theorem l_caughtInAll {G : mj_G} {h : mj_H} {d p n : Nat} {T : Nat → Int32} (hS0 : mj_St G h p T) (hn : T 2 = nI n) (h7 : n ≤ 7) : ∀ (m i : Nat), i + m = n → ∀ x : Int32, x = sumF T 41 i → mj_wp G MX2_caughtInAll d 0 0 4 [some (.ref (G.1 + p)), some (.int x), some (.int (nI i))] [] h 0 0 (rI (sumF T 41 n) h) := by
  obtain ⟨c0, c1, c2, c3, c4, c5, c6⟩ := id hS0
  intro m
  induction m with
  | zero =>
    intro i hi x hx
    have hin : i = n := by omega
    subst hin
    refine s_iload_n (n := 5) (i := 2) dX2_caughtInAll_4 rfl rfl rfl ?_
    refine s_aload_n (n := 6) (i := 0) dX2_caughtInAll_5 rfl rfl rfl ?_
    refine gf_X2_30 (n := 9) rfl dX2_caughtInAll_6 rfl (by assumption) (by rfl) ?_
    refine s_icmp_ge (n := 12) (tgt := 27) dX2_caughtInAll_9 rfl rfl (fun b9 => ?_) (fun b9 => ?_)
    · refine s_iload_n (n := 28) (i := 1) dX2_caughtInAll_27 rfl rfl rfl ?_
      refine s_ireturn dX2_caughtInAll_28 rfl (rfl) (Nat.le_refl _) (Nat.le_refl _) ?_
      exact rI_ok hx
    · rw [hn] at b9
      exact absurd (Int32.le_refl _) b9
  | succ m ih =>
    intro i hi x hx
    refine s_iload_n (n := 5) (i := 2) dX2_caughtInAll_4 rfl rfl rfl ?_
    refine s_aload_n (n := 6) (i := 0) dX2_caughtInAll_5 rfl rfl rfl ?_
    refine gf_X2_30 (n := 9) rfl dX2_caughtInAll_6 rfl (by assumption) (by rfl) ?_
    refine s_icmp_ge (n := 12) (tgt := 27) dX2_caughtInAll_9 rfl rfl (fun b9 => ?_) (fun b9 => ?_)
    · rw [hn] at b9
      exact absurd ((nI_leE (by omega) (by omega)).mp b9) (by omega)
    · refine s_iload_n (n := 13) (i := 1) dX2_caughtInAll_12 rfl rfl rfl ?_
      refine s_aload_n (n := 14) (i := 0) dX2_caughtInAll_13 rfl rfl rfl ?_
      refine gf_X2_27 (n := 17) rfl dX2_caughtInAll_14 rfl (by assumption) (by rfl) ?_
      refine s_iload_n (n := 18) (i := 2) dX2_caughtInAll_17 rfl rfl rfl ?_
      first | refine s_ials (n := 19) dX2_caughtInAll_18 rfl (by assumption) (mj_ixn (by omega)) ?_ | refine s_iald (n := 19) dX2_caughtInAll_18 rfl (by assumption) (mj_ixn (by omega)) ?_
      refine s_iadd (n := 20) dX2_caughtInAll_19 rfl ?_
      refine s_istore_n (n := 21) (i := 1) (ls' := [_, _, _]) dX2_caughtInAll_20 rfl rfl rfl rfl rfl ?_
      refine s_iinc (n := 24) (v := _ + 1) (ls' := [_, _, _]) dX2_caughtInAll_21 rfl rfl rfl rfl rfl ?_
      refine s_goto (tgt := 4) dX2_caughtInAll_24 rfl ?_
      rw [nI_1]
      exact ih (i + 1) (by omega) _ (by rw [hx]; rfl)
set_option maxRecDepth 100000 in
set_option maxHeartbeats 4000000 in
theorem c_caughtInAll {G : mj_G} {h : mj_H} {d : Nat} {p : Nat} {T : Nat → Int32} (hS0 : mj_St G h p T) {n : Nat} (hn : T 2 = nI n) (h7 : n ≤ 7) : mj_con G MX2_caughtInAll d 0 0 [.ref (G.1 + p)] h (rI (sumF T 41 n) h) := by
  refine mj_conV okX2_caughtInAll (ls := [some (.ref (G.1 + p)), none, none]) rfl rfl ?_
  obtain ⟨c0, c1, c2, c3, c4, c5, c6⟩ := id hS0
  refine s_iconst (n := 1) (v := 0) dX2_caughtInAll_0 rfl (by decide) ?_
  refine s_istore_n (n := 2) (i := 1) (ls' := [_, _, _]) dX2_caughtInAll_1 rfl rfl rfl rfl rfl ?_
  refine s_iconst (n := 3) (v := 0) dX2_caughtInAll_2 rfl (by decide) ?_
  refine s_istore_n (n := 4) (i := 2) (ls' := [_, _, _]) dX2_caughtInAll_3 rfl rfl rfl rfl rfl ?_
  exact l_caughtInAll hS0 hn h7 n 0 (by omega) _ rfl
set_option maxRecDepth 100000 in
set_option maxHeartbeats 4000000 in
theorem l_inAllGutters {G : mj_G} {h : mj_H} {d p n : Nat} {T : Nat → Int32} (hS0 : mj_St G h p T) (hn : T 2 = nI n) (h7 : n ≤ 7) : ∀ (m i : Nat), i + m = n → ∀ x : Int32, x = sumF T 34 i → mj_wp G MX2_inAllGutters d 0 0 4 [some (.ref (G.1 + p)), some (.int x), some (.int (nI i))] [] h 0 0 (rI (sumF T 34 n) h) := by
  obtain ⟨c0, c1, c2, c3, c4, c5, c6⟩ := id hS0
  intro m
  induction m with
  | zero =>
    intro i hi x hx
    have hin : i = n := by omega
    subst hin
    refine s_iload_n (n := 5) (i := 2) dX2_inAllGutters_4 rfl rfl rfl ?_
    refine s_aload_n (n := 6) (i := 0) dX2_inAllGutters_5 rfl rfl rfl ?_
    refine gf_X2_30 (n := 9) rfl dX2_inAllGutters_6 rfl (by assumption) (by rfl) ?_
    refine s_icmp_ge (n := 12) (tgt := 27) dX2_inAllGutters_9 rfl rfl (fun b9 => ?_) (fun b9 => ?_)
    · refine s_iload_n (n := 28) (i := 1) dX2_inAllGutters_27 rfl rfl rfl ?_
      refine s_ireturn dX2_inAllGutters_28 rfl (rfl) (Nat.le_refl _) (Nat.le_refl _) ?_
      exact rI_ok hx
    · rw [hn] at b9
      exact absurd (Int32.le_refl _) b9
  | succ m ih =>
    intro i hi x hx
    refine s_iload_n (n := 5) (i := 2) dX2_inAllGutters_4 rfl rfl rfl ?_
    refine s_aload_n (n := 6) (i := 0) dX2_inAllGutters_5 rfl rfl rfl ?_
    refine gf_X2_30 (n := 9) rfl dX2_inAllGutters_6 rfl (by assumption) (by rfl) ?_
    refine s_icmp_ge (n := 12) (tgt := 27) dX2_inAllGutters_9 rfl rfl (fun b9 => ?_) (fun b9 => ?_)
    · rw [hn] at b9
      exact absurd ((nI_leE (by omega) (by omega)).mp b9) (by omega)
    · refine s_iload_n (n := 13) (i := 1) dX2_inAllGutters_12 rfl rfl rfl ?_
      refine s_aload_n (n := 14) (i := 0) dX2_inAllGutters_13 rfl rfl rfl ?_
      refine gf_X2_24 (n := 17) rfl dX2_inAllGutters_14 rfl (by assumption) (by rfl) ?_
      refine s_iload_n (n := 18) (i := 2) dX2_inAllGutters_17 rfl rfl rfl ?_
      first | refine s_ials (n := 19) dX2_inAllGutters_18 rfl (by assumption) (mj_ixn (by omega)) ?_ | refine s_iald (n := 19) dX2_inAllGutters_18 rfl (by assumption) (mj_ixn (by omega)) ?_
      refine s_iadd (n := 20) dX2_inAllGutters_19 rfl ?_
      refine s_istore_n (n := 21) (i := 1) (ls' := [_, _, _]) dX2_inAllGutters_20 rfl rfl rfl rfl rfl ?_
      refine s_iinc (n := 24) (v := _ + 1) (ls' := [_, _, _]) dX2_inAllGutters_21 rfl rfl rfl rfl rfl ?_
      refine s_goto (tgt := 4) dX2_inAllGutters_24 rfl ?_
      rw [nI_1]
      exact ih (i + 1) (by omega) _ (by rw [hx]; rfl)
set_option maxRecDepth 100000 in
set_option maxHeartbeats 4000000 in
theorem c_inAllGutters {G : mj_G} {h : mj_H} {d : Nat} {p : Nat} {T : Nat → Int32} (hS0 : mj_St G h p T) {n : Nat} (hn : T 2 = nI n) (h7 : n ≤ 7) : mj_con G MX2_inAllGutters d 0 0 [.ref (G.1 + p)] h (rI (sumF T 34 n) h) := by
  refine mj_conV okX2_inAllGutters (ls := [some (.ref (G.1 + p)), none, none]) rfl rfl ?_
  obtain ⟨c0, c1, c2, c3, c4, c5, c6⟩ := id hS0
  refine s_iconst (n := 1) (v := 0) dX2_inAllGutters_0 rfl (by decide) ?_
  refine s_istore_n (n := 2) (i := 1) (ls' := [_, _, _]) dX2_inAllGutters_1 rfl rfl rfl rfl rfl ?_
  refine s_iconst (n := 3) (v := 0) dX2_inAllGutters_2 rfl (by decide) ?_
  refine s_istore_n (n := 4) (i := 2) (ls' := [_, _, _]) dX2_inAllGutters_3 rfl rfl rfl rfl rfl ?_
  exact l_inAllGutters hS0 hn h7 n 0 (by omega) _ rfl
set_option maxRecDepth 100000 in
set_option maxHeartbeats 4000000 in
theorem l_dry {G : mj_G} {h : mj_H} {d p n : Nat} {T : Nat → Int32} (hS0 : mj_St G h p T) (hn : T 2 = nI n) (h7 : n ≤ 7) : ∀ (m i : Nat), i + m = n → ∀ x : Int32, x = dryF T i → mj_wp G MX2_dryGutters d 0 0 4 [some (.ref (G.1 + p)), some (.int x), some (.int (nI i))] [] h 0 0 (rI (dryF T n) h) := by
  obtain ⟨c0, c1, c2, c3, c4, c5, c6⟩ := id hS0
  intro m
  induction m with
  | zero =>
    intro i hi x hx
    have hin : i = n := by omega
    subst hin
    refine s_iload_n (n := 5) (i := 2) dX2_dryGutters_4 rfl rfl rfl ?_
    refine s_aload_n (n := 6) (i := 0) dX2_dryGutters_5 rfl rfl rfl ?_
    refine gf_X2_30 (n := 9) rfl dX2_dryGutters_6 rfl (by assumption) (by rfl) ?_
    refine s_icmp_ge (n := 12) (tgt := 33) dX2_dryGutters_9 rfl rfl (fun b9 => ?_) (fun b9 => ?_)
    · refine s_iload_n (n := 34) (i := 1) dX2_dryGutters_33 rfl rfl rfl ?_
      refine s_ireturn dX2_dryGutters_34 rfl (rfl) (Nat.le_refl _) (Nat.le_refl _) ?_
      exact rI_ok hx
    · rw [hn] at b9
      exact absurd (Int32.le_refl _) b9
  | succ m ih =>
    intro i hi x hx
    refine s_iload_n (n := 5) (i := 2) dX2_dryGutters_4 rfl rfl rfl ?_
    refine s_aload_n (n := 6) (i := 0) dX2_dryGutters_5 rfl rfl rfl ?_
    refine gf_X2_30 (n := 9) rfl dX2_dryGutters_6 rfl (by assumption) (by rfl) ?_
    refine s_icmp_ge (n := 12) (tgt := 33) dX2_dryGutters_9 rfl rfl (fun b9 => ?_) (fun b9 => ?_)
    · rw [hn] at b9
      exact absurd ((nI_leE (by omega) (by omega)).mp b9) (by omega)
    · refine s_aload_n (n := 13) (i := 0) dX2_dryGutters_12 rfl rfl rfl ?_
      refine gf_X2_24 (n := 16) rfl dX2_dryGutters_13 rfl (by assumption) (by rfl) ?_
      refine s_iload_n (n := 17) (i := 2) dX2_dryGutters_16 rfl rfl rfl ?_
      first | refine s_ials (n := 18) dX2_dryGutters_17 rfl (by assumption) (mj_ixn (by omega)) ?_ | refine s_iald (n := 18) dX2_dryGutters_17 rfl (by assumption) (mj_ixn (by omega)) ?_
      refine s_if_ne (n := 21) (tgt := 27) dX2_dryGutters_18 rfl rfl (fun b18 => ?_) (fun b18 => ?_)
      · have e : x = dryF T (i + 1) := by unfold dryF; rw [if_neg b18]; exact hx
        refine s_iinc (n := 30) (v := _ + 1) (ls' := [_, _, _]) dX2_dryGutters_27 rfl rfl rfl rfl rfl ?_
        refine s_goto (tgt := 4) dX2_dryGutters_30 rfl ?_
        rw [nI_1]
        exact ih (i + 1) (by omega) _ e
      · have e : x ||| (1 <<< (nI i &&& 31)) = dryF T (i + 1) := by
          rw [hx]
          show _ = if T (34 + i) = 0 then _ else _
          rw [if_pos b18]
        refine s_iload_n (n := 22) (i := 1) dX2_dryGutters_21 rfl rfl rfl ?_
        refine s_iconst (n := 23) (v := 1) dX2_dryGutters_22 rfl (by decide) ?_
        refine s_iload_n (n := 24) (i := 2) dX2_dryGutters_23 rfl rfl rfl ?_
        refine s_ishl (n := 25) dX2_dryGutters_24 rfl ?_
        refine s_ior (n := 26) dX2_dryGutters_25 rfl ?_
        refine s_istore_n (n := 27) (i := 1) (ls' := [_, _, _]) dX2_dryGutters_26 rfl rfl rfl rfl rfl ?_
        refine s_iinc (n := 30) (v := _ + 1) (ls' := [_, _, _]) dX2_dryGutters_27 rfl rfl rfl rfl rfl ?_
        refine s_goto (tgt := 4) dX2_dryGutters_30 rfl ?_
        rw [nI_1]
        exact ih (i + 1) (by omega) _ e
set_option maxRecDepth 100000 in
set_option maxHeartbeats 4000000 in
theorem c_dryGutters {G : mj_G} {h : mj_H} {d : Nat} {p : Nat} {T : Nat → Int32} (hS0 : mj_St G h p T) {n : Nat} (hn : T 2 = nI n) (h7 : n ≤ 7) : mj_con G MX2_dryGutters d 0 0 [.ref (G.1 + p)] h (rI (dryF T n) h) := by
  refine mj_conV okX2_dryGutters (ls := [some (.ref (G.1 + p)), none, none]) rfl rfl ?_
  obtain ⟨c0, c1, c2, c3, c4, c5, c6⟩ := id hS0
  refine s_iconst (n := 1) (v := 0) dX2_dryGutters_0 rfl (by decide) ?_
  refine s_istore_n (n := 2) (i := 1) (ls' := [_, _, _]) dX2_dryGutters_1 rfl rfl rfl rfl rfl ?_
  refine s_iconst (n := 3) (v := 0) dX2_dryGutters_2 rfl (by decide) ?_
  refine s_istore_n (n := 4) (i := 2) (ls' := [_, _, _]) dX2_dryGutters_3 rfl rfl rfl rfl rfl ?_
  exact l_dry hS0 hn h7 n 0 (by omega) _ rfl
