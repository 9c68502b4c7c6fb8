def u2 (σ : Nat → Nat → Int32) (i : Nat) (f : Nat → Int32) : Nat → Nat → Int32 := fun j => if j = i then f else σ j
theorem u2_eq {σ : Nat → Nat → Int32} {i : Nat} {f : Nat → Int32} : u2 σ i f i = f := if_pos rfl
theorem u2_ne {σ : Nat → Nat → Int32} {i j : Nat} {f : Nat → Int32} (h : j ≠ i) : u2 σ i f j = σ j := if_neg h
def ringA (G : mj_G) : Nat → Option Nat := fun i => if i < 24 then some (G.1 + (20 + 7 * i)) else none
theorem ringA_at {G : mj_G} {i : Nat} (h : i < 24) : ringA G i = some (G.1 + (20 + 7 * i)) := if_pos h
/-- the acts kept: the streets, and next, kept -/
def AcS (G : mj_G) (h : mj_H) (A : Nat → Nat → Int32) (B : Nat → Int32) : Prop := h.2 18 = mj_ob 0 [.ref (G.1 + 19), .int (B 0), .int (B 1)] ∧ h.2 19 = mj_ra 3 24 (ringA G) ∧ ∀ i, i < 24 → mj_St G h (20 + 7 * i) (A i)
theorem AcS_fr {G : mj_G} {p w : Nat} {h h' : mj_H} {A : Nat → Nat → Int32} {B : Nat → Int32} (a : mj_fr p w h h') (hq : 188 ≤ p ∨ p + w ≤ 18) (hS : AcS G h A B) : AcS G h' A B := ⟨fr_get a (by omega) hS.1, fr_get a (by omega) hS.2.1, fun i hi => St_fr a (by omega) (hS.2.2 i hi)⟩
theorem AcS_obj {G : mj_G} {h : mj_H} {A : Nat → Nat → Int32} {B : Nat → Int32} {x y : Int32} (hS : AcS G h A B) : AcS G (mj_up h 18 (mj_ob 0 [.ref (G.1 + 19), .int x, .int y])) A (upd (upd B 0 x) 1 y) := by
  have hF : mj_fr 18 1 h (mj_up h 18 (mj_ob 0 [.ref (G.1 + 19), .int x, .int y])) := fr_up (by omega) (by omega)
  exact ⟨mj_ue, fr_get hF (by omega) hS.2.1, fun i hi => St_fr hF (by omega) (hS.2.2 i hi)⟩
theorem AcS_st {G : mj_G} {h h' : mj_H} {A : Nat → Nat → Int32} {B T : Nat → Int32} {a : Nat} (ha : a < 24) (hS : AcS G h A B) (h1 : mj_St G h' (20 + 7 * a) T) (hF : mj_fr (20 + 7 * a) 7 h h') : AcS G h' (u2 A a T) B := by
  refine ⟨fr_get hF (by omega) hS.1, fr_get hF (by omega) hS.2.1, fun i hi => ?_⟩
  by_cases e : i = a
  · subst e
    rw [u2_eq]
    exact h1
  · rw [u2_ne e]
    exact St_fr hF (by omega) (hS.2.2 i hi)
theorem upd_upd {f : Nat → Int32} {k : Nat} {x y : Int32} : upd (upd f k x) k y = upd f k y := by
  funext j
  rw [up_if, up_if, up_if]
  split <;> rfl
theorem upd_self {f : Nat → Int32} {k : Nat} : upd f k (f k) = f := by
  funext j
  rw [up_if]
  split
  · next h => rw [h]
  · rfl
theorem upd_comm {f : Nat → Int32} {k l : Nat} {x y : Int32} (h : k ≠ l) : upd (upd f k x) l y = upd (upd f l y) k x := by
  funext j
  rw [up_if, up_if, up_if, up_if]
  by_cases h1 : j = l
  · rw [if_pos h1, if_neg (by omega), if_pos h1]
  · rw [if_neg h1]
    by_cases h2 : j = k
    · rw [if_pos h2]; rw [if_pos h2]
    · rw [if_neg h2, if_neg h2, if_neg h1]
def kpN (k : Nat) : Nat := if k < 24 then k + 1 else 24
theorem kpN_eq {k : Nat} (hk : k ≤ 24) : (if nI k + 1 < (24 : Int32) then nI k + 1 else 24) = nI (kpN k) := by
  rw [nI_1]
  unfold kpN
  by_cases h : k < 24
  · rw [if_pos h]
    by_cases h2 : nI (k + 1) < 24
    · rw [if_pos h2]
    · rw [if_neg h2]
      have : ¬ k + 1 < 24 := fun q => h2 ((nI_ltE (b := 24) (by omega) (by omega)).mpr q)
      have e : k + 1 = 24 := by omega
      rw [e]
      rfl
  · rw [if_neg h, if_neg]
    · rfl
    · intro q
      have := (nI_ltE (b := 24) (by omega) (by omega)).mp q
      omega
theorem AcS_congr {G : mj_G} {h : mj_H} {A : Nat → Nat → Int32} {B B' : Nat → Int32} (h0 : B 0 = B' 0) (h1 : B 1 = B' 1) (hS : AcS G h A B) : AcS G h A B' := ⟨by rw [← h0, ← h1]; exact hS.1, hS.2⟩
theorem AcS_put {G : mj_G} {M : mj_M} {d kc ks pc : Nat} {ls : List (Option Value)} {st : List Value} {h : mj_H} {uc us : Nat} {Q : Option Value → mj_H → Prop} {A : Nat → Nat → Int32} {B : Nat → Int32} {x y : Int32} (hA : AcS G h A B) (k : ∀ h', AcS G h' A (upd (upd B 0 x) 1 y) → mj_fr 18 170 h h' → mj_wp G M d kc ks pc ls st h' uc us Q) : mj_wp G M d kc ks pc ls st (mj_up h 18 (mj_ob 0 [.ref (G.1 + 19), .int x, .int y])) uc us Q := k _ (AcS_obj hA) (fr_up (by omega) (by omega))
theorem mod24 {a : Nat} (h : a < 1000) : nI a % 24 = nI (a % 24) := nI_mod (d := 24) (by omega) (by omega) (by omega)
theorem up01 {B : Nat → Int32} {x y : Int32} : upd (upd B 0 x) 1 y 0 = x := (up_ne (by omega)).trans up_eq
set_option maxRecDepth 100000 in
set_option maxHeartbeats 4000000 in
theorem c_keep {G : mj_G} {h : mj_H} {d : Nat} {q a k : Nat} {T : Nat → Int32} {A : Nat → Nat → Int32} {B : Nat → Int32} (hA : AcS G h A B) (hN : mj_St G h q T) (hq : q + 7 ≤ 18 ∨ 188 ≤ q) (hb0 : B 0 = nI a) (ha : a < 24) (hb1 : B 1 = nI k) (hk : k ≤ 24) (hd : 3 ≤ d) : mj_con G MX0_keep d 0 0 [.ref (G.1 + 18), .ref (G.1 + q)] h (fun v h' => v = none ∧ AcS G h' (u2 A a T) (upd (upd B 0 (nI ((a + 1) % 24))) 1 (nI (kpN k))) ∧ mj_fr 18 170 h h') := by
  refine mj_conV okX0_keep (ls := [some (.ref (G.1 + 18)), some (.ref (G.1 + q))]) rfl rfl ?_
  have c18 := hA.1
  have c19 := hA.2.1
  have s0 := (hA.2.2 a ha).1
  refine s_aload_n (n := 1) (i := 0) dX0_keep_0 rfl rfl rfl ?_
  refine gf_X0_11 (n := 4) rfl dX0_keep_1 rfl (by assumption) (by rfl) ?_
  refine s_aload_n (n := 5) (i := 0) dX0_keep_4 rfl rfl rfl ?_
  refine gf_X0_18 (n := 8) rfl dX0_keep_5 rfl (by assumption) (by rfl) ?_
  rw [hb0]
  refine s_aald (n := 9) (t := 3) (C0 := RX2) dX0_keep_8 rfl rfl (by assumption) (mj_ixn (by omega)) (ringA_at ha) ?_
  refine s_aload_n (n := 10) (i := 1) dX0_keep_9 rfl rfl rfl ?_
  refine s_v1 (M' := MX2_takeFrom) (n := 13) (ci := 2) dX0_keep_10 rfl wd_X0_22 okX2_takeFrom rfl rfl (by omega) ⟨Nat.le_refl _, Nat.le_refl _⟩ (by assumption) (c_takeFrom (d := d - 1) (hA.2.2 a ha) hN (by omega) (by omega)) ?_
  rintro v10 hh10 ⟨rfl, hS1, hF1⟩
  have hA1 := AcS_st ha hA hS1 hF1
  have c18 := hA1.1
  refine s_aload_n (n := 14) (i := 0) dX0_keep_13 rfl rfl rfl ?_
  refine s_aload_n (n := 15) (i := 0) dX0_keep_14 rfl rfl rfl ?_
  refine gf_X0_18 (n := 18) rfl dX0_keep_15 rfl (by assumption) (by rfl) ?_
  refine s_iconst (n := 19) (v := 1) dX0_keep_18 rfl (by decide) ?_
  refine s_iadd (n := 20) dX0_keep_19 rfl ?_
  rw [hb0, nI_1]
  refine s_bipush (n := 22) (v := 24) dX0_keep_20 rfl (by decide) ?_
  refine s_irem (n := 23) dX0_keep_22 rfl (by first | assumption | decide) ?_
  rw [mod24 (by omega)]
  refine pf_X0_18 (n := 26) (fs' := [_, _, _]) rfl dX0_keep_23 rfl (by assumption) (by rfl) (by rfl) ?_
  refine AcS_put hA1 (fun h2 hA2 hF2 => ?_)
  have c18 := hA2.1
  have c19 := hA2.2.1
  refine s_aload_n (n := 27) (i := 0) dX0_keep_26 rfl rfl rfl ?_
  refine s_bipush (n := 29) (v := 24) dX0_keep_27 rfl (by decide) ?_
  refine s_aload_n (n := 30) (i := 0) dX0_keep_29 rfl rfl rfl ?_
  refine gf_X0_26 (n := 33) rfl dX0_keep_30 rfl (by assumption) (by rfl) ?_
  rw [show upd (upd B 0 (nI ((a + 1) % 24))) 1 (B 1) 1 = nI k from hb1]
  refine s_iconst (n := 34) (v := 1) dX0_keep_33 rfl (by decide) ?_
  refine s_iadd (n := 35) dX0_keep_34 rfl ?_
  refine s_min (n := 38) dX0_keep_35 rfl wd_X0_29 (by omega) (by simp [Value.category]) (Nat.le_refl _) (Nat.le_refl _) ?_
  rw [kpN_eq hk]
  refine pf_X0_26 (n := 41) (fs' := [_, _, _]) rfl dX0_keep_38 rfl (by assumption) (by rfl) (by rfl) ?_
  refine AcS_put hA2 (fun h3 hA3 hF3 => ?_)
  have c18 := hA3.1
  have c19 := hA3.2.1
  refine s_return dX0_keep_41 rfl (Nat.le_refl _) (Nat.le_refl _) ?_
  exact ⟨rfl, AcS_congr rfl rfl hA3, fr_tr (fr_wid hF1 (by omega) (by omega)) (fr_tr hF2 hF3)⟩
set_option maxRecDepth 100000 in
set_option maxHeartbeats 4000000 in
theorem c_undo0 {G : mj_G} {h : mj_H} {d : Nat} {q : Nat} {A : Nat → Nat → Int32} {B : Nat → Int32} (hA : AcS G h A B) (hb1 : B 1 = 0) : mj_con G MX0_undoLatest d 0 0 [.ref (G.1 + 18), .ref (G.1 + q)] h (rI 0 h) := by
  refine mj_conV okX0_undoLatest (ls := [some (.ref (G.1 + 18)), some (.ref (G.1 + q))]) rfl rfl ?_
  have c18 := hA.1
  refine s_aload_n (n := 1) (i := 0) dX0_undoLatest_0 rfl rfl rfl ?_
  refine gf_X0_26 (n := 4) rfl dX0_undoLatest_1 rfl (by assumption) (by rfl) ?_
  refine s_if_ne (n := 7) (tgt := 9) dX0_undoLatest_4 rfl rfl (fun b4 => ?_) (fun b4 => ?_)
  · exact absurd hb1 b4
  · refine s_iconst (n := 8) (v := 0) dX0_undoLatest_7 rfl (by decide) ?_
    refine s_ireturn dX0_undoLatest_8 rfl (rfl) (Nat.le_refl _) (Nat.le_refl _) ?_
    exact rI_ok rfl
set_option maxRecDepth 100000 in
set_option maxHeartbeats 4000000 in
theorem c_undo {G : mj_G} {h : mj_H} {d : Nat} {q a k : Nat} {T : Nat → Int32} {A : Nat → Nat → Int32} {B : Nat → Int32} (hA : AcS G h A B) (hN : mj_St G h q T) (hq : q + 7 ≤ 18 ∨ 188 ≤ q) (hb0 : B 0 = nI a) (ha : a < 24) (hb1 : B 1 = nI (k + 1)) (hk : k < 24) (hd : 3 ≤ d) : mj_con G MX0_undoLatest d 0 0 [.ref (G.1 + 18), .ref (G.1 + q)] h (fun v h' => v = some (.int 1) ∧ ∃ h1, AcS G h1 A (upd (upd B 0 (nI ((a + 23) % 24))) 1 (nI k)) ∧ mj_fr 18 170 h h1 ∧ mj_St G h' q (A ((a + 23) % 24)) ∧ mj_fr q 7 h1 h') := by
  refine mj_conV okX0_undoLatest (ls := [some (.ref (G.1 + 18)), some (.ref (G.1 + q))]) rfl rfl ?_
  have c18 := hA.1
  have c19 := hA.2.1
  refine s_aload_n (n := 1) (i := 0) dX0_undoLatest_0 rfl rfl rfl ?_
  refine gf_X0_26 (n := 4) rfl dX0_undoLatest_1 rfl (by assumption) (by rfl) ?_
  refine s_if_ne (n := 7) (tgt := 9) dX0_undoLatest_4 rfl rfl (fun b4 => ?_) (fun b4 => ?_)
  · refine s_aload_n (n := 10) (i := 0) dX0_undoLatest_9 rfl rfl rfl ?_
    refine s_aload_n (n := 11) (i := 0) dX0_undoLatest_10 rfl rfl rfl ?_
    refine gf_X0_18 (n := 14) rfl dX0_undoLatest_11 rfl (by assumption) (by rfl) ?_
    refine s_bipush (n := 16) (v := 24) dX0_undoLatest_14 rfl (by decide) ?_
    refine s_iadd (n := 17) dX0_undoLatest_16 rfl ?_
    rw [hb0, show nI a + 24 = nI (a + 23 + 1) from nI_add a 24]
    refine s_iconst (n := 18) (v := 1) dX0_undoLatest_17 rfl (by decide) ?_
    refine s_isub (n := 19) dX0_undoLatest_18 rfl ?_
    rw [nI_pred]
    refine s_bipush (n := 21) (v := 24) dX0_undoLatest_19 rfl (by decide) ?_
    refine s_irem (n := 22) dX0_undoLatest_21 rfl (by first | assumption | decide) ?_
    rw [mod24 (by omega)]
    refine pf_X0_18 (n := 25) (fs' := [_, _, _]) rfl dX0_undoLatest_22 rfl (by assumption) (by rfl) (by rfl) ?_
    refine AcS_put hA (fun h2 hA2 hF2 => ?_)
    have c18 := hA2.1
    have c19 := hA2.2.1
    refine s_aload_n (n := 26) (i := 0) dX0_undoLatest_25 rfl rfl rfl ?_
    refine s_dup (n := 27) dX0_undoLatest_26 rfl rfl ?_
    refine gf_X0_26 (n := 30) rfl dX0_undoLatest_27 rfl (by assumption) (by rfl) ?_
    refine s_iconst (n := 31) (v := 1) dX0_undoLatest_30 rfl (by decide) ?_
    rw [show upd (upd B 0 (nI ((a + 23) % 24))) 1 (B 1) 1 = nI (k + 1) from hb1]
    refine s_isub (n := 32) dX0_undoLatest_31 rfl ?_
    rw [nI_pred]
    refine pf_X0_26 (n := 35) (fs' := [_, _, _]) rfl dX0_undoLatest_32 rfl (by assumption) (by rfl) (by rfl) ?_
    refine AcS_put hA2 (fun h3 hA3 hF3 => ?_)
    have c18 := hA3.1
    have c19 := hA3.2.1
    have hN3 := St_fr (fr_tr hF2 hF3) (by omega) hN
    have n0 := hN3.1
    refine s_aload_n (n := 36) (i := 1) dX0_undoLatest_35 rfl rfl rfl ?_
    refine s_aload_n (n := 37) (i := 0) dX0_undoLatest_36 rfl rfl rfl ?_
    refine gf_X0_11 (n := 40) rfl dX0_undoLatest_37 rfl (by assumption) (by rfl) ?_
    refine s_aload_n (n := 41) (i := 0) dX0_undoLatest_40 rfl rfl rfl ?_
    refine gf_X0_18 (n := 44) rfl dX0_undoLatest_41 rfl (by assumption) (by rfl) ?_
    rw [show upd (upd (upd (upd B 0 (nI ((a + 23) % 24))) 1 (B 1)) 0 (upd (upd B 0 (nI ((a + 23) % 24))) 1 (B 1) 0)) 1 (nI k) 0 = nI ((a + 23) % 24) from rfl]
    refine s_aald (n := 45) (t := 3) (C0 := RX2) dX0_undoLatest_44 rfl rfl (by assumption) (mj_ixn (by omega)) (ringA_at (by omega)) ?_
    refine s_v1 (M' := MX2_takeFrom) (n := 48) (ci := 2) dX0_undoLatest_45 rfl wd_X0_22 okX2_takeFrom rfl rfl (by omega) ⟨Nat.le_refl _, Nat.le_refl _⟩ (by assumption) (c_takeFrom (d := d - 1) hN3 (hA3.2.2 ((a + 23) % 24) (by omega)) (by omega) (by omega)) ?_
    rintro v45 hh45 ⟨rfl, hS4, hF4⟩
    refine s_iconst (n := 49) (v := 1) dX0_undoLatest_48 rfl (by decide) ?_
    refine s_ireturn dX0_undoLatest_49 rfl (rfl) (Nat.le_refl _) (Nat.le_refl _) ?_
    exact ⟨rfl, h3, AcS_congr rfl rfl hA3, fr_tr hF2 hF3, hS4, hF4⟩
  · rw [hb1] at b4
    exact absurd ((nI_z (by omega)).mp b4) (by omega)
set_option maxRecDepth 100000 in
set_option maxHeartbeats 4000000 in
theorem c_forgetAll {G : mj_G} {h : mj_H} {d : Nat} {A : Nat → Nat → Int32} {B : Nat → Int32} (hA : AcS G h A B) : mj_con G MX0_forgetAll d 0 0 [.ref (G.1 + 18)] h (fun v h' => v = none ∧ AcS G h' A (upd (upd B 0 (B 0)) 1 0) ∧ mj_fr 18 170 h h') := by
  refine mj_conV okX0_forgetAll (ls := [some (.ref (G.1 + 18))]) rfl rfl ?_
  have c18 := hA.1
  refine s_aload_n (n := 1) (i := 0) dX0_forgetAll_0 rfl rfl rfl ?_
  refine s_iconst (n := 2) (v := 0) dX0_forgetAll_1 rfl (by decide) ?_
  refine pf_X0_26 (n := 5) (fs' := [_, _, _]) rfl dX0_forgetAll_2 rfl (by assumption) (by rfl) (by rfl) ?_
  refine AcS_put hA (fun h2 hA2 hF2 => ?_)
  have c18 := hA2.1
  have c19 := hA2.2.1
  refine s_return dX0_forgetAll_5 rfl (Nat.le_refl _) (Nat.le_refl _) ?_
  exact ⟨rfl, hA2, hF2⟩
/-! the whole class: rows of sg: 0 now, 1 foreseen, 2 .. 25 acts, 26 27 images, 28 next kept, 29 lanes, 30 sizes, 31 tape, 32 its fields, 33 trace, 34 .. 41 items, 42 traced, latest fault, latest finding -/
def rowA (G : mj_G) : Nat → Option Nat := fun i => if i < 8 then some (G.1 + (190 + 2 * i)) else none
theorem rowA_at {G : mj_G} {i : Nat} (h : i < 8) : rowA G i = some (G.1 + (190 + 2 * i)) := if_pos h
def imgA (G : mj_G) : Nat → Option Nat := fun i => if i < 2 then some (G.1 + (206 + 7 * i)) else none
theorem imgA_at {G : mj_G} {i : Nat} (h : i < 2) : imgA G i = some (G.1 + (206 + 7 * i)) := if_pos h
def TpS (G : mj_G) (h : mj_H) (f g : Nat → Int32) : Prop := h.2 2 = mj_ob 3 [.ref (G.1 + 3), .int (g 0), .int (g 1), .int (g 2), .int (g 3), .int (g 4), .int (g 5), .int (g 6)] ∧ h.2 3 = mj_ar 0 120 f
abbrev XO (G : mj_G) (x : Nat → Int32) : mj_E := mj_ob 4 [.ref (G.1 + 1), .ref (G.1 + 2), .ref (G.1 + 4), .ref (G.1 + 11), .ref (G.1 + 18), .ref (G.1 + 188), .ref (G.1 + 189), .int (x 0), .int (x 1), .int (x 2)]
def XS (G : mj_G) (h : mj_H) (σ : Nat → Nat → Int32) : Prop :=
  h.2 0 = XO G (σ 42) ∧ h.2 1 = mj_ra 2 8 (rowA G) ∧ TpS G h (σ 31) (σ 32) ∧ mj_St G h 4 (σ 0) ∧ mj_St G h 11 (σ 1) ∧ AcS G h (fun i => σ (2 + i)) (σ 28) ∧
  h.2 188 = mj_ra 3 2 (imgA G) ∧ h.2 189 = mj_ar 0 16 (σ 33) ∧ (∀ r, r < 8 → mj_Rw G h (190 + 2 * r) (σ 29 r) (σ 30 r) (σ (34 + r))) ∧ ∀ k, k < 2 → mj_St G h (206 + 7 * k) (σ (26 + k))
theorem TpS_fr {G : mj_G} {p w : Nat} {h h' : mj_H} {f g : Nat → Int32} (a : mj_fr p w h h') (hq : 4 ≤ p ∨ p + w ≤ 2) (hS : TpS G h f g) : TpS G h' f g := ⟨fr_get a (by omega) hS.1, fr_get a (by omega) hS.2⟩
theorem XS_now {G : mj_G} {h h' : mj_H} {σ : Nat → Nat → Int32} {T : Nat → Int32} (hX : XS G h σ) (h1 : mj_St G h' 4 T) (hF : mj_fr 4 7 h h') : XS G h' (u2 σ 0 T) := by
  obtain ⟨x0, x1, xt, xn, xf, xa, x188, x189, xr, xi⟩ := hX
  have o : ∀ j, j ≠ 0 → u2 σ 0 T j = σ j := fun j a => u2_ne a
  refine ⟨fr_get hF (by omega) x0, fr_get hF (by omega) x1, TpS_fr hF (by omega) xt, h1, St_fr hF (by omega) xf, ?_, fr_get hF (by omega) x188, fr_get hF (by omega) x189, fun r hr => ?_, fun k hk => ?_⟩
  · have := AcS_fr hF (by omega) xa
    refine ⟨this.1, this.2.1, fun i hi => ?_⟩
    show mj_St G h' _ (u2 σ 0 T (2 + i))
    rw [o _ (by omega)]
    exact this.2.2 i hi
  · rw [o _ (by omega), o _ (by omega), o _ (by omega)]
    exact Rw_fr hF (by omega) (xr r hr)
  · rw [o _ (by omega)]
    exact St_fr hF (by omega) (xi k hk)
theorem XS_for {G : mj_G} {h h' : mj_H} {σ : Nat → Nat → Int32} {T : Nat → Int32} (hX : XS G h σ) (h1 : mj_St G h' 11 T) (hF : mj_fr 11 7 h h') : XS G h' (u2 σ 1 T) := by
  obtain ⟨x0, x1, xt, xn, xf, xa, x188, x189, xr, xi⟩ := hX
  have o : ∀ j, j ≠ 1 → u2 σ 1 T j = σ j := fun j a => u2_ne a
  refine ⟨fr_get hF (by omega) x0, fr_get hF (by omega) x1, TpS_fr hF (by omega) xt, St_fr hF (by omega) xn, h1, ?_, fr_get hF (by omega) x188, fr_get hF (by omega) x189, fun r hr => ?_, fun k hk => ?_⟩
  · have := AcS_fr hF (by omega) xa
    refine ⟨this.1, this.2.1, fun i hi => ?_⟩
    show mj_St G h' _ (u2 σ 1 T (2 + i))
    rw [o _ (by omega)]
    exact this.2.2 i hi
  · rw [o _ (by omega), o _ (by omega), o _ (by omega)]
    exact Rw_fr hF (by omega) (xr r hr)
  · rw [o _ (by omega)]
    exact St_fr hF (by omega) (xi k hk)
/-- the acts are others -/
def uA (σ : Nat → Nat → Int32) (A : Nat → Nat → Int32) (B : Nat → Int32) : Nat → Nat → Int32 := fun j => if j = 28 then B else if 2 ≤ j ∧ j < 26 then A (j - 2) else σ j
theorem uA_o {σ A : Nat → Nat → Int32} {B : Nat → Int32} {j : Nat} (h : j ≠ 28) (h2 : j < 2 ∨ 26 ≤ j) : uA σ A B j = σ j := by
  unfold uA
  rw [if_neg h, if_neg (by omega)]
theorem uA_a {σ A : Nat → Nat → Int32} {B : Nat → Int32} {j : Nat} (h : j < 24) : uA σ A B (2 + j) = A j := by
  unfold uA
  rw [if_neg (by omega), if_pos (by omega), Nat.add_sub_cancel_left]
theorem XS_acts {G : mj_G} {h h' : mj_H} {σ : Nat → Nat → Int32} {A : Nat → Nat → Int32} {B : Nat → Int32} (hX : XS G h σ) (h1 : AcS G h' A B) (hF : mj_fr 18 170 h h') : XS G h' (uA σ A B) := by
  obtain ⟨x0, x1, xt, xn, xf, xa, x188, x189, xr, xi⟩ := hX
  refine ⟨fr_get hF (by omega) x0, fr_get hF (by omega) x1, TpS_fr hF (by omega) xt, St_fr hF (by omega) xn, St_fr hF (by omega) xf, ?_, fr_get hF (by omega) x188, fr_get hF (by omega) x189, fun r hr => ?_, fun k hk => ?_⟩
  · refine ⟨h1.1, h1.2.1, fun i hi => ?_⟩
    show mj_St G h' (20 + 7 * i) (uA σ A B (2 + i))
    rw [uA_a hi]
    exact h1.2.2 i hi
  · rw [uA_o (by omega) (by omega), uA_o (by omega) (by omega), uA_o (by omega) (by omega)]
    exact Rw_fr hF (by omega) (xr r hr)
  · rw [uA_o (by omega) (by omega)]
    exact St_fr hF (by omega) (xi k hk)
theorem XS_img {G : mj_G} {h h' : mj_H} {σ : Nat → Nat → Int32} {T : Nat → Int32} {a : Nat} (ha : a < 2) (hX : XS G h σ) (h1 : mj_St G h' (206 + 7 * a) T) (hF : mj_fr (206 + 7 * a) 7 h h') : XS G h' (u2 σ (26 + a) T) := by
  obtain ⟨x0, x1, xt, xn, xf, xa, x188, x189, xr, xi⟩ := hX
  refine ⟨by rw [u2_ne (by omega)]; exact fr_get hF (by omega) x0, fr_get hF (by omega) x1, by rw [u2_ne (by omega), u2_ne (by omega)]; exact TpS_fr hF (by omega) xt, by rw [u2_ne (by omega)]; exact St_fr hF (by omega) xn, by rw [u2_ne (by omega)]; exact St_fr hF (by omega) xf, ?_, fr_get hF (by omega) x188, by rw [u2_ne (by omega)]; exact fr_get hF (by omega) x189, fun r hr => ?_, fun k hk => ?_⟩
  · rw [u2_ne (by omega)]
    have := AcS_fr hF (by omega) xa
    refine ⟨this.1, this.2.1, fun i hi => ?_⟩
    show mj_St G h' _ (u2 σ (26 + a) T (2 + i))
    rw [u2_ne (by omega)]
    exact this.2.2 i hi
  · rw [u2_ne (by omega), u2_ne (by omega), u2_ne (by omega)]
    exact Rw_fr hF (by omega) (xr r hr)
  · by_cases e : k = a
    · subst e
      rw [u2_eq]
      exact h1
    · rw [u2_ne (by omega)]
      exact St_fr hF (by omega) (xi k hk)
/-- a row is another -/
def uR (σ : Nat → Nat → Int32) (r : Nat) (l s : Int32) (f : Nat → Int32) : Nat → Nat → Int32 := u2 (u2 (u2 σ 29 (upd (σ 29) r l)) 30 (upd (σ 30) r s)) (34 + r) f
theorem uR_o {σ : Nat → Nat → Int32} {r j : Nat} {l s : Int32} {f : Nat → Int32} (h1 : j ≠ 29) (h2 : j ≠ 30) (h3 : j ≠ 34 + r) : uR σ r l s f j = σ j := by
  unfold uR
  rw [u2_ne h3, u2_ne h2, u2_ne h1]
theorem XS_row {G : mj_G} {h h' : mj_H} {σ : Nat → Nat → Int32} {f : Nat → Int32} {l s : Int32} {a : Nat} (ha : a < 8) (hX : XS G h σ) (h1 : mj_Rw G h' (190 + 2 * a) l s f) (hF : mj_fr (190 + 2 * a) 2 h h') : XS G h' (uR σ a l s f) := by
  obtain ⟨x0, x1, xt, xn, xf, xa, x188, x189, xr, xi⟩ := hX
  refine ⟨by rw [uR_o (by omega) (by omega) (by omega)]; exact fr_get hF (by omega) x0, fr_get hF (by omega) x1, by rw [uR_o (by omega) (by omega) (by omega), uR_o (by omega) (by omega) (by omega)]; exact TpS_fr hF (by omega) xt, by rw [uR_o (by omega) (by omega) (by omega)]; exact St_fr hF (by omega) xn, by rw [uR_o (by omega) (by omega) (by omega)]; exact St_fr hF (by omega) xf, ?_, fr_get hF (by omega) x188, by rw [uR_o (by omega) (by omega) (by omega)]; exact fr_get hF (by omega) x189, fun r hr => ?_, fun k hk => ?_⟩
  · rw [uR_o (by omega) (by omega) (by omega)]
    have := AcS_fr hF (by omega) xa
    refine ⟨this.1, this.2.1, fun i hi => ?_⟩
    show mj_St G h' _ (uR σ a l s f (2 + i))
    rw [uR_o (by omega) (by omega) (by omega)]
    exact this.2.2 i hi
  · have e29 : uR σ a l s f 29 r = upd (σ 29) a l r := by
      unfold uR
      rw [u2_ne (by omega), u2_ne (by omega), u2_eq]
    have e30 : uR σ a l s f 30 r = upd (σ 30) a s r := by
      unfold uR
      rw [u2_ne (by omega), u2_eq]
    rw [e29, e30]
    by_cases e : r = a
    · subst e
      rw [up_eq, up_eq]
      unfold uR
      rw [u2_eq]
      exact h1
    · rw [up_ne e, up_ne e, uR_o (by omega) (by omega) (by omega)]
      exact Rw_fr hF (by omega) (xr r hr)
  · rw [uR_o (by omega) (by omega) (by omega)]
    exact St_fr hF (by omega) (xi k hk)
theorem XS_tape {G : mj_G} {h h' : mj_H} {σ : Nat → Nat → Int32} {f g : Nat → Int32} (hX : XS G h σ) (h1 : TpS G h' f g) (hF : mj_fr 2 2 h h') : XS G h' (u2 (u2 σ 31 f) 32 g) := by
  obtain ⟨x0, x1, xt, xn, xf, xa, x188, x189, xr, xi⟩ := hX
  have o : ∀ j, j ≠ 31 → j ≠ 32 → u2 (u2 σ 31 f) 32 g j = σ j := fun j a b => by rw [u2_ne b, u2_ne a]
  refine ⟨fr_get hF (by omega) x0, fr_get hF (by omega) x1, h1, St_fr hF (by omega) xn, St_fr hF (by omega) xf, ?_, fr_get hF (by omega) x188, fr_get hF (by omega) x189, fun r hr => ?_, fun k hk => ?_⟩
  · have := AcS_fr hF (by omega) xa
    refine ⟨this.1, this.2.1, fun i hi => ?_⟩
    show mj_St G h' _ (u2 (u2 σ 31 f) 32 g (2 + i))
    rw [o _ (by omega) (by omega)]
    exact this.2.2 i hi
  · rw [o _ (by omega) (by omega), o _ (by omega) (by omega), o _ (by omega) (by omega)]
    exact Rw_fr hF (by omega) (xr r hr)
  · rw [o _ (by omega) (by omega)]
    exact St_fr hF (by omega) (xi k hk)
/-- the object's own numbers, or the trace, are others -/
theorem XS_own {G : mj_G} {h h' : mj_H} {σ : Nat → Nat → Int32} {x t : Nat → Int32} (hX : XS G h σ) (h0 : h'.2 0 = XO G x) (h1 : h'.2 189 = mj_ar 0 16 t) (ho : ∀ j, j ≠ 0 → j ≠ 189 → h'.2 j = h.2 j) : XS G h' (u2 (u2 σ 33 t) 42 x) := by
  obtain ⟨x0, x1, xt, xn, xf, xa, x188, x189, xr, xi⟩ := hX
  have o : ∀ j, j ≠ 33 → j ≠ 42 → u2 (u2 σ 33 t) 42 x j = σ j := fun j a b => by rw [u2_ne b, u2_ne a]
  have st : ∀ (q : Nat) (T : Nat → Int32), (1 ≤ q ∧ q + 7 ≤ 189) ∨ 190 ≤ q → mj_St G h q T → mj_St G h' q T := by
    intro q T hq hS
    obtain ⟨c0, c1, c2, c3, c4, c5, c6⟩ := hS
    exact ⟨(ho _ (by omega) (by omega)).trans c0, (ho _ (by omega) (by omega)).trans c1, (ho _ (by omega) (by omega)).trans c2, (ho _ (by omega) (by omega)).trans c3, (ho _ (by omega) (by omega)).trans c4, (ho _ (by omega) (by omega)).trans c5, (ho _ (by omega) (by omega)).trans c6⟩
  refine ⟨h0, (ho _ (by omega) (by omega)).trans x1, ⟨(ho _ (by omega) (by omega)).trans xt.1, (ho _ (by omega) (by omega)).trans xt.2⟩, st 4 _ (by omega) xn, st 11 _ (by omega) xf, ?_, (ho _ (by omega) (by omega)).trans x188, h1, fun r hr => ?_, fun k hk => ?_⟩
  · refine ⟨(ho _ (by omega) (by omega)).trans xa.1, (ho _ (by omega) (by omega)).trans xa.2.1, fun i hi => ?_⟩
    show mj_St G h' _ (u2 (u2 σ 33 t) 42 x (2 + i))
    rw [o _ (by omega) (by omega)]
    exact st _ _ (by omega) (xa.2.2 i hi)
  · rw [o _ (by omega) (by omega), o _ (by omega) (by omega), o _ (by omega) (by omega)]
    exact ⟨(ho _ (by omega) (by omega)).trans (xr r hr).1, (ho _ (by omega) (by omega)).trans (xr r hr).2⟩
  · rw [o _ (by omega) (by omega)]
    exact st _ _ (by omega) (xi k hk)
