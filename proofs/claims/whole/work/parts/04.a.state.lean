/-! a street is a function of 48 places (0 STEP, 1 PLANK, 2 HOUSES, 3 MINUTE, 4 HUSHED, 5 POND, 6 + h KIND, 13 + h TALK, 20 + h KEEPS, 27 + h BARS, 34 + h gutter, 41 + h CAUGHT) -/
def sl (T : Nat → Int32) (o : Nat) : Nat → Int32 := fun i => if i < 7 then T (o + i) else 0
theorem sl_at {T : Nat → Int32} {o j : Nat} (h : j < 7) : sl T o j = T (o + j) := if_pos h
theorem up_eq {f : Nat → Int32} {k : Nat} {x : Int32} : upd f k x k = x := pk_us
theorem up_ne {f : Nat → Int32} {k j : Nat} {x : Int32} (h : j ≠ k) : upd f k x j = f j := pk_un h
theorem up_if {f : Nat → Int32} {k j : Nat} {x : Int32} : upd f k x j = if j = k then x else f j := by
  by_cases h : j = k
  · rw [if_pos h, h, up_eq]
  · rw [if_neg h, up_ne h]
theorem sl_up {T : Nat → Int32} {o j : Nat} {x : Int32} (h : j < 7) : upd (sl T o) j x = sl (upd T (o + j) x) o := by
  funext i
  unfold sl
  rw [up_if]
  by_cases hi : i = j
  · subst hi
    rw [if_pos rfl, if_pos h, up_eq]
  · rw [if_neg hi]
    by_cases h7 : i < 7
    · rw [if_pos h7, if_pos h7, up_ne (by omega)]
    · rw [if_neg h7, if_neg h7]
theorem sl_of {T : Nat → Int32} {o k : Nat} {x : Int32} (h : k < o ∨ o + 7 ≤ k) : sl (upd T k x) o = sl T o := by
  funext i
  unfold sl
  by_cases h7 : i < 7
  · rw [if_pos h7, if_pos h7, up_ne (by omega)]
  · rw [if_neg h7, if_neg h7]
theorem sl_congr {T T' : Nat → Int32} {o : Nat} (h : ∀ k, o ≤ k → k < o + 7 → T k = T' k) : sl T o = sl T' o := by
  funext i
  unfold sl
  by_cases h7 : i < 7
  · rw [if_pos h7, if_pos h7, h _ (by omega) (by omega)]
  · rw [if_neg h7, if_neg h7]
abbrev mj_sf (G : mj_G) (p : Nat) (T : Nat → Int32) : List Value := [.ref (G.1 + (p + 1)), .ref (G.1 + (p + 2)), .ref (G.1 + (p + 3)), .ref (G.1 + (p + 4)), .ref (G.1 + (p + 5)), .ref (G.1 + (p + 6)), .int (T 0), .int (T 1), .int (T 2), .int (T 3), .int (T 5), .int (T 4)]
def mj_St (G : mj_G) (h : mj_H) (p : Nat) (T : Nat → Int32) : Prop :=
  h.2 p = mj_ob 2 (mj_sf G p T) ∧ h.2 (p + 1) = mj_ar 0 7 (sl T 6) ∧ h.2 (p + 2) = mj_ar 0 7 (sl T 13) ∧ h.2 (p + 3) = mj_ar 0 7 (sl T 20) ∧ h.2 (p + 4) = mj_ar 0 7 (sl T 27) ∧ h.2 (p + 5) = mj_ar 0 7 (sl T 34) ∧ h.2 (p + 6) = mj_ar 0 7 (sl T 41)
/-- nothing but places p .. p + w has changed -/
def mj_fr (p w : Nat) (h h' : mj_H) : Prop := h'.1 = h.1 ∧ ∀ j, (j < p ∨ p + w ≤ j) → h'.2 j = h.2 j
theorem fr_rf {p w : Nat} {h : mj_H} : mj_fr p w h h := ⟨rfl, fun _ _ => rfl⟩
theorem fr_tr {p w : Nat} {h h1 h2 : mj_H} (a : mj_fr p w h h1) (b : mj_fr p w h1 h2) : mj_fr p w h h2 := ⟨b.1.trans a.1, fun j q => (b.2 j q).trans (a.2 j q)⟩
theorem fr_up {p w k : Nat} {h : mj_H} {e : mj_E} (h1 : p ≤ k) (h2 : k < p + w) : mj_fr p w h (mj_up h k e) := ⟨rfl, fun j q => if_neg (by omega)⟩
theorem fr_wid {p w p' w' : Nat} {h h' : mj_H} (a : mj_fr p w h h') (h1 : p' ≤ p) (h2 : p + w ≤ p' + w') : mj_fr p' w' h h' := ⟨a.1, fun j q => a.2 j (by omega)⟩
theorem fr_get {p w j : Nat} {h h' : mj_H} {e : mj_E} (a : mj_fr p w h h') (hj : j < p ∨ p + w ≤ j) (he : h.2 j = e) : h'.2 j = e := (a.2 j hj).trans he
theorem St_fr {G : mj_G} {p w q : Nat} {h h' : mj_H} {T : Nat → Int32} (a : mj_fr p w h h') (hq : q + 7 ≤ p ∨ p + w ≤ q) (hS : mj_St G h q T) : mj_St G h' q T := by
  obtain ⟨c0, c1, c2, c3, c4, c5, c6⟩ := hS
  exact ⟨fr_get a (by omega) c0, fr_get a (by omega) c1, fr_get a (by omega) c2, fr_get a (by omega) c3, fr_get a (by omega) c4, fr_get a (by omega) c5, fr_get a (by omega) c6⟩
theorem St_congr {G : mj_G} {p : Nat} {h : mj_H} {T T' : Nat → Int32} (e : ∀ k, k < 48 → T k = T' k) (hS : mj_St G h p T) : mj_St G h p T' := by
  unfold mj_St mj_sf at *
  rw [← e 0 (by omega), ← e 1 (by omega), ← e 2 (by omega), ← e 3 (by omega), ← e 4 (by omega), ← e 5 (by omega), ← sl_congr (o := 6) (fun k a b => e k (by omega)), ← sl_congr (o := 13) (fun k a b => e k (by omega)), ← sl_congr (o := 20) (fun k a b => e k (by omega)), ← sl_congr (o := 27) (fun k a b => e k (by omega)), ← sl_congr (o := 34) (fun k a b => e k (by omega)), ← sl_congr (o := 41) (fun k a b => e k (by omega))]
  exact hS
/-- a scalar of the street is another -/
theorem St_obj {G : mj_G} {p k : Nat} {h : mj_H} {T : Nat → Int32} {x : Int32} (hk : k < 6) (hS : mj_St G h p T) : mj_St G (mj_up h p (mj_ob 2 (mj_sf G p (upd T k x)))) p (upd T k x) := by
  obtain ⟨c0, c1, c2, c3, c4, c5, c6⟩ := hS
  refine ⟨mj_ue, mj_un (by omega) ?_, mj_un (by omega) ?_, mj_un (by omega) ?_, mj_un (by omega) ?_, mj_un (by omega) ?_, mj_un (by omega) ?_⟩
  · rw [sl_of (by omega)]; exact c1
  · rw [sl_of (by omega)]; exact c2
  · rw [sl_of (by omega)]; exact c3
  · rw [sl_of (by omega)]; exact c4
  · rw [sl_of (by omega)]; exact c5
  · rw [sl_of (by omega)]; exact c6
theorem St_arr {G : mj_G} {p a o j : Nat} {h : mj_H} {T : Nat → Int32} {x : Int32} (ha : a < 6) (ho : o = 6 + 7 * a) (hj : j < 7) (hS : mj_St G h p T) : mj_St G (mj_up h (p + (a + 1)) (mj_ar 0 7 (upd (sl T o) j x))) p (upd T (o + j) x) := by
  obtain ⟨c0, c1, c2, c3, c4, c5, c6⟩ := hS
  have e0 : mj_sf G p (upd T (o + j) x) = mj_sf G p T := by
    unfold mj_sf
    rw [up_ne (by omega), up_ne (by omega), up_ne (by omega), up_ne (by omega), up_ne (by omega), up_ne (by omega)]
  have key : ∀ (b : Nat), b < 6 → h.2 (p + (b + 1)) = mj_ar 0 7 (sl T (6 + 7 * b)) → (mj_up h (p + (a + 1)) (mj_ar 0 7 (upd (sl T o) j x))).2 (p + (b + 1)) = mj_ar 0 7 (sl (upd T (o + j) x) (6 + 7 * b)) := by
    intro b hb hc
    by_cases hab : b = a
    · subst hab
      rw [mj_ue, sl_up hj, ho]
    · rw [mj_un (by omega) hc, sl_of (by omega)]
  exact ⟨by rw [e0]; exact mj_un (by omega) c0, key 0 (by omega) c1, key 1 (by omega) c2, key 2 (by omega) c3, key 3 (by omega) c4, key 4 (by omega) c5, key 5 (by omega) c6⟩
section STW
variable {G : mj_G} {M : mj_M} {d kc ks pc n : Nat} {ls : List (Option Value)} {st : List Value} {h : mj_H} {uc us : Nat} {Q : Option Value → mj_H → Prop}
theorem mj_ixa {c : Int32} {o j n : Nat} (hc : c = nI o) (h : o + j < n ∧ n < 2147483648) : mj_ix (c + nI j) n (o + j) := by
  subst hc
  rw [nI_add]
  exact mj_ixn h
theorem s_ials {a j o : Nat} {T : Nat → Int32} {i : Int32} (hd : decode M.2.1 pc = .ok (.iaload, 1)) (hn : pc + 1 = n) (hc : h.2 a = mj_ar 0 7 (sl T o)) (hi : mj_ix i 7 j) (k : mj_wp G M d kc ks n ls (.int (T (o + j)) :: st) h uc us Q) : mj_wp G M d kc ks pc ls (.int i :: .ref (G.1 + a) :: st) h uc us Q := by
  refine s_iald hd hn hc hi ?_
  have hj : j < 7 := by
    rw [← hi.2]
    exact Nat.not_le.mp fun q => hi.1 (Or.inr q)
  rw [sl_at hj]
  exact k
theorem St_put_step {p : Nat} {T : Nat → Int32} {x : Int32} (hS : mj_St G h p T) (k : ∀ h', mj_St G h' p (upd T 0 x) → mj_fr p 7 h h' → mj_wp G M d kc ks pc ls st h' uc us Q) : mj_wp G M d kc ks pc ls st (mj_up h p (mj_ob 2 [.ref (G.1 + (p + 1)), .ref (G.1 + (p + 2)), .ref (G.1 + (p + 3)), .ref (G.1 + (p + 4)), .ref (G.1 + (p + 5)), .ref (G.1 + (p + 6)), .int x, .int (T 1), .int (T 2), .int (T 3), .int (T 5), .int (T 4)])) uc us Q := k _ (St_obj (k := 0) (x := x) (by omega) hS) (fr_up (by omega) (by omega))
theorem St_put_plank {p : Nat} {T : Nat → Int32} {x : Int32} (hS : mj_St G h p T) (k : ∀ h', mj_St G h' p (upd T 1 x) → mj_fr p 7 h h' → mj_wp G M d kc ks pc ls st h' uc us Q) : mj_wp G M d kc ks pc ls st (mj_up h p (mj_ob 2 [.ref (G.1 + (p + 1)), .ref (G.1 + (p + 2)), .ref (G.1 + (p + 3)), .ref (G.1 + (p + 4)), .ref (G.1 + (p + 5)), .ref (G.1 + (p + 6)), .int (T 0), .int x, .int (T 2), .int (T 3), .int (T 5), .int (T 4)])) uc us Q := k _ (St_obj (k := 1) (x := x) (by omega) hS) (fr_up (by omega) (by omega))
theorem St_put_houses {p : Nat} {T : Nat → Int32} {x : Int32} (hS : mj_St G h p T) (k : ∀ h', mj_St G h' p (upd T 2 x) → mj_fr p 7 h h' → mj_wp G M d kc ks pc ls st h' uc us Q) : mj_wp G M d kc ks pc ls st (mj_up h p (mj_ob 2 [.ref (G.1 + (p + 1)), .ref (G.1 + (p + 2)), .ref (G.1 + (p + 3)), .ref (G.1 + (p + 4)), .ref (G.1 + (p + 5)), .ref (G.1 + (p + 6)), .int (T 0), .int (T 1), .int x, .int (T 3), .int (T 5), .int (T 4)])) uc us Q := k _ (St_obj (k := 2) (x := x) (by omega) hS) (fr_up (by omega) (by omega))
theorem St_put_minute {p : Nat} {T : Nat → Int32} {x : Int32} (hS : mj_St G h p T) (k : ∀ h', mj_St G h' p (upd T 3 x) → mj_fr p 7 h h' → mj_wp G M d kc ks pc ls st h' uc us Q) : mj_wp G M d kc ks pc ls st (mj_up h p (mj_ob 2 [.ref (G.1 + (p + 1)), .ref (G.1 + (p + 2)), .ref (G.1 + (p + 3)), .ref (G.1 + (p + 4)), .ref (G.1 + (p + 5)), .ref (G.1 + (p + 6)), .int (T 0), .int (T 1), .int (T 2), .int x, .int (T 5), .int (T 4)])) uc us Q := k _ (St_obj (k := 3) (x := x) (by omega) hS) (fr_up (by omega) (by omega))
theorem St_put_pond {p : Nat} {T : Nat → Int32} {x : Int32} (hS : mj_St G h p T) (k : ∀ h', mj_St G h' p (upd T 5 x) → mj_fr p 7 h h' → mj_wp G M d kc ks pc ls st h' uc us Q) : mj_wp G M d kc ks pc ls st (mj_up h p (mj_ob 2 [.ref (G.1 + (p + 1)), .ref (G.1 + (p + 2)), .ref (G.1 + (p + 3)), .ref (G.1 + (p + 4)), .ref (G.1 + (p + 5)), .ref (G.1 + (p + 6)), .int (T 0), .int (T 1), .int (T 2), .int (T 3), .int x, .int (T 4)])) uc us Q := k _ (St_obj (k := 5) (x := x) (by omega) hS) (fr_up (by omega) (by omega))
theorem St_put_hushed {p : Nat} {T : Nat → Int32} {x : Int32} (hS : mj_St G h p T) (k : ∀ h', mj_St G h' p (upd T 4 x) → mj_fr p 7 h h' → mj_wp G M d kc ks pc ls st h' uc us Q) : mj_wp G M d kc ks pc ls st (mj_up h p (mj_ob 2 [.ref (G.1 + (p + 1)), .ref (G.1 + (p + 2)), .ref (G.1 + (p + 3)), .ref (G.1 + (p + 4)), .ref (G.1 + (p + 5)), .ref (G.1 + (p + 6)), .int (T 0), .int (T 1), .int (T 2), .int (T 3), .int (T 5), .int x])) uc us Q := k _ (St_obj (k := 4) (x := x) (by omega) hS) (fr_up (by omega) (by omega))
theorem St_put_kind {p j : Nat} {T : Nat → Int32} {x : Int32} (hj : j < 7) (hS : mj_St G h p T) (k : ∀ h', mj_St G h' p (upd T (6 + j) x) → mj_fr p 7 h h' → mj_wp G M d kc ks pc ls st h' uc us Q) : mj_wp G M d kc ks pc ls st (mj_up h (p + 1) (mj_ar 0 7 (upd (sl T 6) j x))) uc us Q := k _ (St_arr (a := 0) (x := x) (by omega) rfl hj hS) (fr_up (by omega) (by omega))
theorem St_put_talk {p j : Nat} {T : Nat → Int32} {x : Int32} (hj : j < 7) (hS : mj_St G h p T) (k : ∀ h', mj_St G h' p (upd T (13 + j) x) → mj_fr p 7 h h' → mj_wp G M d kc ks pc ls st h' uc us Q) : mj_wp G M d kc ks pc ls st (mj_up h (p + 2) (mj_ar 0 7 (upd (sl T 13) j x))) uc us Q := k _ (St_arr (a := 1) (x := x) (by omega) rfl hj hS) (fr_up (by omega) (by omega))
theorem St_put_keeps {p j : Nat} {T : Nat → Int32} {x : Int32} (hj : j < 7) (hS : mj_St G h p T) (k : ∀ h', mj_St G h' p (upd T (20 + j) x) → mj_fr p 7 h h' → mj_wp G M d kc ks pc ls st h' uc us Q) : mj_wp G M d kc ks pc ls st (mj_up h (p + 3) (mj_ar 0 7 (upd (sl T 20) j x))) uc us Q := k _ (St_arr (a := 2) (x := x) (by omega) rfl hj hS) (fr_up (by omega) (by omega))
theorem St_put_bars {p j : Nat} {T : Nat → Int32} {x : Int32} (hj : j < 7) (hS : mj_St G h p T) (k : ∀ h', mj_St G h' p (upd T (27 + j) x) → mj_fr p 7 h h' → mj_wp G M d kc ks pc ls st h' uc us Q) : mj_wp G M d kc ks pc ls st (mj_up h (p + 4) (mj_ar 0 7 (upd (sl T 27) j x))) uc us Q := k _ (St_arr (a := 3) (x := x) (by omega) rfl hj hS) (fr_up (by omega) (by omega))
theorem St_put_gutter {p j : Nat} {T : Nat → Int32} {x : Int32} (hj : j < 7) (hS : mj_St G h p T) (k : ∀ h', mj_St G h' p (upd T (34 + j) x) → mj_fr p 7 h h' → mj_wp G M d kc ks pc ls st h' uc us Q) : mj_wp G M d kc ks pc ls st (mj_up h (p + 5) (mj_ar 0 7 (upd (sl T 34) j x))) uc us Q := k _ (St_arr (a := 4) (x := x) (by omega) rfl hj hS) (fr_up (by omega) (by omega))
theorem St_put_caught {p j : Nat} {T : Nat → Int32} {x : Int32} (hj : j < 7) (hS : mj_St G h p T) (k : ∀ h', mj_St G h' p (upd T (41 + j) x) → mj_fr p 7 h h' → mj_wp G M d kc ks pc ls st h' uc us Q) : mj_wp G M d kc ks pc ls st (mj_up h (p + 6) (mj_ar 0 7 (upd (sl T 41) j x))) uc us Q := k _ (St_arr (a := 5) (x := x) (by omega) rfl hj hS) (fr_up (by omega) (by omega))
end STW
