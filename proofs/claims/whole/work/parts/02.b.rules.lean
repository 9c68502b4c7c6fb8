/-! from the judgement to a contract, and from a contract to the judgement -/
theorem mj_sl_get : ∀ (vs : List Value) (i : Nat) (v : Value), (vs.flatMap fun v => if v.category = 2 then [some v, none] else [some v])[i]? = some (some v) → (lg_sl vs)[i]? = some (.val v)
  | [], i, v, h => by simp at h
  | a :: vs, i, v, h => by
    unfold lg_sl
    simp only [List.flatMap_cons] at h ⊢
    by_cases hc : a.category = 2
    · simp only [hc, if_true, List.cons_append, List.nil_append] at h ⊢
      match i, h with
      | 0, h => simp at h; simp [h]
      | 1, h => simp at h
      | i + 2, h =>
        simp only [List.getElem?_cons_succ] at h ⊢
        exact mj_sl_get vs i v h
    · simp only [hc, if_false, List.cons_append, List.nil_append] at h ⊢
      match i, h with
      | 0, h => simp at h; simp [h]
      | i + 1, h =>
        simp only [List.getElem?_cons_succ] at h ⊢
        exact mj_sl_get vs i v h
theorem mj_sl_len : ∀ (vs : List Value), (vs.flatMap fun v => if v.category = 2 then [some v, none] else [some v]).length = (lg_sl vs).length
  | [] => rfl
  | a :: vs => by
    unfold lg_sl
    simp only [List.flatMap_cons, List.length_append]
    rw [mj_sl_len vs]
    unfold lg_sl
    by_cases hc : a.category = 2 <;> simp [hc]
theorem mj_ent_L {n : Nat} {As : List Value} (h : (lg_sl As).length ≤ n) : mj_L ((lg_sl As ++ List.replicate (n - (lg_sl As).length) Slot.unset).toArray) n (mj_ent n As) := by
  obtain ⟨h1, h2, -⟩ := lv_entry As h
  refine ⟨h1, h2, ?_, fun i v hi => ?_⟩
  · unfold mj_ent
    simp only [List.length_append, List.length_replicate, mj_sl_len]
    omega
  · unfold mj_ent at hi
    simp only at hi
    by_cases hl : i < (lg_sl As).length
    · rw [List.getElem?_append_left (by rw [mj_sl_len]; exact hl)] at hi
      rw [List.getElem?_toArray, List.getElem?_append_left hl]
      exact mj_sl_get As i v hi
    · rw [List.getElem?_append_right (by rw [mj_sl_len]; omega)] at hi
      have := List.eq_of_mem_replicate (List.mem_of_getElem? hi)
      cases this
theorem mj_blind {G : mj_G} {h : mj_H} {As : List Value} : FrameBlind (va_Pc As (fun U => mj_R G h U.heap ∧ mj_O G U)) := fun _ U g mk q => ⟨q.1, q.2.1, mj_O_same (u := U) (U := U.calling g mk _) q.2.2 rfl rfl⟩
theorem mj_con_intro {G : mj_G} {M : mj_M} {n d kc ks : Nat} {As : List Value} {h : mj_H} {Q : Option Value → mj_H → Prop} {ls : List (Option Value)} (ok : mj_okM M n) (hl : mj_ent M.2.2.1 As = ls) (hlen : (lg_sl As).length ≤ M.2.2.1) (hw : mj_wp G M d kc ks 0 ls [] h 0 0 Q) : mj_con G M d kc ks As h Q := by
  intro l
  refine Met.ofW (cc := M.2.1) (maxL := M.2.2.1) (ret := M.2.2.2) ok.2.2.1 rfl ?_
  intro p e s m args below meth c s₁ B hml hv
  obtain ⟨rfl, hR, hO⟩ := hv
  have hts := atoms_spec (ws := Cond.code M.1 M.2.1 M.2.2.1 M.2.2.2 :: mj_T) B.pre
  have hown : s.vm.findClass M.1.cls = some m.cls := findClass_of_methodNamed B.named
  have hnm : meth.name = M.1.name := (name_of_methodNamed B.named B.method).1
  have hlocks : meth.locks = false := B.notSynchronized
  subst hl
  rw [lg_entry_eq]
  refine hw p l e _ s m _ below meth c s.heap [] _ _ ⟨B.exec, B.bytes, hml, hown, fun w hw => hts w (List.mem_cons_of_mem _ hw), hO, B.returns, hlocks, hnm⟩ ⟨Nat.le_refl _, Nat.le_refl _, Nat.le_refl _, Nat.le_refl _⟩ (mj_ent_L hlen) hR va_S.rf ?_
  intro v h' H' locs' la' pc' hq hR' hS' hrt
  match v, hrt with
  | none, hrt =>
    exact W.vret B.exec B.bytes (B.returns.trans hrt.2) (fun t ht hW => ⟨⟨none, h', rfl, hq, by rw [ht]; exact hR'⟩, hS'.F ht⟩) hS'.2.2 hrt.1 hlocks
  | some (.int x), hrt =>
    obtain ⟨h1, ty, h2, h3⟩ := hrt
    exact W.zret B.exec B.bytes (B.returns.trans h2) h3 (fun t ht hW => ⟨⟨some (.int x), h', rfl, hq, by rw [ht]; exact hR'⟩, hS'.F ht⟩) hS'.2.2 h1 hlocks
  | some (.long x), hrt =>
    exact W.lret B.exec B.bytes (B.returns.trans hrt.2) (fun t ht hW => ⟨⟨some (.long x), h', rfl, hq, by rw [ht]; exact hR'⟩, hS'.F ht⟩) hS'.2.2 hrt.1 hlocks
theorem mj_call {p : Program} {l : Launch} {e : Env} {R : Room} {s : State} {m : MethodId} {args : Array Value} {below : List Frame} {meth : Method} {c : Code} {H : Heap} {locs : List Loc} {cells slots mc ms : Nat} {Qm : State → Prop} {G : mj_G} {pc : Nat} {la : Array Slot} {rest st0 : List Value} {Q : Option Value → mj_H → Prop}
    (hr : va_Run p l e R s m args below meth c H locs cells slots mc ms (F0 m pc la st0) rest (fun st oc t => (∃ (v : Option Value) (h' : mj_H), oc = .returned v ∧ Q v h' ∧ mj_R G h' t.heap) ∧ va_F (mj_A G) st t) (mj_A G)) (hS : va_S (mj_A G) s.heap H locs)
    (kk : ∀ (v : Option Value) (h' : mj_H) (H1 : Heap) (locs1 : List Loc), Q v h' → mj_R G h' H1 → va_S (mj_A G) s.heap H1 locs1 → W p l e R s m args below meth c H1 locs1 (cells + mc) (slots + ms) Qm (F0 m (pc + 3) la (v.toList ++ rest))) : W p l e R s m args below meth c H locs cells slots Qm (F0 m pc la st0) := by
  intro T hT X
  obtain ⟨v, st₀, t, T', L, h0, X', hL, e1, e2, ⟨⟨v', h', hv, hq, hb⟩, hz, hk⟩, st⟩ := hr T hT X
  cases hv
  rw [h0] at hz hk
  obtain ⟨t2, a1, b1⟩ := kk v h' T'.heap (locs ++ L) hq (by rw [e1]; exact hb) ⟨Nat.le_trans hS.1 (by rw [e1]; exact hz), fun q h1 h2 => by rw [e1, hk q (Nat.lt_of_lt_of_le h1 hS.1) h2]; exact hS.2.1 q h1 h2, fun q hq => by
      rcases List.mem_append.mp hq with h | h
      · exact hS.2.2 q h
      · exact hL q h⟩ T' rfl X'
  exact ⟨t2, st t2 a1, b1⟩
theorem mj_T_good : ∀ w ∈ mj_T, goodWord w = true := fun w h => (List.mem_filter.mp h).2
theorem mj_goodIn {ws : List Cond} (h : ∀ w ∈ ws, w ∈ mj_T) : GoodIn mj_T ws := fun w hw => ⟨h w hw, good_of_word (mj_T_good w (h w hw))⟩
theorem mj_goodM {M : mj_M} {n : Nat} (ok : mj_okM M n) : GoodIn mj_T (Cond.code M.1 M.2.1 M.2.2.1 M.2.2.2 :: mj_T) := mj_goodIn fun w hw => (List.mem_cons.mp hw).elim (fun q => q ▸ ok.1) id
theorem mj_ob_live {ci : Nat} {fs : List Value} {r : vw_C} (hc : vwCl[ci]? = some r) : mj_ob ci fs ≠ mj_dead := by
  intro q
  have h1 : ci = 99 := by
    have := Sum.inr.inj (Sum.inr.inj q)
    exact congrArg Prod.fst this
  subst h1
  simp [vwCl] at hc
theorem mj_ar_live {t n : Nat} {f : Nat → Int32} : mj_ar t n f ≠ mj_dead := fun q => by cases q
theorem mj_ra_live {t n : Nat} {f : Nat → Option Nat} : mj_ra t n f ≠ mj_dead := fun q => by cases q
theorem mj_goodV {M M' : mj_M} {idx n : Nat} (hw : Cond.methodLink M.1.cls idx M'.1 ∈ mj_T) (w2 : Cond.instanceMethod M'.1 ∈ mj_T) (w3 : Cond.selects M'.1.cls M'.1 M'.1 ∈ mj_T) (ok : mj_okM M' n) : GoodIn mj_T (wsV M.1.cls idx M'.1.cls M'.1 (Cond.code M'.1 M'.2.1 M'.2.2.1 M'.2.2.2 :: mj_T)) := by
  refine mj_goodIn fun w h => ?_
  rcases List.mem_append.mp h with h | h
  · simp only [List.mem_cons, List.not_mem_nil, or_false] at h
    rcases h with rfl | rfl | rfl | rfl
    · exact hw
    · exact w2
    · exact w3
    · exact ok.2.1
  · exact (List.mem_cons.mp h).elim (fun q => q ▸ ok.1) id
/-! locals by pairs -/
def mj_ps (ls : List (Option Value)) : List (Nat × Value) := (List.range ls.length).filterMap (fun j => match ls[j]? with | some (some v) => some (j, v) | _ => none)
theorem mj_ps_mem {ls : List (Option Value)} {j : Nat} {v : Value} : (j, v) ∈ mj_ps ls ↔ ls[j]? = some (some v) := by
  unfold mj_ps
  rw [List.mem_filterMap]
  constructor
  · rintro ⟨a, -, h⟩
    split at h
    · next w hw => cases h; exact hw
    · cases h
  · intro h
    refine ⟨j, ?_, by rw [h]⟩
    rw [List.mem_range]
    exact (List.getElem?_eq_some_iff.mp h).1
theorem mj_L_has {la : Array Slot} {n : Nat} {ls : List (Option Value)} (h : mj_L la n ls) : lv_has la n (mj_ps ls) := ⟨h.1, h.2.1, fun q hq => h.2.2.2 q.1 q.2 (mj_ps_mem.mp hq)⟩
theorem mj_nl_ok {ls : List (Option Value)} {j : Nat} {w : Value} (hl : mj_nl ls (j + 1) = true) (hj : ls[j]? = some (some w)) : w.category ≠ 2 := by
  unfold mj_nl at hl
  simp only [hj] at hl
  intro hc
  cases w <;> simp [Value.category] at hc hl
theorem mj_L_set1 {la' : Array Slot} {n i : Nat} {ls : List (Option Value)} {v : Value} (hlen : ls.length = n) (hi : i < ls.length) (hl : mj_nl ls i = true) (h : lv_has la' n ((i, v) :: (mj_ps ls).filter (fun q => !(q.1 == i) && !(q.1 + 1 == i && q.2.category == 2)))) : mj_L la' n (ls.set i (some v)) := by
  obtain ⟨h1, h2, h3⟩ := h
  refine ⟨h1, h2, by simpa using hlen, fun j w hj => ?_⟩
  by_cases hji : j = i
  · subst hji
    rw [List.getElem?_set_self hi] at hj
    cases hj
    exact h3 (j, v) List.mem_cons_self
  · rw [List.getElem?_set_ne (Ne.symm hji)] at hj
    refine h3 (j, w) (List.mem_cons_of_mem _ (List.mem_filter.mpr ⟨mj_ps_mem.mpr hj, ?_⟩))
    simp only [Bool.and_eq_true, Bool.not_eq_true', beq_eq_false_iff_ne, ne_eq, Bool.and_eq_false_iff]
    refine ⟨hji, ?_⟩
    by_cases hj1 : j + 1 = i
    · subst hj1
      exact Or.inr (mj_nl_ok hl hj)
    · exact Or.inl hj1
theorem mj_L_set2 {la' : Array Slot} {n i : Nat} {ls : List (Option Value)} {v : Value} (hlen : ls.length = n) (hi : i + 1 < ls.length) (hl : mj_nl ls i = true) (h : lv_has la' n ((i, v) :: (mj_ps ls).filter (fun q => !(q.1 == i) && (!(q.1 == i + 1) && !(q.1 + 1 == i && q.2.category == 2))))) : mj_L la' n ((ls.set i (some v)).set (i + 1) none) := by
  obtain ⟨h1, h2, h3⟩ := h
  refine ⟨h1, h2, by simpa using hlen, fun j w hj => ?_⟩
  by_cases hj2 : j = i + 1
  · subst hj2
    rw [List.getElem?_set_self (by simpa using hi)] at hj
    cases hj
  · rw [List.getElem?_set_ne (Ne.symm hj2)] at hj
    by_cases hji : j = i
    · subst hji
      rw [List.getElem?_set_self (by omega)] at hj
      cases hj
      exact h3 (j, v) List.mem_cons_self
    · rw [List.getElem?_set_ne (Ne.symm hji)] at hj
      refine h3 (j, w) (List.mem_cons_of_mem _ (List.mem_filter.mpr ⟨mj_ps_mem.mpr hj, ?_⟩))
      simp only [Bool.and_eq_true, Bool.not_eq_true', beq_eq_false_iff_ne, ne_eq, Bool.and_eq_false_iff]
      refine ⟨hji, hj2, ?_⟩
      by_cases hj1 : j + 1 = i
      · subst hj1
        exact Or.inr (mj_nl_ok hl hj)
      · exact Or.inl hj1
theorem mj_ble {a b : Nat} (h : Nat.ble a b = true) : a ≤ b := Nat.le_of_ble_eq_true h
/-- an index within, and its place -/
def mj_ix (i : Int32) (n j : Nat) : Prop := vp_in i n ∧ i.toNatClampNeg = j
theorem mj_ixn {n j : Nat} (h : j < n ∧ n < 2147483648) : mj_ix (nI j) n j := ⟨vp_in_nI h.1 h.2, nI_clamp (by omega)⟩
theorem mj_ixe {i : Int32} {n j : Nat} (he : i = nI j) (h : j < n ∧ n < 2147483648) : mj_ix i n j := he ▸ mj_ixn h
section MJ
variable {G : mj_G} {M : mj_M} {d kc ks pc n : Nat} {ls ls' : List (Option Value)} {st : List Value} {h : mj_H} {uc us : Nat} {Q : Option Value → mj_H → Prop}
theorem s_iconst {z : Int} {v : Int32} (hd : decode M.2.1 pc = .ok (.iconst z, 1)) (hn : pc + 1 = n) (hv : Int32.ofInt z = v) (k : mj_wp G M d kc ks n ls (.int v :: st) h uc us Q) : mj_wp G M d kc ks pc ls st h uc us Q := by
  intro p l e0 R s m args below meth c H locs la Qm C hR hL hH hS kk
  subst hn
  exact lv_iconst C.1 C.2.1 hd hv (k p l e0 R s m args below meth c H locs la Qm C hR hL hH hS kk)
theorem s_bipush {z : Int} {v : Int32} (hd : decode M.2.1 pc = .ok (.bipush z, 2)) (hn : pc + 2 = n) (hv : (Int8.ofInt z).toInt32 = v) (k : mj_wp G M d kc ks n ls (.int v :: st) h uc us Q) : mj_wp G M d kc ks pc ls st h uc us Q := by
  intro p l e0 R s m args below meth c H locs la Qm C hR hL hH hS kk
  subst hn
  exact lv_bipush C.1 C.2.1 hd hv (k p l e0 R s m args below meth c H locs la Qm C hR hL hH hS kk)
theorem s_sipush {z : Int} {v : Int32} (hd : decode M.2.1 pc = .ok (.sipush z, 3)) (hn : pc + 3 = n) (hv : (Int16.ofInt z).toInt32 = v) (k : mj_wp G M d kc ks n ls (.int v :: st) h uc us Q) : mj_wp G M d kc ks pc ls st h uc us Q := by
  intro p l e0 R s m args below meth c H locs la Qm C hR hL hH hS kk
  subst hn
  exact lv_sipush C.1 C.2.1 hd hv (k p l e0 R s m args below meth c H locs la Qm C hR hL hH hS kk)
theorem s_lconst {z : Fin 2} {v : Int64} (hd : decode M.2.1 pc = .ok (.lconst z, 1)) (hn : pc + 1 = n) (hv : Int64.ofNat (z : Nat) = v) (k : mj_wp G M d kc ks n ls (.long v :: st) h uc us Q) : mj_wp G M d kc ks pc ls st h uc us Q := by
  intro p l e0 R s m args below meth c H locs la Qm C hR hL hH hS kk
  subst hn
  exact lv_lconst C.1 C.2.1 hd hv (k p l e0 R s m args below meth c H locs la Qm C hR hL hH hS kk)
theorem s_ldc {z : Nat} {v : Int32} (hd : decode M.2.1 pc = .ok (.ldc z, 2)) (hn : pc + 2 = n) (hw : Cond.constant M.1.cls z v ∈ mj_T) (k : mj_wp G M d kc ks n ls (.int v :: st) h uc us Q) : mj_wp G M d kc ks pc ls st h uc us Q := by
  intro p l e0 R s m args below meth c H locs la Qm C hR hL hH hS kk
  subst hn
  exact lv_ldc C.1 C.2.1 C.2.2.2.1 (C.2.2.2.2.1 _ hw) hd (k p l e0 R s m args below meth c H locs la Qm C hR hL hH hS kk)
theorem s_ldcw {z : Nat} {v : Int32} (hd : decode M.2.1 pc = .ok (.ldc_w z, 3)) (hn : pc + 3 = n) (hw : Cond.constant M.1.cls z v ∈ mj_T) (k : mj_wp G M d kc ks n ls (.int v :: st) h uc us Q) : mj_wp G M d kc ks pc ls st h uc us Q := by
  intro p l e0 R s m args below meth c H locs la Qm C hR hL hH hS kk
  subst hn
  exact lv_ldcw C.1 C.2.1 C.2.2.2.1 (C.2.2.2.2.1 _ hw) hd (k p l e0 R s m args below meth c H locs la Qm C hR hL hH hS kk)
theorem s_ldc2 {z : Nat} {v : Int64} (hd : decode M.2.1 pc = .ok (.ldc2_w z, 3)) (hn : pc + 3 = n) (hw : Cond.constantLong M.1.cls z v ∈ mj_T) (k : mj_wp G M d kc ks n ls (.long v :: st) h uc us Q) : mj_wp G M d kc ks pc ls st h uc us Q := by
  intro p l e0 R s m args below meth c H locs la Qm C hR hL hH hS kk
  subst hn
  exact lv_ldc2 C.1 C.2.1 C.2.2.2.1 (C.2.2.2.2.1 _ hw) hd (k p l e0 R s m args below meth c H locs la Qm C hR hL hH hS kk)
theorem s_iload_n {z : Fin 4} {i : Nat} {x : Int32} (hd : decode M.2.1 pc = .ok (.iload_n z, 1)) (hn : pc + 1 = n) (hi : (z : Nat) = i) (hl : ls[i]? = some (some (.int x))) (k : mj_wp G M d kc ks n ls (.int x :: st) h uc us Q) : mj_wp G M d kc ks pc ls st h uc us Q := by
  intro p l e0 R s m args below meth c H locs la Qm C hR hL hH hS kk
  subst hn
  exact lv_iload_n C.1 C.2.1 hd hi (hL.2.2.2 _ _ hl) (k p l e0 R s m args below meth c H locs la Qm C hR hL hH hS kk)
theorem s_iload {i : Nat} {x : Int32} (hd : decode M.2.1 pc = .ok (.iload i, 2)) (hn : pc + 2 = n) (hl : ls[i]? = some (some (.int x))) (k : mj_wp G M d kc ks n ls (.int x :: st) h uc us Q) : mj_wp G M d kc ks pc ls st h uc us Q := by
  intro p l e0 R s m args below meth c H locs la Qm C hR hL hH hS kk
  subst hn
  exact lv_iload C.1 C.2.1 hd (hL.2.2.2 _ _ hl) (k p l e0 R s m args below meth c H locs la Qm C hR hL hH hS kk)
theorem s_lload_n {z : Fin 4} {i : Nat} {x : Int64} (hd : decode M.2.1 pc = .ok (.lload_n z, 1)) (hn : pc + 1 = n) (hi : (z : Nat) = i) (hl : ls[i]? = some (some (.long x))) (k : mj_wp G M d kc ks n ls (.long x :: st) h uc us Q) : mj_wp G M d kc ks pc ls st h uc us Q := by
  intro p l e0 R s m args below meth c H locs la Qm C hR hL hH hS kk
  subst hn
  exact lv_lload_n C.1 C.2.1 hd hi (hL.2.2.2 _ _ hl) (k p l e0 R s m args below meth c H locs la Qm C hR hL hH hS kk)
theorem s_lload {i : Nat} {x : Int64} (hd : decode M.2.1 pc = .ok (.lload i, 2)) (hn : pc + 2 = n) (hl : ls[i]? = some (some (.long x))) (k : mj_wp G M d kc ks n ls (.long x :: st) h uc us Q) : mj_wp G M d kc ks pc ls st h uc us Q := by
  intro p l e0 R s m args below meth c H locs la Qm C hR hL hH hS kk
  subst hn
  exact lv_lload C.1 C.2.1 hd (hL.2.2.2 _ _ hl) (k p l e0 R s m args below meth c H locs la Qm C hR hL hH hS kk)
theorem s_aload_n {z : Fin 4} {i : Nat} {x : Nat} (hd : decode M.2.1 pc = .ok (.aload_n z, 1)) (hn : pc + 1 = n) (hi : (z : Nat) = i) (hl : ls[i]? = some (some (.ref x))) (k : mj_wp G M d kc ks n ls (.ref x :: st) h uc us Q) : mj_wp G M d kc ks pc ls st h uc us Q := by
  intro p l e0 R s m args below meth c H locs la Qm C hR hL hH hS kk
  subst hn
  exact lv_aload_n C.1 C.2.1 hd hi (hL.2.2.2 _ _ hl) (k p l e0 R s m args below meth c H locs la Qm C hR hL hH hS kk)
theorem s_aload {i : Nat} {x : Nat} (hd : decode M.2.1 pc = .ok (.aload i, 2)) (hn : pc + 2 = n) (hl : ls[i]? = some (some (.ref x))) (k : mj_wp G M d kc ks n ls (.ref x :: st) h uc us Q) : mj_wp G M d kc ks pc ls st h uc us Q := by
  intro p l e0 R s m args below meth c H locs la Qm C hR hL hH hS kk
  subst hn
  exact lv_aload C.1 C.2.1 hd (hL.2.2.2 _ _ hl) (k p l e0 R s m args below meth c H locs la Qm C hR hL hH hS kk)
theorem s_istore_n {z : Fin 4} {i : Nat} {x : Int32} (hd : decode M.2.1 pc = .ok (.istore_n z, 1)) (hn : pc + 1 = n) (hi : (z : Nat) = i) (hb : Nat.ble (i + 1) ls.length = true) (hl : mj_nl ls i = true) (hs : ls.set i (some (.int x)) = ls') (k : mj_wp G M d kc ks n ls' st h uc us Q) : mj_wp G M d kc ks pc ls (.int x :: st) h uc us Q := by
  intro p l e0 R s m args below meth c H locs la Qm C hR hL hH hS kk
  subst hn
  subst hs
  refine lv_istore_n C.1 C.2.1 hd hi (mj_L_has hL) (by rw [← hL.2.2.1]; exact mj_ble hb) rfl (fun la' hl' => ?_)
  exact k p l e0 R s m args below meth c H locs la' Qm C hR (mj_L_set1 hL.2.2.1 (mj_ble hb) hl hl') hH hS kk
theorem s_istore {i : Nat} {x : Int32} (hd : decode M.2.1 pc = .ok (.istore i, 2)) (hn : pc + 2 = n) (hb : Nat.ble (i + 1) ls.length = true) (hl : mj_nl ls i = true) (hs : ls.set i (some (.int x)) = ls') (k : mj_wp G M d kc ks n ls' st h uc us Q) : mj_wp G M d kc ks pc ls (.int x :: st) h uc us Q := by
  intro p l e0 R s m args below meth c H locs la Qm C hR hL hH hS kk
  subst hn
  subst hs
  refine lv_istore C.1 C.2.1 hd (mj_L_has hL) (by rw [← hL.2.2.1]; exact mj_ble hb) rfl (fun la' hl' => ?_)
  exact k p l e0 R s m args below meth c H locs la' Qm C hR (mj_L_set1 hL.2.2.1 (mj_ble hb) hl hl') hH hS kk
theorem s_astore_n {z : Fin 4} {i : Nat} {x : Nat} (hd : decode M.2.1 pc = .ok (.astore_n z, 1)) (hn : pc + 1 = n) (hi : (z : Nat) = i) (hb : Nat.ble (i + 1) ls.length = true) (hl : mj_nl ls i = true) (hs : ls.set i (some (.ref x)) = ls') (k : mj_wp G M d kc ks n ls' st h uc us Q) : mj_wp G M d kc ks pc ls (.ref x :: st) h uc us Q := by
  intro p l e0 R s m args below meth c H locs la Qm C hR hL hH hS kk
  subst hn
  subst hs
  refine lv_astore_n C.1 C.2.1 hd hi (mj_L_has hL) (by rw [← hL.2.2.1]; exact mj_ble hb) rfl (fun la' hl' => ?_)
  exact k p l e0 R s m args below meth c H locs la' Qm C hR (mj_L_set1 hL.2.2.1 (mj_ble hb) hl hl') hH hS kk
theorem s_astore {i : Nat} {x : Nat} (hd : decode M.2.1 pc = .ok (.astore i, 2)) (hn : pc + 2 = n) (hb : Nat.ble (i + 1) ls.length = true) (hl : mj_nl ls i = true) (hs : ls.set i (some (.ref x)) = ls') (k : mj_wp G M d kc ks n ls' st h uc us Q) : mj_wp G M d kc ks pc ls (.ref x :: st) h uc us Q := by
  intro p l e0 R s m args below meth c H locs la Qm C hR hL hH hS kk
  subst hn
  subst hs
  refine lv_astore C.1 C.2.1 hd (mj_L_has hL) (by rw [← hL.2.2.1]; exact mj_ble hb) rfl (fun la' hl' => ?_)
  exact k p l e0 R s m args below meth c H locs la' Qm C hR (mj_L_set1 hL.2.2.1 (mj_ble hb) hl hl') hH hS kk
theorem s_lstore_n {z : Fin 4} {i : Nat} {x : Int64} (hd : decode M.2.1 pc = .ok (.lstore_n z, 1)) (hn : pc + 1 = n) (hi : (z : Nat) = i) (hb : Nat.ble (i + 2) ls.length = true) (hl : mj_nl ls i = true) (hs : (ls.set i (some (.long x))).set (i + 1) none = ls') (k : mj_wp G M d kc ks n ls' st h uc us Q) : mj_wp G M d kc ks pc ls (.long x :: st) h uc us Q := by
  intro p l e0 R s m args below meth c H locs la Qm C hR hL hH hS kk
  subst hn
  subst hs
  refine lv_lstore_n C.1 C.2.1 hd hi (mj_L_has hL) (by rw [← hL.2.2.1]; exact mj_ble hb) rfl (fun la' hl' => ?_)
  exact k p l e0 R s m args below meth c H locs la' Qm C hR (mj_L_set2 hL.2.2.1 (mj_ble hb) hl hl') hH hS kk
theorem s_lstore {i : Nat} {x : Int64} (hd : decode M.2.1 pc = .ok (.lstore i, 2)) (hn : pc + 2 = n) (hb : Nat.ble (i + 2) ls.length = true) (hl : mj_nl ls i = true) (hs : (ls.set i (some (.long x))).set (i + 1) none = ls') (k : mj_wp G M d kc ks n ls' st h uc us Q) : mj_wp G M d kc ks pc ls (.long x :: st) h uc us Q := by
  intro p l e0 R s m args below meth c H locs la Qm C hR hL hH hS kk
  subst hn
  subst hs
  refine lv_lstore C.1 C.2.1 hd (mj_L_has hL) (by rw [← hL.2.2.1]; exact mj_ble hb) rfl (fun la' hl' => ?_)
  exact k p l e0 R s m args below meth c H locs la' Qm C hR (mj_L_set2 hL.2.2.1 (mj_ble hb) hl hl') hH hS kk
theorem s_iinc {i : Nat} {z : Int} {x v : Int32} (hd : decode M.2.1 pc = .ok (.iinc i z, 3)) (hn : pc + 3 = n) (hg : ls[i]? = some (some (.int x))) (hv : x + Int32.ofInt z = v) (hl : mj_nl ls i = true) (hs : ls.set i (some (.int v)) = ls') (k : mj_wp G M d kc ks n ls' st h uc us Q) : mj_wp G M d kc ks pc ls st h uc us Q := by
  intro p l e0 R s m args below meth c H locs la Qm C hR hL hH hS kk
  subst hn
  subst hs
  have hi : i < ls.length := (List.getElem?_eq_some_iff.mp hg).1
  obtain ⟨q, hq⟩ := List.getElem?_of_mem (mj_ps_mem.mpr hg)
  refine lv_iinc (k := q) C.1 C.2.1 hd (mj_L_has hL) hq hv (by rw [← hL.2.2.1]; exact hi) rfl (fun la' hl' => ?_)
  exact k p l e0 R s m args below meth c H locs la' Qm C hR (mj_L_set1 hL.2.2.1 hi hl hl') hH hS kk
theorem s_iadd {x y : Int32} (hd : decode M.2.1 pc = .ok (.iadd, 1)) (hn : pc + 1 = n) (k : mj_wp G M d kc ks n ls (.int (x + y) :: st) h uc us Q) : mj_wp G M d kc ks pc ls (.int y :: .int x :: st) h uc us Q := by
  intro p l e0 R s m args below meth c H locs la Qm C hR hL hH hS kk
  subst hn
  exact lv_iadd C.1 C.2.1 hd (k p l e0 R s m args below meth c H locs la Qm C hR hL hH hS kk)
theorem s_isub {x y : Int32} (hd : decode M.2.1 pc = .ok (.isub, 1)) (hn : pc + 1 = n) (k : mj_wp G M d kc ks n ls (.int (x - y) :: st) h uc us Q) : mj_wp G M d kc ks pc ls (.int y :: .int x :: st) h uc us Q := by
  intro p l e0 R s m args below meth c H locs la Qm C hR hL hH hS kk
  subst hn
  exact lv_isub C.1 C.2.1 hd (k p l e0 R s m args below meth c H locs la Qm C hR hL hH hS kk)
theorem s_imul {x y : Int32} (hd : decode M.2.1 pc = .ok (.imul, 1)) (hn : pc + 1 = n) (k : mj_wp G M d kc ks n ls (.int (x * y) :: st) h uc us Q) : mj_wp G M d kc ks pc ls (.int y :: .int x :: st) h uc us Q := by
  intro p l e0 R s m args below meth c H locs la Qm C hR hL hH hS kk
  subst hn
  exact lv_imul C.1 C.2.1 hd (k p l e0 R s m args below meth c H locs la Qm C hR hL hH hS kk)
theorem s_iand {x y : Int32} (hd : decode M.2.1 pc = .ok (.iand, 1)) (hn : pc + 1 = n) (k : mj_wp G M d kc ks n ls (.int (x &&& y) :: st) h uc us Q) : mj_wp G M d kc ks pc ls (.int y :: .int x :: st) h uc us Q := by
  intro p l e0 R s m args below meth c H locs la Qm C hR hL hH hS kk
  subst hn
  exact lv_iand C.1 C.2.1 hd (k p l e0 R s m args below meth c H locs la Qm C hR hL hH hS kk)
theorem s_ior {x y : Int32} (hd : decode M.2.1 pc = .ok (.ior, 1)) (hn : pc + 1 = n) (k : mj_wp G M d kc ks n ls (.int (x ||| y) :: st) h uc us Q) : mj_wp G M d kc ks pc ls (.int y :: .int x :: st) h uc us Q := by
  intro p l e0 R s m args below meth c H locs la Qm C hR hL hH hS kk
  subst hn
  exact lv_ior C.1 C.2.1 hd (k p l e0 R s m args below meth c H locs la Qm C hR hL hH hS kk)
theorem s_ixor {x y : Int32} (hd : decode M.2.1 pc = .ok (.ixor, 1)) (hn : pc + 1 = n) (k : mj_wp G M d kc ks n ls (.int (x ^^^ y) :: st) h uc us Q) : mj_wp G M d kc ks pc ls (.int y :: .int x :: st) h uc us Q := by
  intro p l e0 R s m args below meth c H locs la Qm C hR hL hH hS kk
  subst hn
  exact lv_ixor C.1 C.2.1 hd (k p l e0 R s m args below meth c H locs la Qm C hR hL hH hS kk)
theorem s_ishl {x y : Int32} (hd : decode M.2.1 pc = .ok (.ishl, 1)) (hn : pc + 1 = n) (k : mj_wp G M d kc ks n ls (.int (x <<< (y &&& 31)) :: st) h uc us Q) : mj_wp G M d kc ks pc ls (.int y :: .int x :: st) h uc us Q := by
  intro p l e0 R s m args below meth c H locs la Qm C hR hL hH hS kk
  subst hn
  exact lv_ishl C.1 C.2.1 hd (k p l e0 R s m args below meth c H locs la Qm C hR hL hH hS kk)
theorem s_ishr {x y : Int32} (hd : decode M.2.1 pc = .ok (.ishr, 1)) (hn : pc + 1 = n) (k : mj_wp G M d kc ks n ls (.int (x >>> (y &&& 31)) :: st) h uc us Q) : mj_wp G M d kc ks pc ls (.int y :: .int x :: st) h uc us Q := by
  intro p l e0 R s m args below meth c H locs la Qm C hR hL hH hS kk
  subst hn
  exact lv_ishr C.1 C.2.1 hd (k p l e0 R s m args below meth c H locs la Qm C hR hL hH hS kk)
theorem s_iushr {x y v : Int32} (hd : decode M.2.1 pc = .ok (.iushr, 1)) (hn : pc + 1 = n) (hv : (x.toUInt32 >>> (y.toUInt32 &&& Int32.toUInt32 31)).toInt32 = v) (k : mj_wp G M d kc ks n ls (.int v :: st) h uc us Q) : mj_wp G M d kc ks pc ls (.int y :: .int x :: st) h uc us Q := by
  intro p l e0 R s m args below meth c H locs la Qm C hR hL hH hS kk
  subst hn
  exact lv_iushr C.1 C.2.1 hd hv (k p l e0 R s m args below meth c H locs la Qm C hR hL hH hS kk)
theorem s_idiv {x y : Int32} (hd : decode M.2.1 pc = .ok (.idiv, 1)) (hn : pc + 1 = n) (hz : ¬ y = 0) (k : mj_wp G M d kc ks n ls (.int (x / y) :: st) h uc us Q) : mj_wp G M d kc ks pc ls (.int y :: .int x :: st) h uc us Q := by
  intro p l e0 R s m args below meth c H locs la Qm C hR hL hH hS kk
  subst hn
  exact lv_idiv C.1 C.2.1 hd hz (k p l e0 R s m args below meth c H locs la Qm C hR hL hH hS kk)
theorem s_irem {x y : Int32} (hd : decode M.2.1 pc = .ok (.irem, 1)) (hn : pc + 1 = n) (hz : ¬ y = 0) (k : mj_wp G M d kc ks n ls (.int (x % y) :: st) h uc us Q) : mj_wp G M d kc ks pc ls (.int y :: .int x :: st) h uc us Q := by
  intro p l e0 R s m args below meth c H locs la Qm C hR hL hH hS kk
  subst hn
  rw [← irem_eq_mod] at k
  exact lv_irem C.1 C.2.1 hd hz (k p l e0 R s m args below meth c H locs la Qm C hR hL hH hS kk)
theorem s_ineg {x : Int32} (hd : decode M.2.1 pc = .ok (.ineg, 1)) (hn : pc + 1 = n) (k : mj_wp G M d kc ks n ls (.int (-x) :: st) h uc us Q) : mj_wp G M d kc ks pc ls (.int x :: st) h uc us Q := by
  intro p l e0 R s m args below meth c H locs la Qm C hR hL hH hS kk
  subst hn
  exact lv_ineg C.1 C.2.1 hd (k p l e0 R s m args below meth c H locs la Qm C hR hL hH hS kk)
theorem s_ladd {x y : Int64} (hd : decode M.2.1 pc = .ok (.ladd, 1)) (hn : pc + 1 = n) (k : mj_wp G M d kc ks n ls (.long (x + y) :: st) h uc us Q) : mj_wp G M d kc ks pc ls (.long y :: .long x :: st) h uc us Q := by
  intro p l e0 R s m args below meth c H locs la Qm C hR hL hH hS kk
  subst hn
  exact lv_ladd C.1 C.2.1 hd (k p l e0 R s m args below meth c H locs la Qm C hR hL hH hS kk)
theorem s_lsub {x y : Int64} (hd : decode M.2.1 pc = .ok (.lsub, 1)) (hn : pc + 1 = n) (k : mj_wp G M d kc ks n ls (.long (x - y) :: st) h uc us Q) : mj_wp G M d kc ks pc ls (.long y :: .long x :: st) h uc us Q := by
  intro p l e0 R s m args below meth c H locs la Qm C hR hL hH hS kk
  subst hn
  exact lv_lsub C.1 C.2.1 hd (k p l e0 R s m args below meth c H locs la Qm C hR hL hH hS kk)
theorem s_lmul {x y : Int64} (hd : decode M.2.1 pc = .ok (.lmul, 1)) (hn : pc + 1 = n) (k : mj_wp G M d kc ks n ls (.long (x * y) :: st) h uc us Q) : mj_wp G M d kc ks pc ls (.long y :: .long x :: st) h uc us Q := by
  intro p l e0 R s m args below meth c H locs la Qm C hR hL hH hS kk
  subst hn
  exact lv_lmul C.1 C.2.1 hd (k p l e0 R s m args below meth c H locs la Qm C hR hL hH hS kk)
theorem s_ldiv {x y : Int64} (hd : decode M.2.1 pc = .ok (.ldiv, 1)) (hn : pc + 1 = n) (hz : ¬ y = 0) (k : mj_wp G M d kc ks n ls (.long (x / y) :: st) h uc us Q) : mj_wp G M d kc ks pc ls (.long y :: .long x :: st) h uc us Q := by
  intro p l e0 R s m args below meth c H locs la Qm C hR hL hH hS kk
  subst hn
  exact lv_ldiv C.1 C.2.1 hd hz (k p l e0 R s m args below meth c H locs la Qm C hR hL hH hS kk)
theorem s_lrem {x y : Int64} (hd : decode M.2.1 pc = .ok (.lrem, 1)) (hn : pc + 1 = n) (hz : ¬ y = 0) (k : mj_wp G M d kc ks n ls (.long (x - x / y * y) :: st) h uc us Q) : mj_wp G M d kc ks pc ls (.long y :: .long x :: st) h uc us Q := by
  intro p l e0 R s m args below meth c H locs la Qm C hR hL hH hS kk
  subst hn
  exact lv_lrem C.1 C.2.1 hd hz (k p l e0 R s m args below meth c H locs la Qm C hR hL hH hS kk)
theorem s_lcmp {x y : Int64} (hd : decode M.2.1 pc = .ok (.lcmp, 1)) (hn : pc + 1 = n) (k : mj_wp G M d kc ks n ls (.int (lg_cmp x y) :: st) h uc us Q) : mj_wp G M d kc ks pc ls (.long y :: .long x :: st) h uc us Q := by
  intro p l e0 R s m args below meth c H locs la Qm C hR hL hH hS kk
  subst hn
  exact W.lcmp C.1 C.2.1 hd (k p l e0 R s m args below meth c H locs la Qm C hR hL hH hS kk)
theorem s_i2l {x : Int32} (hd : decode M.2.1 pc = .ok (.i2l, 1)) (hn : pc + 1 = n) (k : mj_wp G M d kc ks n ls (.long (x.toInt64) :: st) h uc us Q) : mj_wp G M d kc ks pc ls (.int x :: st) h uc us Q := by
  intro p l e0 R s m args below meth c H locs la Qm C hR hL hH hS kk
  subst hn
  exact lv_i2l C.1 C.2.1 hd rfl (k p l e0 R s m args below meth c H locs la Qm C hR hL hH hS kk)
theorem s_l2i {x : Int64} (hd : decode M.2.1 pc = .ok (.l2i, 1)) (hn : pc + 1 = n) (k : mj_wp G M d kc ks n ls (.int (x.toInt32) :: st) h uc us Q) : mj_wp G M d kc ks pc ls (.long x :: st) h uc us Q := by
  intro p l e0 R s m args below meth c H locs la Qm C hR hL hH hS kk
  subst hn
  exact lv_l2i C.1 C.2.1 hd rfl (k p l e0 R s m args below meth c H locs la Qm C hR hL hH hS kk)
theorem s_i2b {x : Int32} (hd : decode M.2.1 pc = .ok (.i2b, 1)) (hn : pc + 1 = n) (k : mj_wp G M d kc ks n ls (.int (x.toInt8.toInt32) :: st) h uc us Q) : mj_wp G M d kc ks pc ls (.int x :: st) h uc us Q := by
  intro p l e0 R s m args below meth c H locs la Qm C hR hL hH hS kk
  subst hn
  exact lv_i2b C.1 C.2.1 hd rfl (k p l e0 R s m args below meth c H locs la Qm C hR hL hH hS kk)
theorem s_i2s {x : Int32} (hd : decode M.2.1 pc = .ok (.i2s, 1)) (hn : pc + 1 = n) (k : mj_wp G M d kc ks n ls (.int (x.toInt16.toInt32) :: st) h uc us Q) : mj_wp G M d kc ks pc ls (.int x :: st) h uc us Q := by
  intro p l e0 R s m args below meth c H locs la Qm C hR hL hH hS kk
  subst hn
  exact lv_i2s C.1 C.2.1 hd rfl (k p l e0 R s m args below meth c H locs la Qm C hR hL hH hS kk)
theorem s_dup {v : Value} (hd : decode M.2.1 pc = .ok (.dup, 1)) (hn : pc + 1 = n) (hv : v.category = 1) (k : mj_wp G M d kc ks n ls (v :: v :: st) h uc us Q) : mj_wp G M d kc ks pc ls (v :: st) h uc us Q := by
  intro p l e0 R s m args below meth c H locs la Qm C hR hL hH hS kk
  subst hn
  exact lv_dup C.1 C.2.1 hd hv (k p l e0 R s m args below meth c H locs la Qm C hR hL hH hS kk)
theorem s_dup2 {v w : Value} (hd : decode M.2.1 pc = .ok (.dup2, 1)) (hn : pc + 1 = n) (hv : v.category = 1) (hw : w.category = 1) (k : mj_wp G M d kc ks n ls (v :: w :: v :: w :: st) h uc us Q) : mj_wp G M d kc ks pc ls (v :: w :: st) h uc us Q := by
  intro p l e0 R s m args below meth c H locs la Qm C hR hL hH hS kk
  subst hn
  exact lv_dup2_11 C.1 C.2.1 hd hv hw (k p l e0 R s m args below meth c H locs la Qm C hR hL hH hS kk)
theorem s_if_eq {x : Int32} {off : Int} {tgt : Nat} (hd : decode M.2.1 pc = .ok (.ifCond .eq off, 3)) (hn : pc + 3 = n) (ht : (pc : Int) + off = (tgt : Int)) (kt : x = 0 → mj_wp G M d kc ks tgt ls st h uc us Q) (kf : ¬ x = 0 → mj_wp G M d kc ks n ls st h uc us Q) : mj_wp G M d kc ks pc ls (.int x :: st) h uc us Q := by
  intro p l e0 R s m args below meth c H locs la Qm C hR hL hH hS kk
  subst hn
  exact lv_if_eq C.1 C.2.1 hd ht (fun q => kt q p l e0 R s m args below meth c H locs la Qm C hR hL hH hS kk) (fun q => kf q p l e0 R s m args below meth c H locs la Qm C hR hL hH hS kk)
theorem s_icmp_eq {x y : Int32} {off : Int} {tgt : Nat} (hd : decode M.2.1 pc = .ok (.if_icmp .eq off, 3)) (hn : pc + 3 = n) (ht : (pc : Int) + off = (tgt : Int)) (kt : x = y → mj_wp G M d kc ks tgt ls st h uc us Q) (kf : ¬ x = y → mj_wp G M d kc ks n ls st h uc us Q) : mj_wp G M d kc ks pc ls (.int y :: .int x :: st) h uc us Q := by
  intro p l e0 R s m args below meth c H locs la Qm C hR hL hH hS kk
  subst hn
  exact lv_icmp_eq C.1 C.2.1 hd ht (fun q => kt q p l e0 R s m args below meth c H locs la Qm C hR hL hH hS kk) (fun q => kf q p l e0 R s m args below meth c H locs la Qm C hR hL hH hS kk)
theorem s_if_ne {x : Int32} {off : Int} {tgt : Nat} (hd : decode M.2.1 pc = .ok (.ifCond .ne off, 3)) (hn : pc + 3 = n) (ht : (pc : Int) + off = (tgt : Int)) (kt : (¬ x = 0) → mj_wp G M d kc ks tgt ls st h uc us Q) (kf : x = 0 → mj_wp G M d kc ks n ls st h uc us Q) : mj_wp G M d kc ks pc ls (.int x :: st) h uc us Q := by
  intro p l e0 R s m args below meth c H locs la Qm C hR hL hH hS kk
  subst hn
  exact lv_if_ne C.1 C.2.1 hd ht (fun q => kt q p l e0 R s m args below meth c H locs la Qm C hR hL hH hS kk) (fun q => kf q p l e0 R s m args below meth c H locs la Qm C hR hL hH hS kk)
theorem s_icmp_ne {x y : Int32} {off : Int} {tgt : Nat} (hd : decode M.2.1 pc = .ok (.if_icmp .ne off, 3)) (hn : pc + 3 = n) (ht : (pc : Int) + off = (tgt : Int)) (kt : (¬ x = y) → mj_wp G M d kc ks tgt ls st h uc us Q) (kf : x = y → mj_wp G M d kc ks n ls st h uc us Q) : mj_wp G M d kc ks pc ls (.int y :: .int x :: st) h uc us Q := by
  intro p l e0 R s m args below meth c H locs la Qm C hR hL hH hS kk
  subst hn
  exact lv_icmp_ne C.1 C.2.1 hd ht (fun q => kt q p l e0 R s m args below meth c H locs la Qm C hR hL hH hS kk) (fun q => kf q p l e0 R s m args below meth c H locs la Qm C hR hL hH hS kk)
theorem s_if_lt {x : Int32} {off : Int} {tgt : Nat} (hd : decode M.2.1 pc = .ok (.ifCond .lt off, 3)) (hn : pc + 3 = n) (ht : (pc : Int) + off = (tgt : Int)) (kt : x < 0 → mj_wp G M d kc ks tgt ls st h uc us Q) (kf : ¬ x < 0 → mj_wp G M d kc ks n ls st h uc us Q) : mj_wp G M d kc ks pc ls (.int x :: st) h uc us Q := by
  intro p l e0 R s m args below meth c H locs la Qm C hR hL hH hS kk
  subst hn
  exact lv_if_lt C.1 C.2.1 hd ht (fun q => kt q p l e0 R s m args below meth c H locs la Qm C hR hL hH hS kk) (fun q => kf q p l e0 R s m args below meth c H locs la Qm C hR hL hH hS kk)
theorem s_icmp_lt {x y : Int32} {off : Int} {tgt : Nat} (hd : decode M.2.1 pc = .ok (.if_icmp .lt off, 3)) (hn : pc + 3 = n) (ht : (pc : Int) + off = (tgt : Int)) (kt : x < y → mj_wp G M d kc ks tgt ls st h uc us Q) (kf : ¬ x < y → mj_wp G M d kc ks n ls st h uc us Q) : mj_wp G M d kc ks pc ls (.int y :: .int x :: st) h uc us Q := by
  intro p l e0 R s m args below meth c H locs la Qm C hR hL hH hS kk
  subst hn
  exact lv_icmp_lt C.1 C.2.1 hd ht (fun q => kt q p l e0 R s m args below meth c H locs la Qm C hR hL hH hS kk) (fun q => kf q p l e0 R s m args below meth c H locs la Qm C hR hL hH hS kk)
theorem s_if_ge {x : Int32} {off : Int} {tgt : Nat} (hd : decode M.2.1 pc = .ok (.ifCond .ge off, 3)) (hn : pc + 3 = n) (ht : (pc : Int) + off = (tgt : Int)) (kt : 0 ≤ x → mj_wp G M d kc ks tgt ls st h uc us Q) (kf : ¬ 0 ≤ x → mj_wp G M d kc ks n ls st h uc us Q) : mj_wp G M d kc ks pc ls (.int x :: st) h uc us Q := by
  intro p l e0 R s m args below meth c H locs la Qm C hR hL hH hS kk
  subst hn
  exact lv_if_ge C.1 C.2.1 hd ht (fun q => kt q p l e0 R s m args below meth c H locs la Qm C hR hL hH hS kk) (fun q => kf q p l e0 R s m args below meth c H locs la Qm C hR hL hH hS kk)
theorem s_icmp_ge {x y : Int32} {off : Int} {tgt : Nat} (hd : decode M.2.1 pc = .ok (.if_icmp .ge off, 3)) (hn : pc + 3 = n) (ht : (pc : Int) + off = (tgt : Int)) (kt : y ≤ x → mj_wp G M d kc ks tgt ls st h uc us Q) (kf : ¬ y ≤ x → mj_wp G M d kc ks n ls st h uc us Q) : mj_wp G M d kc ks pc ls (.int y :: .int x :: st) h uc us Q := by
  intro p l e0 R s m args below meth c H locs la Qm C hR hL hH hS kk
  subst hn
  exact lv_icmp_ge C.1 C.2.1 hd ht (fun q => kt q p l e0 R s m args below meth c H locs la Qm C hR hL hH hS kk) (fun q => kf q p l e0 R s m args below meth c H locs la Qm C hR hL hH hS kk)
theorem s_if_gt {x : Int32} {off : Int} {tgt : Nat} (hd : decode M.2.1 pc = .ok (.ifCond .gt off, 3)) (hn : pc + 3 = n) (ht : (pc : Int) + off = (tgt : Int)) (kt : 0 < x → mj_wp G M d kc ks tgt ls st h uc us Q) (kf : ¬ 0 < x → mj_wp G M d kc ks n ls st h uc us Q) : mj_wp G M d kc ks pc ls (.int x :: st) h uc us Q := by
  intro p l e0 R s m args below meth c H locs la Qm C hR hL hH hS kk
  subst hn
  exact lv_if_gt C.1 C.2.1 hd ht (fun q => kt q p l e0 R s m args below meth c H locs la Qm C hR hL hH hS kk) (fun q => kf q p l e0 R s m args below meth c H locs la Qm C hR hL hH hS kk)
theorem s_icmp_gt {x y : Int32} {off : Int} {tgt : Nat} (hd : decode M.2.1 pc = .ok (.if_icmp .gt off, 3)) (hn : pc + 3 = n) (ht : (pc : Int) + off = (tgt : Int)) (kt : y < x → mj_wp G M d kc ks tgt ls st h uc us Q) (kf : ¬ y < x → mj_wp G M d kc ks n ls st h uc us Q) : mj_wp G M d kc ks pc ls (.int y :: .int x :: st) h uc us Q := by
  intro p l e0 R s m args below meth c H locs la Qm C hR hL hH hS kk
  subst hn
  exact lv_icmp_gt C.1 C.2.1 hd ht (fun q => kt q p l e0 R s m args below meth c H locs la Qm C hR hL hH hS kk) (fun q => kf q p l e0 R s m args below meth c H locs la Qm C hR hL hH hS kk)
theorem s_if_le {x : Int32} {off : Int} {tgt : Nat} (hd : decode M.2.1 pc = .ok (.ifCond .le off, 3)) (hn : pc + 3 = n) (ht : (pc : Int) + off = (tgt : Int)) (kt : x ≤ 0 → mj_wp G M d kc ks tgt ls st h uc us Q) (kf : ¬ x ≤ 0 → mj_wp G M d kc ks n ls st h uc us Q) : mj_wp G M d kc ks pc ls (.int x :: st) h uc us Q := by
  intro p l e0 R s m args below meth c H locs la Qm C hR hL hH hS kk
  subst hn
  exact lv_if_le C.1 C.2.1 hd ht (fun q => kt q p l e0 R s m args below meth c H locs la Qm C hR hL hH hS kk) (fun q => kf q p l e0 R s m args below meth c H locs la Qm C hR hL hH hS kk)
theorem s_icmp_le {x y : Int32} {off : Int} {tgt : Nat} (hd : decode M.2.1 pc = .ok (.if_icmp .le off, 3)) (hn : pc + 3 = n) (ht : (pc : Int) + off = (tgt : Int)) (kt : x ≤ y → mj_wp G M d kc ks tgt ls st h uc us Q) (kf : ¬ x ≤ y → mj_wp G M d kc ks n ls st h uc us Q) : mj_wp G M d kc ks pc ls (.int y :: .int x :: st) h uc us Q := by
  intro p l e0 R s m args below meth c H locs la Qm C hR hL hH hS kk
  subst hn
  exact lv_icmp_le C.1 C.2.1 hd ht (fun q => kt q p l e0 R s m args below meth c H locs la Qm C hR hL hH hS kk) (fun q => kf q p l e0 R s m args below meth c H locs la Qm C hR hL hH hS kk)
theorem s_goto {off : Int} {tgt : Nat} (hd : decode M.2.1 pc = .ok (.goto off, 3)) (ht : (pc : Int) + off = (tgt : Int)) (k : mj_wp G M d kc ks tgt ls st h uc us Q) : mj_wp G M d kc ks pc ls st h uc us Q := by
  intro p l e0 R s m args below meth c H locs la Qm C hR hL hH hS kk
  exact lv_goto C.1 C.2.1 hd ht (k p l e0 R s m args below meth c H locs la Qm C hR hL hH hS kk)
theorem s_lookup {x : Int32} {dflt off : Int} {ps : Array (Int × Int)} {len tgt : Nat} (hd : decode M.2.1 pc = .ok (.lookupswitch dflt ps, len)) (hp : (ps.toList.zip (ps.toList.drop 1)).all (fun (a, next) => a.1 < next.1) = true) (ho : Op.lookupswitch.offset ps.toList dflt x.toInt = off) (ht : (pc : Int) + off = (tgt : Int)) (k : mj_wp G M d kc ks tgt ls st h uc us Q) : mj_wp G M d kc ks pc ls (.int x :: st) h uc us Q := by
  intro p l e0 R s m args below meth c H locs la Qm C hR hL hH hS kk
  exact lv_lookup C.1 C.2.1 hd hp ho ht (k p l e0 R s m args below meth c H locs la Qm C hR hL hH hS kk)
theorem s_tableOut {x : Int32} {dflt lo hi : Int} {offs : Array Int} {len tgt : Nat} (hd : decode M.2.1 pc = .ok (.tableswitch dflt lo hi offs, len)) (hq : x.toInt < lo ∨ hi < x.toInt) (ht : (pc : Int) + dflt = (tgt : Int)) (k : mj_wp G M d kc ks tgt ls st h uc us Q) : mj_wp G M d kc ks pc ls (.int x :: st) h uc us Q := by
  intro p l e0 R s m args below meth c H locs la Qm C hR hL hH hS kk
  exact lv_tableOut C.1 C.2.1 hd hq ht (k p l e0 R s m args below meth c H locs la Qm C hR hL hH hS kk)
theorem s_tableIn {x : Int32} {dflt lo hi off : Int} {offs : Array Int} {len tgt : Nat} (hd : decode M.2.1 pc = .ok (.tableswitch dflt lo hi offs, len)) (h1 : ¬ x.toInt < lo) (h2 : ¬ hi < x.toInt) (ho : offs[(x.toInt - lo).toNat]? = some off) (ht : (pc : Int) + off = (tgt : Int)) (k : mj_wp G M d kc ks tgt ls st h uc us Q) : mj_wp G M d kc ks pc ls (.int x :: st) h uc us Q := by
  intro p l e0 R s m args below meth c H locs la Qm C hR hL hH hS kk
  exact lv_tableIn C.1 C.2.1 hd h1 h2 ho ht (k p l e0 R s m args below meth c H locs la Qm C hR hL hH hS kk)
theorem s_ireturn {x : Int32} {ty : FieldType} (hd : decode M.2.1 pc = .ok (.ireturn, 1)) (hty : M.2.2.2 = some ty) (hna : narrow ty (.int x) = .int x) (h1 : uc ≤ kc) (h2 : us ≤ ks) (hq : Q (some (.int x)) h) : mj_wp G M d kc ks pc ls [.int x] h uc us Q := by
  intro p l e0 R s m args below meth c H locs la Qm C hR hL hH hS kk
  exact W.widen h1 h2 (kk (some (.int x)) h H locs la pc hq hH hS ⟨hd, ty, hty, hna⟩)
theorem s_lreturn {x : Int64} (hd : decode M.2.1 pc = .ok (.lreturn, 1)) (hty : M.2.2.2 = some .long) (h1 : uc ≤ kc) (h2 : us ≤ ks) (hq : Q (some (.long x)) h) : mj_wp G M d kc ks pc ls [.long x] h uc us Q := by
  intro p l e0 R s m args below meth c H locs la Qm C hR hL hH hS kk
  exact W.widen h1 h2 (kk (some (.long x)) h H locs la pc hq hH hS ⟨hd, hty⟩)
theorem s_return (hd : decode M.2.1 pc = .ok (.return_, 1)) (hty : M.2.2.2 = none) (h1 : uc ≤ kc) (h2 : us ≤ ks) (hq : Q none h) : mj_wp G M d kc ks pc ls [] h uc us Q := by
  intro p l e0 R s m args below meth c H locs la Qm C hR hL hH hS kk
  exact W.widen h1 h2 (kk none h H locs la pc hq hH hS ⟨hd, hty⟩)
theorem s_getf {idx a ci f N : Nat} {fs : List Value} {v : Value} {C0 ref nm ds : String} {T : u_T} {fin : Bool} (hd : decode M.2.1 pc = .ok (.getfield idx, 3)) (hn : pc + 3 = n) (hw : Cond.fieldLink M.1.cls idx ref nm ds ∈ mj_T) (hcl : vwCl[ci]? = some (C0, T, N)) (hin : ∀ w ∈ u_ws C0 T N, w ∈ mj_T) (hk : f < N) (hT : T f = (ref, nm, ds, fin)) (hc : h.2 a = mj_ob ci fs) (hv : fs[f]? = some v) (k : mj_wp G M d kc ks n ls (v :: st) h uc us Q) : mj_wp G M d kc ks pc ls (.ref (G.1 + a) :: st) h uc us Q := by
  intro p l e0 R s m args below meth c H locs la Qm C hR hL hH hS kk
  subst hn
  have e : (mj_ws G h)[a]? = some (G.1 + a, .inr (ci, fs)) := mj_at hH hc (mj_ob_live hcl)
  exact va_get (D := G.2.1) (ci := ci) (C := C0) (T := T) (N := N) (ref := ref) C.1 C.2.1 C.2.2.2.2.1 hin C.2.2.2.1 C.2.2.2.2.2.1.1 hH.2.1 a e hcl f hk (by rw [hT]; exact C.2.2.2.2.1 _ hw) (by rw [hT]; exact fun _ q => q) hv hd (k p l e0 R s m args below meth c H locs la Qm C hR hL hH hS kk)
theorem s_put {idx a ci f N : Nat} {fs : List Value} {v : Value} {C0 ref nm ds : String} {T : u_T} {ty : FieldType} (ty0 : Nat → FieldType) (hd : decode M.2.1 pc = .ok (.putfield idx, 3)) (hn : pc + 3 = n) (hw : Cond.fieldLink M.1.cls idx ref nm ds ∈ mj_T) (hcl : vwCl[ci]? = some (C0, T, N)) (hin : ∀ w ∈ u_ws C0 T N, w ∈ mj_T) (hty : ∀ k, k < N → parseFieldDescriptor (T k).2.2.1 = some (ty0 k)) (hnm : ∀ a, a < N → ∀ b, b < N → a ≠ b → (T a).2.1 ≠ (T b).2.1) (hk : f < N) (hT : T f = (ref, nm, ds, false)) (hds : parseFieldDescriptor ds = some ty) (hna : narrow ty v = v) (hfit : fits ty v = true) (hlen : f < fs.length) (hc : h.2 a = mj_ob ci fs) (k : mj_wp G M d kc ks n ls st (mj_up h a (mj_ob ci (fs.set f v))) uc us Q) : mj_wp G M d kc ks pc ls (v :: .ref (G.1 + a) :: st) h uc us Q := by
  intro p l e0 R s m args below meth c H locs la Qm C hR hL hH hS kk
  subst hn
  have e : (mj_ws G h)[a]? = some (G.1 + a, .inr (ci, fs)) := mj_at hH hc (mj_ob_live hcl)
  have hts := C.2.2.2.2.1
  have hK := C.2.2.2.2.2.1.1
  have hap := va_apart (own := M.1.cls) hts hin ty0 hty hnm hK hcl
  obtain ⟨r, h1, cell, q1, q2, q3, q4⟩ := hH.2.1 a _ e
  have hr : r = (C0, T, N) := Option.some.inj (h1.symm.trans hcl)
  subst hr
  obtain ⟨hSl, hfc, kC, hkC, hkind⟩ := hK.1 ci _ hcl
  obtain ⟨cf, kf, fi, fd, hi, hsl⟩ := hSl f hk
  have hi2 : s.fieldFound? (T f).1 (T f).2.1 (T f).2.2.1 = some (cf, kf, fi, fd) := hi
  rw [hT] at hi2
  have hlay := hts _ (hin _ (u_in_lay hk))
  unfold u_lay at hlay
  rw [if_neg (by rw [hT]; exact Bool.false_ne_true)] at hlay
  have hst := (u_facts hfc hkC (u_lays hts hin hk) hi).1
  have h6 := u_store hfc hkC hkind hlay hi (by rw [hT]; exact hds) hna hfit
  refine W.putK C.1 C.2.1 (f := fd) ⟨C.2.2.2.1, hts _ hw, ⟨_, _, _, hi2⟩, hst⟩ (by rw [q2]; exact h6) q1 q3 (by rw [hsl]; exact k2_hasslot (q4 f hk)) rfl rfl hd fun H' e1 e2 e3 => ?_
  rw [hsl] at e1 ⊢
  refine k p l e0 R s m args below meth c H' _ la Qm C hR hL (mj_R_up hH hc (mj_ob_live hcl) ⟨_, hcl, t_OB.to (V := updV (vp_V fs) f v) ⟨_, e1, q2, q3, t_set q4 hap hk v⟩ (fun j _ => vp_updV_set hlen v j)⟩ e2 e3) (hS.put e2 e3 (Nat.le_add_right _ _)) kk
theorem s_putF {idx a ci f N : Nat} {fs : List Value} {v : Value} {C0 ref nm ds : String} {T : u_T} {ty : FieldType} (ty0 : Nat → FieldType) (hd : decode M.2.1 pc = .ok (.putfield idx, 3)) (hn : pc + 3 = n) (hw : Cond.fieldLink M.1.cls idx ref nm ds ∈ mj_T) (hcl : vwCl[ci]? = some (C0, T, N)) (hin : ∀ w ∈ u_ws C0 T N, w ∈ mj_T) (hty : ∀ k, k < N → parseFieldDescriptor (T k).2.2.1 = some (ty0 k)) (hnm : ∀ a, a < N → ∀ b, b < N → a ≠ b → (T a).2.1 ≠ (T b).2.1) (hk : f < N) (hT : T f = (ref, nm, ds, true)) (hin2 : M.1.name = "<init>") (hdecl : ref = M.1.cls) (hds : parseFieldDescriptor ds = some ty) (hna : narrow ty v = v) (hfit : fits ty v = true) (hlen : f < fs.length) (hc : h.2 a = mj_ob ci fs) (k : mj_wp G M d kc ks n ls st (mj_up h a (mj_ob ci (fs.set f v))) uc us Q) : mj_wp G M d kc ks pc ls (v :: .ref (G.1 + a) :: st) h uc us Q := by
  intro p l e0 R s m args below meth c H locs la Qm C hR hL hH hS kk
  subst hn
  have e : (mj_ws G h)[a]? = some (G.1 + a, .inr (ci, fs)) := mj_at hH hc (mj_ob_live hcl)
  have hts := C.2.2.2.2.1
  have hK := C.2.2.2.2.2.1.1
  have hap := va_apart (own := M.1.cls) hts hin ty0 hty hnm hK hcl
  obtain ⟨r, h1, cell, q1, q2, q3, q4⟩ := hH.2.1 a _ e
  have hr : r = (C0, T, N) := Option.some.inj (h1.symm.trans hcl)
  subst hr
  obtain ⟨hSl, hfc, kC, hkC, hkind⟩ := hK.1 ci _ hcl
  obtain ⟨cf, kf, fi, fd, hi, hsl⟩ := hSl f hk
  have hi2 : s.fieldFound? (T f).1 (T f).2.1 (T f).2.2.1 = some (cf, kf, fi, fd) := hi
  rw [hT] at hi2
  have hlay := hts _ (hin _ (u_in_lay hk))
  unfold u_lay at hlay
  rw [if_pos (by rw [hT])] at hlay
  have hst := (u_facts hfc hkC (u_lays hts hin hk) hi).1
  have hcf : m.cls = cf := by
    obtain ⟨_, _, c', _, _, _, -, -, hf', -, -, -, hown2, -⟩ := Cond.laysFinal_spec hlay
    have e1 : c' = cf := by have := hi.symm.trans hf'; simp at this; exact this.1.symm
    rw [hT] at hown2
    simp only [hdecl] at hown2
    rw [← e1]; exact Option.some.inj (C.2.2.2.1.symm.trans hown2)
  have h6 := u_fits hfc hkC hkind (Or.inr hlay) hi (by rw [hT]; exact hds) hna hfit
  refine W.putFinK C.1 C.2.1 C.2.2.2.1 (hts _ hw) hi2 hst hcf (C.2.2.2.2.2.2.2.2.trans hin2) (by rw [q2]; exact h6) q1 q3 (by rw [hsl]; exact k2_hasslot (q4 f hk)) rfl rfl hd fun H' e1 e2 e3 => ?_
  rw [hsl] at e1 ⊢
  refine k p l e0 R s m args below meth c H' _ la Qm C hR hL (mj_R_up hH hc (mj_ob_live hcl) ⟨_, hcl, t_OB.to (V := updV (vp_V fs) f v) ⟨_, e1, q2, q3, t_set q4 hap hk v⟩ (fun j _ => vp_updV_set hlen v j)⟩ e2 e3) (hS.put e2 e3 (Nat.le_add_right _ _)) kk
theorem s_iald {a N j : Nat} {f : Nat → Int32} {i : Int32} (hd : decode M.2.1 pc = .ok (.iaload, 1)) (hn : pc + 1 = n) (hc : h.2 a = mj_ar 0 N f) (hi : mj_ix i N j) (k : mj_wp G M d kc ks n ls (.int (f j) :: st) h uc us Q) : mj_wp G M d kc ks pc ls (.int i :: .ref (G.1 + a) :: st) h uc us Q := by
  intro p l e0 R s m args below meth c H locs la Qm C hR hL hH hS kk
  subst hn
  have e : (mj_ws G h)[a]? = some (G.1 + a, .inl (G.2.2.1 0, N, .inl f)) := mj_at hH hc mj_ar_live
  rw [← hi.2] at k
  exact va_iald C.1 C.2.1 C.2.2.2.2.2.1.1 hH.2.1 a 0 e rfl hi.1 hd (k p l e0 R s m args below meth c H locs la Qm C hR hL hH hS kk)
theorem s_zald {a N j : Nat} {f : Nat → Int32} {i : Int32} (hd : decode M.2.1 pc = .ok (.baload, 1)) (hn : pc + 1 = n) (hc : h.2 a = mj_ar 1 N f) (hi : mj_ix i N j) (k : mj_wp G M d kc ks n ls (.int (f j) :: st) h uc us Q) : mj_wp G M d kc ks pc ls (.int i :: .ref (G.1 + a) :: st) h uc us Q := by
  intro p l e0 R s m args below meth c H locs la Qm C hR hL hH hS kk
  subst hn
  have e : (mj_ws G h)[a]? = some (G.1 + a, .inl (G.2.2.1 1, N, .inl f)) := mj_at hH hc mj_ar_live
  rw [← hi.2] at k
  exact va_zald C.1 C.2.1 C.2.2.2.2.2.1.1 hH.2.1 a 1 e rfl hi.1 hd (k p l e0 R s m args below meth c H locs la Qm C hR hL hH hS kk)
theorem s_aald {a N j t x : Nat} {C0 : String} {f : Nat → Option Nat} {i : Int32} (hd : decode M.2.1 pc = .ok (.aaload, 1)) (hn : pc + 1 = n) (hty : (mj_tys G)[t]? = some (G.2.2.1 t, .object C0)) (hc : h.2 a = mj_ra t N f) (hi : mj_ix i N j) (hx : f j = some (G.1 + x)) (k : mj_wp G M d kc ks n ls (.ref (G.1 + x) :: st) h uc us Q) : mj_wp G M d kc ks pc ls (.int i :: .ref (G.1 + a) :: st) h uc us Q := by
  intro p l e0 R s m args below meth c H locs la Qm C hR hL hH hS kk
  subst hn
  have e : (mj_ws G h)[a]? = some (G.1 + a, .inl (G.2.2.1 t, N, .inr (.inr (.inr (.inr f))))) := mj_at hH hc mj_ra_live
  refine va_aldq C.1 C.2.1 C.2.2.2.2.2.1.1 hH.2.1 a t e hty hi.1 hd ?_
  rw [hi.2, hx]
  exact k p l e0 R s m args below meth c H locs la Qm C hR hL hH hS kk
theorem s_alen {a N t : Nat} {f : Nat → Int32} {v : Int32} {ty : FieldType} (hd : decode M.2.1 pc = .ok (.arraylength, 1)) (hn : pc + 1 = n) (hty : (mj_tys G)[t]? = some (G.2.2.1 t, ty)) (hc : h.2 a = mj_ar t N f) (hv : Int32.ofNat N = v) (k : mj_wp G M d kc ks n ls (.int v :: st) h uc us Q) : mj_wp G M d kc ks pc ls (.ref (G.1 + a) :: st) h uc us Q := by
  intro p l e0 R s m args below meth c H locs la Qm C hR hL hH hS kk
  subst hn
  have e : (mj_ws G h)[a]? = some (G.1 + a, .inl (G.2.2.1 t, N, .inl f)) := mj_at hH hc mj_ar_live
  exact va_alen C.1 C.2.1 C.2.2.2.2.2.1.1 hH.2.1 a t e hty hv hd (k p l e0 R s m args below meth c H locs la Qm C hR hL hH hS kk)
theorem s_iast {a N j : Nat} {f : Nat → Int32} {i x : Int32} (hd : decode M.2.1 pc = .ok (.iastore, 1)) (hn : pc + 1 = n) (hc : h.2 a = mj_ar 0 N f) (hi : mj_ix i N j) (k : mj_wp G M d kc ks n ls st (mj_up h a (mj_ar 0 N (upd f j x))) uc us Q) : mj_wp G M d kc ks pc ls (.int x :: .int i :: .ref (G.1 + a) :: st) h uc us Q := by
  intro p l e0 R s m args below meth c H locs la Qm C hR hL hH hS kk
  subst hn
  have e : (mj_ws G h)[a]? = some (G.1 + a, .inl (G.2.2.1 0, N, .inl f)) := mj_at hH hc mj_ar_live
  have hK := C.2.2.2.2.2.1.1
  rw [← hi.2] at k
  refine W.iast C.1 C.2.1 (hH.2.1 a _ e) ((hK.2 0 _ rfl).1 N (fun j => .int (f j))) (fun q => by cases q) (by show ¬ (i < 0 ∨ (arrV _ _ _).slots.size ≤ _); rw [arrV_size]; exact hi.1) rfl rfl hd fun H1 e1 z oq => ?_
  refine k p l e0 R s m args below meth c H1 _ la Qm C hR hL (mj_R_up hH hc mj_ar_live ?_ z oq) (hS.put z oq (Nat.le_add_right _ _)) kk
  show H1[G.1 + a]? = some (vp_cell (G.2.2.1 0) (N, .inl _))
  rw [e1]
  show some ((vp_cell (G.2.2.1 0) (N, .inl f)).setSlot _ _) = _
  rw [vp_cell_i, vp_cell_i, arrV_store]
  congr 2
  funext q
  by_cases hq : q = i.toNatClampNeg
  · subst hq
    simp [updV, upd]
    try rfl
  · simp [updV, upd, hq]
theorem s_zast {a N j : Nat} {f : Nat → Int32} {i x : Int32} (hd : decode M.2.1 pc = .ok (.bastore, 1)) (hn : pc + 1 = n) (hc : h.2 a = mj_ar 1 N f) (hi : mj_ix i N j) (k : mj_wp G M d kc ks n ls st (mj_up h a (mj_ar 1 N (upd f j (vp_nar .boolean x)))) uc us Q) : mj_wp G M d kc ks pc ls (.int x :: .int i :: .ref (G.1 + a) :: st) h uc us Q := by
  intro p l e0 R s m args below meth c H locs la Qm C hR hL hH hS kk
  subst hn
  have e : (mj_ws G h)[a]? = some (G.1 + a, .inl (G.2.2.1 1, N, .inl f)) := mj_at hH hc mj_ar_live
  have hK := C.2.2.2.2.2.1.1
  rw [← hi.2] at k
  refine W.zast C.1 C.2.1 (hH.2.1 a _ e) ((hK.2 1 _ rfl).1 N (fun j => .int (f j))) (fun q => by cases q) (by show ¬ (i < 0 ∨ (arrV _ _ _).slots.size ≤ _); rw [arrV_size]; exact hi.1) rfl rfl hd fun H1 e1 z oq => ?_
  refine k p l e0 R s m args below meth c H1 _ la Qm C hR hL (mj_R_up hH hc mj_ar_live ?_ z oq) (hS.put z oq (Nat.le_add_right _ _)) kk
  show H1[G.1 + a]? = some (vp_cell (G.2.2.1 1) (N, .inl _))
  rw [e1]
  show some ((vp_cell (G.2.2.1 1) (N, .inl f)).setSlot _ _) = _
  rw [vp_cell_i, vp_cell_i, arrV_store]
  congr 2
  funext q
  by_cases hq : q = i.toNatClampNeg
  · subst hq
    simp [updV, upd, vp_nar]
    try rfl
  · simp [updV, upd, hq]
theorem s_aast {a N j t x ci N2 : Nat} {T : u_T} {C0 : String} {vs : List Value} {f : Nat → Option Nat} {i : Int32} (hd : decode M.2.1 pc = .ok (.aastore, 1)) (hn : pc + 1 = n) (hty : (mj_tys G)[t]? = some (G.2.2.1 t, .object C0)) (hcl : vwCl[ci]? = some (C0, T, N2)) (hc : h.2 a = mj_ra t N f) (hi : mj_ix i N j) (hx : h.2 x = mj_ob ci vs) (k : mj_wp G M d kc ks n ls st (mj_up h a (mj_ra t N (va_up f j (some (G.1 + x))))) uc us Q) : mj_wp G M d kc ks pc ls (.ref (G.1 + x) :: .int i :: .ref (G.1 + a) :: st) h uc us Q := by
  intro p l e0 R s m args below meth c H locs la Qm C hR hL hH hS kk
  subst hn
  have e : (mj_ws G h)[a]? = some (G.1 + a, .inl (G.2.2.1 t, N, .inr (.inr (.inr (.inr f))))) := mj_at hH hc mj_ra_live
  have ex : (mj_ws G h)[x]? = some (G.1 + x, .inr (ci, vs)) := mj_at hH hx (mj_ob_live hcl)
  have hK := C.2.2.2.2.2.1.1
  rw [← hi.2] at k
  have hlt : i.toNatClampNeg < N := Nat.not_le.mp fun q => hi.1 (Or.inr q)
  have h0 : ¬ i < 0 := fun q => hi.1 (Or.inl q)
  obtain ⟨r', hr', cellV, g1, g2, g3, -⟩ := hH.2.1 x _ ex
  have hcls := (hK.1 ci _ hcl).2
  obtain ⟨kA, comp, k1, k2, k3, -⟩ := (hK.2 t _ hty).2
  have hcomp : comp = G.2.1.1 ci := Option.some.inj (k3.symm.trans hcls.1)
  subst hcomp
  obtain ⟨kC, hkC, -⟩ := hcls.2
  refine W.aast C.1 C.2.1 (hH.2.1 a _ e) (fun q h => by cases h) (fun h => by cases h) k1 k2 rfl hkC ⟨h0, by show _ < (arrV _ _ _).slots.size; rw [arrV_size]; exact hlt⟩ g1 (fun q h => by rw [g3] at h; cases h) (by rw [g2]; exact hkC) (by rw [g2]; exact va_assign hcls) rfl rfl hd fun H1 e1 z oq => ?_
  refine k p l e0 R s m args below meth c H1 _ la Qm C hR hL (mj_R_up hH hc mj_ra_live ?_ z oq) (hS.put z oq (Nat.le_add_right _ _)) kk
  show H1[G.1 + a]? = some (vp_cell (G.2.2.1 t) (N, .inr (.inr (.inr (.inr _)))))
  rw [e1]
  show some ((vp_cell (G.2.2.1 t) (N, .inr (.inr (.inr (.inr f))))).setSlot _ _) = _
  rw [vp_cell_q, vp_cell_q, arrV_store]
  congr 2
  funext q
  by_cases hq : q = i.toNatClampNeg
  · subst hq
    simp [updV, va_up, va_rf]
  · simp [updV, va_up, hq]
theorem s_sld {j : Nat} {i : Int32} (hd : decode M.2.1 pc = .ok (.iaload, 1)) (hn : pc + 1 = n) (hi : mj_ix i G.2.2.2.2.1 j) (k : mj_wp G M d kc ks n ls (.int (G.2.2.2.2.2 j) :: st) h uc us Q) : mj_wp G M d kc ks pc ls (.int i :: .ref (G.2.2.2.1 0) :: st) h uc us Q := by
  intro p l e0 R s m args below meth c H locs la Qm C hR hL hH hS kk
  subst hn
  rw [← hi.2] at k
  obtain ⟨-, -, -, -, -, -, -, hX, hb, hsz⟩ := C.2.2.2.2.2.1
  exact va_sld C.1 C.2.1 hX (by omega) (fun q => by unfold mj_A at q; omega) hS hi.1 hd (k p l e0 R s m args below meth c H locs la Qm C hR hL hH hS kk)
theorem s_slen {v : Int32} (hd : decode M.2.1 pc = .ok (.arraylength, 1)) (hn : pc + 1 = n) (hv : Int32.ofNat G.2.2.2.2.1 = v) (k : mj_wp G M d kc ks n ls (.int v :: st) h uc us Q) : mj_wp G M d kc ks pc ls (.ref (G.2.2.2.1 0) :: st) h uc us Q := by
  intro p l e0 R s m args below meth c H locs la Qm C hR hL hH hS kk
  subst hn
  subst hv
  obtain ⟨-, -, -, -, -, -, -, hX, hb, hsz⟩ := C.2.2.2.2.2.1
  exact va_slen C.1 C.2.1 hX (by omega) (fun q => by unfold mj_A at q; omega) hS hd (k p l e0 R s m args below meth c H locs la Qm C hR hL hH hS kk)
theorem s_gets1 {idx : Nat} (hd : decode M.2.1 pc = .ok (.getstatic idx, 3)) (hn : pc + 3 = n) (hw : Cond.fieldLink M.1.cls idx RX4 "PARENTS" "[I" ∈ mj_T) (k : mj_wp G M d kc ks n ls (.ref (G.2.2.2.1 1) :: st) h uc us Q) : mj_wp G M d kc ks pc ls st h uc us Q := by
  intro p l e0 R s m args below meth c H locs la Qm C hR hL hH hS kk
  subst hn
  obtain ⟨-, -, -, -, -, ⟨z1, z2, z3⟩, -⟩ := C.2.2.2.2.2.1
  exact va_gets C.1 C.2.1 z1 hS C.2.2.2.1 (C.2.2.2.2.1 _ hw) (fun _ q => q) hd (k p l e0 R s m args below meth c H locs la Qm C hR hL hH hS kk)
theorem s_gets2 {idx : Nat} (hd : decode M.2.1 pc = .ok (.getstatic idx, 3)) (hn : pc + 3 = n) (hw : Cond.fieldLink M.1.cls idx RX4 "SIZE_BODIES" "[I" ∈ mj_T) (k : mj_wp G M d kc ks n ls (.ref (G.2.2.2.1 2) :: st) h uc us Q) : mj_wp G M d kc ks pc ls st h uc us Q := by
  intro p l e0 R s m args below meth c H locs la Qm C hR hL hH hS kk
  subst hn
  obtain ⟨-, -, -, -, -, ⟨z1, z2, z3⟩, -⟩ := C.2.2.2.2.2.1
  exact va_gets C.1 C.2.1 z2 hS C.2.2.2.1 (C.2.2.2.2.1 _ hw) (fun _ q => q) hd (k p l e0 R s m args below meth c H locs la Qm C hR hL hH hS kk)
theorem s_gets3 {idx : Nat} (hd : decode M.2.1 pc = .ok (.getstatic idx, 3)) (hn : pc + 3 = n) (hw : Cond.fieldLink M.1.cls idx RX4 "MARK_BODIES" "[I" ∈ mj_T) (k : mj_wp G M d kc ks n ls (.ref (G.2.2.2.1 3) :: st) h uc us Q) : mj_wp G M d kc ks pc ls st h uc us Q := by
  intro p l e0 R s m args below meth c H locs la Qm C hR hL hH hS kk
  subst hn
  obtain ⟨-, -, -, -, -, ⟨z1, z2, z3⟩, -⟩ := C.2.2.2.2.2.1
  exact va_gets C.1 C.2.1 z3 hS C.2.2.2.1 (C.2.2.2.2.1 _ hw) (fun _ q => q) hd (k p l e0 R s m args below meth c H locs la Qm C hR hL hH hS kk)
theorem s_tald {t j : Nat} {i : Int32} (ht1 : 1 ≤ t) (ht3 : t ≤ 3) (hd : decode M.2.1 pc = .ok (.iaload, 1)) (hn : pc + 1 = n) (hi : mj_ix i 6 j) (k : mj_wp G M d kc ks n ls (.int (mj_tab t j) :: st) h uc us Q) : mj_wp G M d kc ks pc ls (.int i :: .ref (G.2.2.2.1 t) :: st) h uc us Q := by
  intro p l e0 R s m args below meth c H locs la Qm C hR hL hH hS kk
  subst hn
  rw [← hi.2] at k
  obtain ⟨-, -, -, -, -, -, hT, -⟩ := C.2.2.2.2.2.1
  exact va_ti C.1 C.2.1 (hT t ht1 ht3) hS hi.1 rfl hd (k p l e0 R s m args below meth c H locs la Qm C hR hL hH hS kk)
theorem s_cpy {idx a b na nb ja jb jn : Nat} {f g : Nat → Int32} {sp dp z : Int32} (hd : decode M.2.1 pc = .ok (.invokestatic idx, 3)) (hn : pc + 3 = n) (hw : Cond.methodLink M.1.cls idx arraycopyName ∈ mj_T) (hd1 : 2 ≤ d) (hrm : (st.map fun v => v.category).sum ≤ 8) (ha : h.2 a = mj_ar 0 na f) (hb : h.2 b = mj_ar 0 nb g) (h1 : ¬ sp < 0) (h2 : ¬ dp < 0) (h3 : ¬ z < 0) (e1 : sp.toNatClampNeg = ja) (e2 : dp.toNatClampNeg = jb) (e3 : z.toNatClampNeg = jn) (h4 : ja + jn ≤ na) (h5 : jb + jn ≤ nb) (k : mj_wp G M d kc ks n ls st (mj_up h b (mj_ar 0 nb (va_cpy f g ja jb jn))) uc us Q) : mj_wp G M d kc ks pc ls (.int z :: .int dp :: .ref (G.1 + b) :: .int sp :: .ref (G.1 + a) :: st) h uc us Q := by
  intro p l e0 R s m args below meth c H locs la Qm C hR hL hH hS kk
  subst hn
  subst e1 e2 e3
  have nn : ∀ z : Int32, ¬ z < 0 → z.toInt = (z.toNatClampNeg : Int) := by
    intro z hz
    have hz0 : (0 : Int) ≤ z.toInt := by
      have := Int32.not_lt.mp hz
      simpa using Int32.le_iff_toInt_le.mp this
    show z.toInt = ((z.toInt.toNat : Nat) : Int)
    omega
  have hK := C.2.2.2.2.2.1.1
  have hts := C.2.2.2.2.1
  have ea : (mj_ws G h)[a]? = some (G.1 + a, .inl (G.2.2.1 0, na, .inl f)) := mj_at hH ha mj_ar_live
  have eb : (mj_ws G h)[b]? = some (G.1 + b, .inl (G.2.2.1 0, nb, .inl g)) := mj_at hH hb mj_ar_live
  intro T hT X
  have hc0 : H[G.1 + a]? = some (vp_cell (G.2.2.1 0) (na, .inl f)) := hH.2.1 a _ ea
  have hc1 : H[G.1 + b]? = some (vp_cell (G.2.2.1 0) (nb, .inl g)) := hH.2.1 b _ eb
  obtain ⟨-, k0, hk0, cm0, hkk0⟩ := (hK.2 0 _ rfl).1 na (fun j => .int (f j))
  obtain ⟨-, k1, hk1, cm1, hkk1⟩ := (hK.2 0 _ rfl).1 nb (fun j => .int (g j))
  obtain ⟨vm', X', step⟩ := X.arraycopy C.1 C.2.2.2.1 (hts _ hw) (hts _ wNat_cpy) (hts _ wSt_cpy) (hts _ wNi_sys) (src := G.1 + a) (dst := G.1 + b) (cs := vp_cell (G.2.2.1 0) (na, .inl f)) (cd := vp_cell (G.2.2.1 0) (nb, .inl g)) (srcPos := sp) (destPos := dp) (n := z) (by rw [hT]; exact hc0) (by rw [hT]; exact hc1)
    (fun _ h => by cases h) (fun _ h => by cases h) (fun h => by cases h) (fun h => by cases h) hk0 hk1 hkk0 hkk1 (by simp [refKind]) h1 h2 h3
    (by rw [nn sp h1, nn z h3]; show ¬ _ > ((arrV (G.2.2.1 0) na (fun j => .int (f j))).slots.size : Int); rw [arrV_size]; omega)
    (by rw [nn dp h2, nn z h3]; show ¬ _ > ((arrV (G.2.2.1 0) nb (fun j => .int (g j))).slots.size : Int); rw [arrV_size]; omega)
    (fun vm₁ _ i hi => by
      have e : (vp_cell (G.2.2.1 0) (na, .inl f)).slots.getD (sp.toNatClampNeg + i) .null = .int (f (sp.toNatClampNeg + i)) := by
        show (arrV (G.2.2.1 0) na (fun j => .int (f j))).slots.getD _ _ = _
        rw [Array.getD_eq_getD_getElem?, arrV_read _ _ (by omega)]
        rfl
      refine ⟨?_, ?_⟩
      · rw [e]
        rfl
      · rw [e]
        exact trivial)
    (g := F0 m pc la (.int z :: .int dp :: .ref (G.1 + b) :: .int sp :: .ref (G.1 + a) :: st)) rfl (by rw [C.2.2.1]; exact hL.1) (rest := st) rfl (by rw [C.2.1]; exact hd) (by omega) (by show 2 * 0 + _ + (nativeFrameWords "java/lang/System" "arraycopy" 5 + 11) ≤ _; have hq : nativeFrameWords "java/lang/System" "arraycopy" 5 + 11 ≤ 60 := (by decide); omega)
  have ec : copied (vp_cell (G.2.2.1 0) (na, .inl f)) (vp_cell (G.2.2.1 0) (nb, .inl g)) sp dp z = vp_cell (G.2.2.1 0) (nb, .inl (va_cpy f g sp.toNatClampNeg dp.toNatClampNeg z.toNatClampNeg)) := va_copied (fun z => .int z) _ _ f g h4
  rw [ec] at X' step
  have hl : G.1 + b < H.size := (Array.getElem?_eq_some_iff.mp hc1).1
  have hheap : ((T.setVm vm').setCell (G.1 + b) (vp_cell (G.2.2.1 0) (nb, .inl (va_cpy f g sp.toNatClampNeg dp.toNatClampNeg z.toNatClampNeg)))).heap = H.setIfInBounds (G.1 + b) (vp_cell (G.2.2.1 0) (nb, .inl (va_cpy f g sp.toNatClampNeg dp.toNatClampNeg z.toNatClampNeg))) := by rw [← hT]; rfl
  have oq : ∀ q : Nat, q ≠ G.1 + b → (H.setIfInBounds (G.1 + b) (vp_cell (G.2.2.1 0) (nb, .inl (va_cpy f g sp.toNatClampNeg dp.toNatClampNeg z.toNatClampNeg))))[q]? = H[q]? := fun q hq => by simp [Array.getElem?_setIfInBounds, Ne.symm hq]
  obtain ⟨t, a1, b1⟩ := k p l e0 R s m args below meth c _ (locs ++ _) la Qm C hR hL (mj_R_up hH hb mj_ar_live (show (H.setIfInBounds (G.1 + b) _)[G.1 + b]? = some _ by simp [Array.getElem?_setIfInBounds, hl]) (by simp) oq) ⟨by simp; exact hS.1, fun q g1 g2 => by
      rw [oq q (fun e => g2 (by rw [e]; exact Nat.le_add_right _ _))]
      exact hS.2.1 q g1 g2, fun q hq => by
      rcases List.mem_append.mp hq with h | h
      · exact hS.2.2 q h
      · obtain ⟨z, -, hz⟩ := List.mem_map.mp h
        rw [← hz]
        exact Nat.le_add_right _ _⟩ kk _ hheap X'
  exact ⟨t, step t a1, b1⟩
theorem s_max {idx : Nat} {x y : Int32} (hd : decode M.2.1 pc = .ok (.invokestatic idx, 3)) (hn : pc + 3 = n) (hw : Cond.methodLink M.1.cls idx Lib.Math.max.name ∈ mj_T) (hd1 : 1 ≤ d) (hrm : (st.map fun v => v.category).sum ≤ 8) (huc : uc ≤ kc) (hus : us ≤ ks) (k : mj_wp G M d kc ks n ls (.int (if x < y then y else x) :: st) h uc us Q) : mj_wp G M d kc ks pc ls (.int y :: .int x :: st) h uc us Q := by
  intro p l e0 R s m args below meth c H locs la Qm C hR hL hH hS kk
  subst hn
  have hts := C.2.2.2.2.1
  exact va_mmax C.1 C.2.1 (C.2.2.1.trans hL.1.symm) C.2.2.2.1 (hts _ hw) (hts _ (tb_k (i := 397) (by decide +kernel) (by decide +kernel))) (hts _ (tb_k (i := 9) (by decide +kernel) (by decide +kernel))) (hts _ (tb_k (i := 398) (by decide +kernel) (by decide +kernel))) (by omega) (by omega) (by omega) (by omega) hd (k p l e0 R s m args below meth c H locs la Qm C hR hL hH hS kk)
theorem s_min {idx : Nat} {x y : Int32} (hd : decode M.2.1 pc = .ok (.invokestatic idx, 3)) (hn : pc + 3 = n) (hw : Cond.methodLink M.1.cls idx Lib.Math.min.name ∈ mj_T) (hd1 : 1 ≤ d) (hrm : (st.map fun v => v.category).sum ≤ 8) (huc : uc ≤ kc) (hus : us ≤ ks) (k : mj_wp G M d kc ks n ls (.int (if y < x then y else x) :: st) h uc us Q) : mj_wp G M d kc ks pc ls (.int y :: .int x :: st) h uc us Q := by
  intro p l e0 R s m args below meth c H locs la Qm C hR hL hH hS kk
  subst hn
  have hts := C.2.2.2.2.1
  exact va_mmin C.1 C.2.1 (C.2.2.1.trans hL.1.symm) C.2.2.2.1 (hts _ hw) (hts _ (tb_k (i := 344) (by decide +kernel) (by decide +kernel))) (hts _ (tb_k (i := 9) (by decide +kernel) (by decide +kernel))) (hts _ (tb_k (i := 345) (by decide +kernel) (by decide +kernel))) (by omega) (by omega) (by omega) (by omega) hd (k p l e0 R s m args below meth c H locs la Qm C hR hL hH hS kk)
theorem s_virt {M' : mj_M} {np d' kc' ks' idx a ci N : Nat} {As rest fs : List Value} {T : u_T} {Q' : Option Value → mj_H → Prop} (hd : decode M.2.1 pc = .ok (.invokevirtual idx, 3)) (hn : pc + 3 = n) (hw : Cond.methodLink M.1.cls idx M'.1 ∈ mj_T) (ok : mj_okV M' np) (hA : As.length = np) (hdd : d' + 1 ≤ d) (hkc : uc + kc' ≤ kc) (hks : us + ks' ≤ ks) (hcl : vwCl[ci]? = some (M'.1.cls, T, N)) (hc : h.2 a = mj_ob ci fs) (hrm : Nat.ble (rest.map fun v => v.category).sum 8 = true) (hcon : mj_con G M' d' kc' ks' (.ref (G.1 + a) :: As) h Q') (k : ∀ v h', Q' v h' → mj_wp G M d kc ks n ls (v.toList ++ rest) h' (uc + kc') (us + ks') Q) : mj_wp G M d kc ks pc ls (As.reverse ++ .ref (G.1 + a) :: rest) h uc us Q := by
  intro p l e0 R s m args below meth c H locs la Qm C hR hL hH hS kk
  subst hn
  have e : (mj_ws G h)[a]? = some (G.1 + a, .inr (ci, fs)) := mj_at hH hc (mj_ob_live hcl)
  have hts := C.2.2.2.2.1
  have hO := C.2.2.2.2.2.1
  obtain ⟨okm, w2, w3⟩ := ok
  refine mj_call (va_runV (As := As) (rest := rest) ⟨C.1, C.2.1, C.2.2.1, C.2.2.2.1, hts⟩ (hcon l) (cwV np hts (mj_goodV hw w2 w3 okm) rfl rfl rfl ⟨rfl, okm.2.2.2.1⟩ ⟨by show d' + 1 ≤ _; omega, by show 8 + (M'.2.2.1 + 11) + 40 * d' ≤ _; have := okm.2.2.2.2; omega⟩) ⟨mj_blind, va_recv hO.1 hH.2.1 hcl e, fun U hU hW => ⟨rfl, by rw [hU]; exact hH, mj_O_at hO hW hU hS⟩⟩ rfl hA hL.1 rfl (lv_room (mj_ble hrm)) hd ⟨by omega, by omega⟩) hS (fun v h' H1 locs1 hq hR1 hS1 => ?_)
  exact k v h' hq p l e0 R s m args below meth c H1 locs1 la Qm C hR hL hR1 hS1 kk
theorem s_stat {M' : mj_M} {np d' kc' ks' idx : Nat} {As rest : List Value} {Q' : Option Value → mj_H → Prop} (hd : decode M.2.1 pc = .ok (.invokestatic idx, 3)) (hn : pc + 3 = n) (hw : Cond.methodLink M.1.cls idx M'.1 ∈ mj_T) (ok : mj_okS M' np) (hA : As.length = np) (hdd : d' + 1 ≤ d) (hkc : uc + kc' ≤ kc) (hks : us + ks' ≤ ks) (hrm : Nat.ble (rest.map fun v => v.category).sum 8 = true) (hcon : mj_con G M' d' kc' ks' As h Q') (k : ∀ v h', Q' v h' → mj_wp G M d kc ks n ls (v.toList ++ rest) h' (uc + kc') (us + ks') Q) : mj_wp G M d kc ks pc ls (As.reverse ++ rest) h uc us Q := by
  intro p l e0 R s m args below meth c H locs la Qm C hR hL hH hS kk
  subst hn
  have hts := C.2.2.2.2.1
  have hO := C.2.2.2.2.2.1
  obtain ⟨okm, w2⟩ := ok
  refine mj_call (va_runS (As := As) (rest := rest) ⟨C.1, C.2.1, C.2.2.1, C.2.2.2.1, hts⟩ (hcon l) ⟨callB_of np hts (mj_goodM okm) rfl rfl rfl (hts _ okm.2.1) (hts _ hw) okm.2.2.2.1 ⟨by show d' + 1 ≤ _; omega, by show 8 + (M'.2.2.1 + 11) + 40 * d' ≤ _; have := okm.2.2.2.2; omega⟩, hts _ w2⟩ ⟨mj_blind, fun U hU hW => ⟨rfl, by rw [hU]; exact hH, mj_O_at hO hW hU hS⟩⟩ rfl hA hL.1 rfl (lv_room (mj_ble hrm)) hd ⟨by omega, by omega⟩) hS (fun v h' H1 locs1 hq hR1 hS1 => ?_)
  exact k v h' hq p l e0 R s m args below meth c H1 locs1 la Qm C hR hL hR1 hS1 kk
theorem s_spec {M' : mj_M} {np d' kc' ks' idx a : Nat} {As rest : List Value} {Q' : Option Value → mj_H → Prop} (hd : decode M.2.1 pc = .ok (.invokespecial idx, 3)) (hn : pc + 3 = n) (hw : Cond.methodLink M.1.cls idx M'.1 ∈ mj_T) (ok : mj_okI M' np) (hret : M'.2.2.2 = none) (hA : As.length = np) (hdd : d' + 1 ≤ d) (hkc : uc + kc' ≤ kc) (hks : us + ks' ≤ ks) (hrm : Nat.ble (rest.map fun v => v.category).sum 8 = true) (hcon : mj_con G M' d' kc' ks' (.ref a :: As) h Q') (k : ∀ v h', Q' v h' → mj_wp G M d kc ks n ls (v.toList ++ rest) h' (uc + kc') (us + ks') Q) : mj_wp G M d kc ks pc ls (As.reverse ++ .ref a :: rest) h uc us Q := by
  intro p l e0 R s m args below meth c H locs la Qm C hR hL hH hS kk
  subst hn
  have hts := C.2.2.2.2.1
  have hO := C.2.2.2.2.2.1
  obtain ⟨okm, w2, w3⟩ := ok
  have hcl := hcon l
  rw [hret] at hcl
  have hg := mj_goodM okm
  rw [hret] at hg
  refine mj_call (va_runI (As := As) (rest := rest) ⟨C.1, C.2.1, C.2.2.1, C.2.2.2.1, hts⟩ hcl (cwI np hts hg rfl rfl rfl (hts _ okm.2.1) (hts _ hw) (hts _ w2) w3 okm.2.2.2.1 ⟨by show d' + 1 ≤ _; omega, by show 8 + (M'.2.2.1 + 11) + 40 * d' ≤ _; have := okm.2.2.2.2; omega⟩) ⟨mj_blind, fun U hU hW => ⟨rfl, by rw [hU]; exact hH, mj_O_at hO hW hU hS⟩⟩ rfl hA hL.1 rfl (lv_room (mj_ble hrm)) hd ⟨by omega, by omega⟩) hS (fun v h' H1 locs1 hq hR1 hS1 => ?_)
  exact k v h' hq p l e0 R s m args below meth c H1 locs1 la Qm C hR hL hR1 hS1 kk
theorem s_nest1 {M' : mj_M} {np d' : Nat} {As rest : List Value} {Q' : Option Value → mj_H → Prop} (hM : M.1.cls = RX3) (hM' : M'.1 = yX4_isWithin) (hd : decode M.2.1 pc = .ok (.invokestatic 73, 3)) (hn : pc + 3 = n) (ok : mj_okS M' np) (hA : As.length = np) (hdd : d' + 1 ≤ d) (hkc : uc ≤ kc) (hks : us ≤ ks) (hrm : Nat.ble (rest.map fun v => v.category).sum 8 = true) (hcon : mj_con G M' d' 0 0 As h Q') (k : ∀ v h', Q' v h' → mj_wp G M d kc ks n ls (v.toList ++ rest) h' uc us Q) : mj_wp G M d kc ks pc ls (As.reverse ++ rest) h uc us Q := by
  intro p l e0 R s m args below meth c H locs la Qm C hR hL hH hS kk
  subst hn
  have hts := C.2.2.2.2.1
  have hO := C.2.2.2.2.2.1
  obtain ⟨okm, w2⟩ := ok
  have hnw : va_Nw (.methodLinkNest RX3 73 M'.1 "NearlySaid") s := by rw [hM']; exact hO.2.1
  have hown : s.vm.findClass RX3 = some m.cls := by rw [← hM]; exact C.2.2.2.1
  refine mj_call (va_runSN (As := As) (rest := rest) ⟨C.1, C.2.1, C.2.2.1, hown, hts⟩ (hcon l) ⟨va_cnB np hts (mj_goodM okm) rfl rfl rfl hnw (hts _ okm.2.1) okm.2.2.2.1 ⟨by show d' + 1 ≤ _; omega, by show 8 + (M'.2.2.1 + 11) + 40 * d' ≤ _; have := okm.2.2.2.2; omega⟩, hts _ w2, trivial⟩ ⟨mj_blind, fun U hU hW => ⟨rfl, by rw [hU]; exact hH, mj_O_at hO hW hU hS⟩⟩ rfl hA hL.1 rfl (lv_room (mj_ble hrm)) hd ⟨by omega, by omega⟩) hS (fun v h' H1 locs1 hq hR1 hS1 => ?_)
  exact k v h' hq p l e0 R s m args below meth c H1 locs1 la Qm C hR hL hR1 hS1 kk
theorem s_nest2 {M' : mj_M} {np d' : Nat} {As rest : List Value} {Q' : Option Value → mj_H → Prop} (hM : M.1.cls = RX2) (hM' : M'.1 = yX4_shedBy) (hd : decode M.2.1 pc = .ok (.invokestatic 77, 3)) (hn : pc + 3 = n) (ok : mj_okS M' np) (hA : As.length = np) (hdd : d' + 1 ≤ d) (hkc : uc ≤ kc) (hks : us ≤ ks) (hrm : Nat.ble (rest.map fun v => v.category).sum 8 = true) (hcon : mj_con G M' d' 0 0 As h Q') (k : ∀ v h', Q' v h' → mj_wp G M d kc ks n ls (v.toList ++ rest) h' uc us Q) : mj_wp G M d kc ks pc ls (As.reverse ++ rest) h uc us Q := by
  intro p l e0 R s m args below meth c H locs la Qm C hR hL hH hS kk
  subst hn
  have hts := C.2.2.2.2.1
  have hO := C.2.2.2.2.2.1
  obtain ⟨okm, w2⟩ := ok
  have hnw : va_Nw (.methodLinkNest RX2 77 M'.1 "NearlySaid") s := by rw [hM']; exact hO.2.2.1
  have hown : s.vm.findClass RX2 = some m.cls := by rw [← hM]; exact C.2.2.2.1
  refine mj_call (va_runSN (As := As) (rest := rest) ⟨C.1, C.2.1, C.2.2.1, hown, hts⟩ (hcon l) ⟨va_cnB np hts (mj_goodM okm) rfl rfl rfl hnw (hts _ okm.2.1) okm.2.2.2.1 ⟨by show d' + 1 ≤ _; omega, by show 8 + (M'.2.2.1 + 11) + 40 * d' ≤ _; have := okm.2.2.2.2; omega⟩, hts _ w2, trivial⟩ ⟨mj_blind, fun U hU hW => ⟨rfl, by rw [hU]; exact hH, mj_O_at hO hW hU hS⟩⟩ rfl hA hL.1 rfl (lv_room (mj_ble hrm)) hd ⟨by omega, by omega⟩) hS (fun v h' H1 locs1 hq hR1 hS1 => ?_)
  exact k v h' hq p l e0 R s m args below meth c H1 locs1 la Qm C hR hL hR1 hS1 kk
theorem s_objInit {idx a : Nat} (hd : decode M.2.1 pc = .ok (.invokespecial idx, 3)) (hn : pc + 3 = n) (hw : Cond.methodLink M.1.cls idx objectInit ∈ mj_T) (hdd : 2 ≤ d) (hrm : (st.map fun v => v.category).sum ≤ 8) (k : mj_wp G M d kc ks n ls st h uc us Q) : mj_wp G M d kc ks pc ls (.ref a :: st) h uc us Q := by
  intro p l e0 R s m args below meth c H locs la Qm C hR hL hH hS kk
  subst hn
  have hts := C.2.2.2.2.1
  refine W.objInit C.1 C.2.1 C.2.2.2.1 (hts _ hw) (hts _ wObI) (hts _ wObC) rfl (by rw [C.2.2.1]; exact hL.1) rfl hd (by omega) ?_ (k p l e0 R s m args below meth c H locs la Qm C hR hL hH hS kk)
  have := lv_room (m := m) (pc := pc) (ls := la) (rest := .ref a :: st) hrm
  omega
theorem s_new {idx ci N : Nat} {C0 : String} {T : u_T} {fs : List Value} (ty0 : Nat → FieldType) (hd : decode M.2.1 pc = .ok (.new idx, 3)) (hn : pc + 3 = n) (hw : Cond.classLink M.1.cls idx C0 ∈ mj_T) (hins : Cond.instantiable C0 N ∈ mj_T) (hini : Cond.initialized C0 ∈ mj_T) (hcl : vwCl[ci]? = some (C0, T, N)) (hin : ∀ w ∈ u_ws C0 T N, w ∈ mj_T) (hty : ∀ k, k < N → parseFieldDescriptor (T k).2.2.1 = some (ty0 k)) (hfs : ∀ j, j < N → defaultValue (ty0 j) = vp_V fs j) (hkc : uc + 1 ≤ kc) (hks : us + N ≤ ks) (k : mj_wp G M d kc ks n ls (.ref (G.1 + h.1) :: st) (mj_push h (mj_ob ci fs)) (uc + 1) (us + N) Q) : mj_wp G M d kc ks pc ls st h uc us Q := by
  intro p l e0 R s m args below meth c H locs la Qm C hR hL hH hS kk
  subst hn
  have hts := C.2.2.2.2.1
  have hKn := C.2.2.2.2.2.1.1.1 ci _ hcl
  refine W.newcK C.1 C.2.1 C.2.2.2.1 (hts _ hw) (hts _ hins) (hts _ hini) rfl hd (by omega) (by omega) hKn.2.1 hH.1 fun H1 kC hkC e1 z1 o1 => ?_
  have oq : ∀ q : Nat, q < H.size → H1[q]? = H[q]? := fun q hq => o1 q (by rw [← hH.1]; exact hq)
  refine k p l e0 R s m args below meth c H1 _ la Qm C hR hL (mj_R_push hH ⟨_, hcl, (u_born ty0 hts hin hKn hkC e1 hty).to hfs⟩ (by rw [z1, hH.1]) oq) (mj_S_push hS (by rw [z1, hH.1]) oq) kk
theorem s_newa_int {N : Nat} {x : Int32} (hd : decode M.2.1 pc = .ok (.newarray .int, 2)) (hn : pc + 2 = n) (hx : x = nI N) (hN : N ≤ 10000) (hkc : uc + 1 ≤ kc) (hks : us + N ≤ ks) (k : mj_wp G M d kc ks n ls (.ref (G.1 + h.1) :: st) (mj_push h (mj_ar 0 N (fun _ => 0))) (uc + 1) (us + N) Q) : mj_wp G M d kc ks pc ls (.int x :: st) h uc us Q := by
  intro p l e0 R s m args below meth c H locs la Qm C hR hL hH hS kk
  subst hn
  subst hx
  have hts := C.2.2.2.2.1
  refine va_newaK C.1 C.2.1 (atype := .int) (hts _ wAc_int) rfl hd rfl (nI_pos (by omega)) (nI_clamp (by omega)) (by show N * 4 ≤ _; omega) (by omega) (by omega) hH.1 fun H1 cA e1 z1 o1 hAr hNm => ?_
  have hA2 := (C.2.2.2.2.2.1.1.2 0 _ rfl).2
  have hcA : cA = G.2.2.1 0 := Option.some.inj (hNm.symm.trans hA2)
  subst hcA
  have oq : ∀ q : Nat, q < H.size → H1[q]? = H[q]? := fun q hq => o1 q (by rw [← hH.1]; exact hq)
  refine k p l e0 R s m args below meth c H1 _ la Qm C hR hL (mj_R_push hH ?_ (by rw [z1, hH.1]) oq) (mj_S_push hS (by rw [z1, hH.1]) oq) kk
  exact e1
theorem s_newa_boolean {N : Nat} {x : Int32} (hd : decode M.2.1 pc = .ok (.newarray .boolean, 2)) (hn : pc + 2 = n) (hx : x = nI N) (hN : N ≤ 10000) (hkc : uc + 1 ≤ kc) (hks : us + N ≤ ks) (k : mj_wp G M d kc ks n ls (.ref (G.1 + h.1) :: st) (mj_push h (mj_ar 1 N (fun _ => 0))) (uc + 1) (us + N) Q) : mj_wp G M d kc ks pc ls (.int x :: st) h uc us Q := by
  intro p l e0 R s m args below meth c H locs la Qm C hR hL hH hS kk
  subst hn
  subst hx
  have hts := C.2.2.2.2.1
  refine va_newaK C.1 C.2.1 (atype := .boolean) (hts _ wAc_boolean) rfl hd rfl (nI_pos (by omega)) (nI_clamp (by omega)) (by show N * 1 ≤ _; omega) (by omega) (by omega) hH.1 fun H1 cA e1 z1 o1 hAr hNm => ?_
  have hA2 := (C.2.2.2.2.2.1.1.2 1 _ rfl).2
  have hcA : cA = G.2.2.1 1 := Option.some.inj (hNm.symm.trans hA2)
  subst hcA
  have oq : ∀ q : Nat, q < H.size → H1[q]? = H[q]? := fun q hq => o1 q (by rw [← hH.1]; exact hq)
  refine k p l e0 R s m args below meth c H1 _ la Qm C hR hL (mj_R_push hH ?_ (by rw [z1, hH.1]) oq) (mj_S_push hS (by rw [z1, hH.1]) oq) kk
  exact e1
theorem s_anew {idx N t : Nat} {C0 : String} {x : Int32} (hd : decode M.2.1 pc = .ok (.anewarray idx, 3)) (hn : pc + 3 = n) (hw : Cond.classLink M.1.cls idx C0 ∈ mj_T) (hty : (mj_tys G)[t]? = some (G.2.2.1 t, .object C0)) (hao : ∀ s : State, mj_O G s → va_AO C0 s) (hx : x = nI N) (hN : N ≤ 10000) (hkc : uc + 1 ≤ kc) (hks : us + N ≤ ks) (k : mj_wp G M d kc ks n ls (.ref (G.1 + h.1) :: st) (mj_push h (mj_ra t N (fun _ => none))) (uc + 1) (us + N) Q) : mj_wp G M d kc ks pc ls (.int x :: st) h uc us Q := by
  intro p l e0 R s m args below meth c H locs la Qm C hR hL hH hS kk
  subst hn
  subst hx
  have hts := C.2.2.2.2.1
  have hcl : (nI N).toNatClampNeg = N := nI_clamp (by omega)
  refine W.anew C.1 C.2.1 C.2.2.2.1 (hts _ hw) (va_AO.use (hao s C.2.2.2.2.2.1)) rfl hd rfl (nI_pos (by omega)) (by rw [hcl]; omega) (by omega) (by rw [hcl]; omega) fun cA kA comp f1 f2 f3 f4 => ?_
  rw [hcl, hH.1]
  generalize hH1 : H.push ({ cls := cA, slots := Array.replicate N .null, vm := .none } : Cell) = H1
  obtain ⟨kA', comp', g1, g2, g3, g4⟩ := (C.2.2.2.2.2.1.1.2 t _ hty).2
  have hcA : cA = G.2.2.1 t := Option.some.inj (f1.symm.trans g4)
  subst hcA
  have z1 : H1.size = H.size + 1 := by rw [← hH1, Array.size_push]
  have e1 : H1[H.size]? = some (arrV (G.2.2.1 t) N (fun _ => .null)) := by rw [← hH1, Array.getElem?_push_size, ← arrV_new]
  have oq : ∀ q : Nat, q < H.size → H1[q]? = H[q]? := fun q hq => by rw [← hH1, Array.getElem?_push, if_neg (Nat.ne_of_lt hq)]
  refine k p l e0 R s m args below meth c H1 _ la Qm C hR hL (mj_R_push hH ?_ z1 oq) (mj_S_push hS z1 oq) kk
  rw [hH.1] at e1
  exact e1
end MJ
