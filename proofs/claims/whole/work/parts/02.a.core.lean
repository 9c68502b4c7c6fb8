/-! the pure picture of the heap: positions from the law's own first cell on; arrays of ints and of references, objects -/
abbrev mj_E : Type := (Nat × Nat × (Nat → Int32)) ⊕ (Nat × Nat × (Nat → Option Nat)) ⊕ (Nat × List Value)
abbrev mj_H : Type := Nat × (Nat → mj_E)
/-- base; the classes' numbers and slots; array classes by tag; addresses of the script and the three static tables; the script -/
abbrev mj_G : Type := Nat × va_G × (Nat → ClassId) × (Nat → Nat) × Nat × (Nat → Int32)
abbrev mj_ar (t n : Nat) (f : Nat → Int32) : mj_E := .inl (t, n, f)
abbrev mj_ra (t n : Nat) (f : Nat → Option Nat) : mj_E := .inr (.inl (t, n, f))
abbrev mj_ob (ci : Nat) (fs : List Value) : mj_E := .inr (.inr (ci, fs))
def mj_dead : mj_E := .inr (.inr (99, []))
def mj_tr (G : mj_G) (e : mj_E) : va_E := match e with
  | .inl (t, n, f) => .inl (G.2.2.1 t, n, .inl f)
  | .inr (.inl (t, n, f)) => .inl (G.2.2.1 t, n, .inr (.inr (.inr (.inr f))))
  | .inr (.inr (ci, fs)) => .inr (ci, fs)
def mj_ws (G : mj_G) (h : mj_H) : va_W := (List.range h.1).map (fun k => (G.1 + k, mj_tr G (h.2 k)))
def mj_A (G : mj_G) : Nat → Prop := fun q => G.1 ≤ q
def mj_R (G : mj_G) (h : mj_H) (H : Heap) : Prop := H.size = G.1 + h.1 ∧ va_P G.2.1 vwCl (mj_ws G h) H ∧ ∀ k, h.1 ≤ k → h.2 k = mj_dead
theorem mj_ws_get {G : mj_G} {h : mj_H} {k : Nat} (hk : k < h.1) : (mj_ws G h)[k]? = some (G.1 + k, mj_tr G (h.2 k)) := by
  simp [mj_ws, hk]
theorem mj_ws_inv {G : mj_G} {h : mj_H} {k : Nat} {q : Nat × va_E} (hk : (mj_ws G h)[k]? = some q) : k < h.1 ∧ q = (G.1 + k, mj_tr G (h.2 k)) := by
  have hl : k < (mj_ws G h).length := (List.getElem?_eq_some_iff.mp hk).1
  have hl' : k < h.1 := by simpa [mj_ws] using hl
  rw [mj_ws_get hl'] at hk
  exact ⟨hl', (Option.some.inj hk).symm⟩
theorem mj_ws_D {G : mj_G} {h : mj_H} : va_D (mj_A G) (mj_ws G h) := by
  refine ⟨fun i j p q hi hj hpq => ?_, fun k q hk => ?_⟩
  · have h1 := (mj_ws_inv hi).2
    have h2 := (mj_ws_inv hj).2
    rw [h1, h2] at hpq
    exact Nat.add_left_cancel hpq
  · rw [(mj_ws_inv hk).2]
    exact Nat.le_add_right _ _
def mj_up (h : mj_H) (k : Nat) (e : mj_E) : mj_H := (h.1, fun j => if j = k then e else h.2 j)
theorem mj_ue {h : mj_H} {k : Nat} {e : mj_E} : (mj_up h k e).2 k = e := if_pos rfl
theorem mj_un {h : mj_H} {k j : Nat} {e e' : mj_E} (hne : j ≠ k) (h' : h.2 j = e') : (mj_up h k e).2 j = e' := (if_neg hne).trans h'
theorem mj_ws_up {G : mj_G} {h : mj_H} {k : Nat} {e : mj_E} (hk : k < h.1) : (mj_ws G h).set k (G.1 + k, mj_tr G e) = mj_ws G (mj_up h k e) := by
  apply List.ext_getElem?
  intro i
  by_cases hi : i = k
  · subst hi
    rw [List.getElem?_set_self (by simpa [mj_ws] using hk), mj_ws_get (h := mj_up h i e) hk, mj_ue]
  · rw [List.getElem?_set_ne (Ne.symm hi)]
    by_cases hl : i < h.1
    · rw [mj_ws_get hl, mj_ws_get (h := mj_up h k e) hl, mj_un hi rfl]
    · rw [List.getElem?_eq_none (by simpa [mj_ws] using hl), List.getElem?_eq_none (by simpa [mj_ws, mj_up] using hl)]
def mj_push (h : mj_H) (e : mj_E) : mj_H := (h.1 + 1, fun j => if j = h.1 then e else h.2 j)
theorem mj_ws_push {G : mj_G} {h : mj_H} {e : mj_E} : mj_ws G (mj_push h e) = mj_ws G h ++ [(G.1 + h.1, mj_tr G e)] := by
  apply List.ext_getElem?
  intro i
  have hlen : (mj_ws G h).length = h.1 := by simp [mj_ws]
  by_cases hl : i < h.1
  · rw [List.getElem?_append_left (by rw [hlen]; exact hl), mj_ws_get hl, mj_ws_get (h := mj_push h e) (Nat.lt_succ_of_lt hl)]
    simp [mj_push, Nat.ne_of_lt hl]
  · by_cases he : i = h.1
    · subst he
      rw [mj_ws_get (h := mj_push h e) (Nat.lt_succ_self _), List.getElem?_append_right (by omega), hlen]
      simp [mj_push]
    · rw [List.getElem?_eq_none (by simp [mj_ws, mj_push]; omega), List.getElem?_eq_none (by simp [mj_ws]; omega)]
theorem mj_live {G : mj_G} {h : mj_H} {H : Heap} {k : Nat} {e : mj_E} (hR : mj_R G h H) (hc : h.2 k = e) (hd : e ≠ mj_dead) : k < h.1 :=
  Nat.not_le.mp fun q => hd (hc.symm.trans (hR.2.2 k q))
theorem mj_at {G : mj_G} {h : mj_H} {H : Heap} {k : Nat} {e : mj_E} (hR : mj_R G h H) (hc : h.2 k = e) (hd : e ≠ mj_dead) : (mj_ws G h)[k]? = some (G.1 + k, mj_tr G e) := by
  rw [mj_ws_get (mj_live hR hc hd), hc]
/-- behind a write to one cell -/
theorem mj_R_up {G : mj_G} {h : mj_H} {H H1 : Heap} {k : Nat} {e e0 : mj_E} (hR : mj_R G h H) (hc : h.2 k = e0) (hd : e0 ≠ mj_dead) (he : va_at G.2.1 vwCl (G.1 + k, mj_tr G e) H1) (hz : H1.size = H.size) (oq : ∀ q : Nat, q ≠ G.1 + k → H1[q]? = H[q]?) : mj_R G (mj_up h k e) H1 := by
  have hk := mj_live hR hc hd
  refine ⟨hz.trans hR.1, ?_, fun j hj => ?_⟩
  · rw [← mj_ws_up hk]
    exact hR.2.1.set mj_ws_D (mj_at hR hc hd) he oq
  · have hj' : h.1 ≤ j := hj
    show (if j = k then e else h.2 j) = mj_dead
    rw [if_neg (by omega)]
    exact hR.2.2 j hj'
/-- behind a new cell -/
theorem mj_R_push {G : mj_G} {h : mj_H} {H H1 : Heap} {e : mj_E} (hR : mj_R G h H) (he : va_at G.2.1 vwCl (G.1 + h.1, mj_tr G e) H1) (hz : H1.size = H.size + 1) (oq : ∀ q : Nat, q < H.size → H1[q]? = H[q]?) : mj_R G (mj_push h e) H1 := by
  refine ⟨by rw [hz, hR.1]; rfl, ?_, fun j hj => ?_⟩
  · rw [mj_ws_push]
    refine va_P.app (hR.2.1.kept fun k q hk => oq _ (hR.2.1 k q hk).lt) ?_
    intro k q hk
    have hz : k < 1 := (List.getElem?_eq_some_iff.mp hk).1
    have hk0 : k = 0 := by omega
    subst hk0
    cases hk
    exact he
  · have hj' : h.1 + 1 ≤ j := hj
    show (if j = h.1 then e else h.2 j) = mj_dead
    rw [if_neg (by omega)]
    exact hR.2.2 j (by omega)
theorem mj_S_push {A : Nat → Prop} {H0 H H1 : Heap} {locs : List Loc} (hS : va_S A H0 H locs) (hz : H1.size = H.size + 1) (oq : ∀ q : Nat, q < H.size → H1[q]? = H[q]?) : va_S A H0 H1 locs :=
  ⟨Nat.le_trans hS.1 (by omega), fun x h1 h2 => (oq x (Nat.lt_of_lt_of_le h1 hS.1)).trans (hS.2.1 x h1 h2), hS.2.2⟩
/-! what lies outside: tables, the script, words that aren't carried by lists -/
def mj_tys (G : mj_G) : List (ClassId × FieldType) := [(G.2.2.1 0, .int), (G.2.2.1 1, .boolean), (G.2.2.1 2, .object RX1), (G.2.2.1 3, .object RX2)]
def mj_tab (j : Nat) : Nat → Int32 := match j with
  | 1 => fun k => match k with
    | 0 => -1
    | 1 => 0
    | 2 => 1
    | 3 => 1
    | 4 => 0
    | _ => 4
  | 2 => fun k => match k with
    | 0 => 10
    | 1 => 11
    | 2 => 12
    | 3 => 0
    | 4 => 13
    | _ => 14
  | _ => fun k => match k with
    | 0 => 20
    | 1 => 21
    | 2 => 24
    | 3 => 22
    | 4 => 23
    | _ => 0
def mj_O (G : mj_G) (U : State) : Prop :=
  va_K G.2.1 vwCl (mj_tys G) U ∧ va_Nw (.methodLinkNest RX3 73 yX4_isWithin "NearlySaid") U ∧ va_Nw (.methodLinkNest RX2 77 yX4_shedBy "NearlySaid") U ∧ va_AO RX1 U ∧ va_AO RX2 U ∧
  (va_Z RX4 "PARENTS" "[I" (.ref (G.2.2.2.1 1)) (mj_A G) U U.heap ∧ va_Z RX4 "SIZE_BODIES" "[I" (.ref (G.2.2.2.1 2)) (mj_A G) U U.heap ∧ va_Z RX4 "MARK_BODIES" "[I" (.ref (G.2.2.2.1 3)) (mj_A G) U U.heap) ∧
  (∀ j : Nat, 1 ≤ j → j ≤ 3 → va_T .int (G.2.2.2.1 j) 6 (fun k => .int (mj_tab j k)) (mj_A G) U U.heap) ∧
  va_X (G.2.2.2.1 0) G.2.2.2.2.1 G.2.2.2.2.2 U U.heap ∧ G.2.2.2.1 0 < G.1 ∧ G.1 ≤ U.heap.size
theorem mj_O_at {G : mj_G} {s U : State} {H : Heap} {locs : List Loc} (h : mj_O G s) (hW : s.WarmedH U.vm) (hU : U.heap = H) (hS : va_S (mj_A G) s.heap H locs) : mj_O G U := by
  obtain ⟨h1, h2, h3, h4, h5, ⟨h6, h7, h8⟩, h9, h10, h11, h12⟩ := h
  have ha := hW.alike
  have hq : ∀ a : Nat, a < s.heap.size → ¬ mj_A G a → U.heap[a]? = s.heap[a]? := fun a q1 q2 => by rw [hU]; exact hS.2.1 a q1 q2
  refine ⟨va_K.moved ha h1, va_Nw.warmM hW h2, va_Nw.warmM hW h3, h4.moved ha, h5.moved ha, ⟨(h6.moved ha).kept hq, (h7.moved ha).kept hq, (h8.moved ha).kept hq⟩, fun j a b => ((h9 j a b).moved ha).kept hq, (h10.moved ha).kept ?_, h11, ?_⟩
  · exact hq _ (by omega) (fun q => by unfold mj_A at q; omega)
  · rw [hU]; exact Nat.le_trans h12 hS.1
theorem mj_O_same {G : mj_G} {u U : State} (h : mj_O G u) (hv : u.vm = U.vm) (hh : U.heap = u.heap) : mj_O G U := by
  obtain ⟨h1, h2, h3, h4, h5, ⟨h6, h7, h8⟩, h9, h10, h11, h12⟩ := h
  have ha : u.vm.Alike U.vm := by rw [hv]; exact Vm.Alike.refl _
  refine ⟨va_K.moved ha h1, va_Nw.same rfl hv h2, va_Nw.same rfl hv h3, h4.moved ha, h5.moved ha, ⟨?_, ?_, ?_⟩, fun j a b => ?_, ?_, h11, by rw [hh]; exact h12⟩
  · rw [hh]; exact h6.moved ha
  · rw [hh]; exact h7.moved ha
  · rw [hh]; exact h8.moved ha
  · rw [hh]; exact (h9 j a b).moved ha
  · rw [hh]; exact h10.moved ha
/-! locals: a list of what is known -/
def mj_L (la : Array Slot) (n : Nat) (ls : List (Option Value)) : Prop := la.size = n ∧ lv_wf la ∧ ls.length = n ∧ ∀ (i : Nat) (v : Value), ls[i]? = some (some v) → la[i]? = some (.val v)
/-- whether the slot ahead of i holds no long -/
def mj_nl (ls : List (Option Value)) (i : Nat) : Bool := match i with
  | 0 => true
  | j + 1 => match ls[j]? with
    | some (some (.long _)) => false
    | some (some (.double _)) => false
    | _ => true
/-! the judgement: from this place of method M, with these locals, stack and heap, the method returns with Q -/
def mj_Cx (G : mj_G) (M : mj_M) (p : Program) (s : State) (m : MethodId) (args : Array Value) (meth : Method) (c : Code) : Prop :=
  p.tables.exec = Jvm.exec ∧ c.code = M.2.1 ∧ c.maxLocals = M.2.2.1 ∧ s.vm.findClass M.1.cls = some m.cls ∧ (∀ w ∈ mj_T, w.before args s = true) ∧ mj_O G s ∧ meth.sig.returnType = M.2.2.2 ∧ meth.locks = false ∧ meth.name = M.1.name
def mj_rt (M : mj_M) (v : Option Value) (pc : Nat) : Prop := match v with
  | none => decode M.2.1 pc = .ok (.return_, 1) ∧ M.2.2.2 = none
  | some (.int x) => decode M.2.1 pc = .ok (.ireturn, 1) ∧ ∃ ty, M.2.2.2 = some ty ∧ narrow ty (.int x) = .int x
  | some (.long _) => decode M.2.1 pc = .ok (.lreturn, 1) ∧ M.2.2.2 = some .long
  | _ => False
def mj_wp (G : mj_G) (M : mj_M) (d kc ks : Nat) (pc : Nat) (ls : List (Option Value)) (st : List Value) (h : mj_H) (uc us : Nat) (Q : Option Value → mj_H → Prop) : Prop :=
  ∀ (p : Program) (l : Launch) (e : Env) (R : Room) (s : State) (m : MethodId) (args : Array Value) (below : List Frame) (meth : Method) (c : Code) (H : Heap) (locs : List Loc) (la : Array Slot) (Qm : State → Prop),
    mj_Cx G M p s m args meth c → (d ≤ R.frames ∧ 40 * d ≤ R.locals ∧ kc ≤ R.cells ∧ ks ≤ R.slots) → mj_L la M.2.2.1 ls → mj_R G h H → va_S (mj_A G) s.heap H locs →
    (∀ (v : Option Value) (h' : mj_H) (H' : Heap) (locs' : List Loc) (la' : Array Slot) (pc' : Nat), Q v h' → mj_R G h' H' → va_S (mj_A G) s.heap H' locs' → mj_rt M v pc' → W p l e R s m args below meth c H' locs' kc ks Qm (F0 m pc' la' v.toList)) →
    W p l e R s m args below meth c H locs uc us Qm (F0 m pc la st)
def mj_rm (d kc ks : Nat) : Room := { frames := d, cells := kc, slots := ks, locals := 40 * d }
def mj_con (G : mj_G) (M : mj_M) (d kc ks : Nat) (As : List Value) (h : mj_H) (Q : Option Value → mj_H → Prop) : Prop :=
  ∀ l : Launch, Met l M.1 (Cond.code M.1 M.2.1 M.2.2.1 M.2.2.2 :: mj_T) (mj_rm d kc ks) (va_Pc As (fun U => mj_R G h U.heap ∧ mj_O G U))
    (fun _ st oc t => (∃ (v : Option Value) (h' : mj_H), oc = .returned v ∧ Q v h' ∧ mj_R G h' t.heap) ∧ va_F (mj_A G) st t) kc ks (mj_A G)
/-- the locals with which a method begins -/
def mj_ent (n : Nat) (As : List Value) : List (Option Value) :=
  let l := As.flatMap fun v => if v.category = 2 then [some v, none] else [some v]
  l ++ List.replicate (n - l.length) none
