/-! THE CLAIM OUT OF ONE WALK OF THE LAW'S BODY. Your part is whole_start (and what it stands on); all else here is the same for every law, but numbers. -/
def R_law : String := "NearlySaidLaw"
def lw_P (b : Addr) (xs : List Int32) (args : Array Value) (s : State) : Prop := args = #[.ref b] ∧ s.IntsAt b xs ∧ xs.length ≤ 448 ∧ (Jvm.Cond.and given_1 narrow_1).before args s = true
def lw_Q (_ : Array Value) (s : State) (o : Outcome) (t : State) : Prop := o = .returned (some (.int 1)) ∧ Framed s o t [] 600000 7302250
def lw_Z (below : List Frame) (a : Array Value) (s : State) : State → Prop := fun t => ∃ o, t.status = .running ∧ Ended t below o ∧ lw_Q a s o t
/-- the law's own end, with 1 on the stack, nothing written that was there before, its room as the claim has it -/
theorem lw_ret {p : Program} {l : Launch} {e : Env} {s : State} {m : MethodId} {below : List Frame} {meth : Method} {c : Code} {b : Nat} (hx : p.tables.exec = Jvm.exec) (hb : c.code = code) (hr : meth.sig.returnType = ret) (hlocks : meth.locks = false) {pc : Nat} {H : Heap} {ls : Array Slot} (hdg : decode code pc = .ok (.ireturn, 1)) : W p l e room_1 s m #[Value.ref b] below meth c H [] 600000 7302250 (lw_Z below #[Value.ref b] s) (F0 m pc ls [.int 1]) := by
  intro T hT X
  obtain ⟨fs, hret, hrun, hended, hW, hframe⟩ := X.leave (v := some (.int 1)) (hlocks := hlocks) (fun h => by rw [hr] at h; cases h)
  have hmeth' : T.vm.method? m = some meth := X.method'
  refine ⟨T.setFrames fs, ?_, .returned (some (.int 1)), hrun, hended, rfl, ⟨_, rfl⟩, hW, hframe⟩
  jvm_step X.here [X.here.top, hx, hb, hdg, hmeth', hr, ret, narrow_b1]
  (try refine ⟨rfl, ?_⟩); (try refine ⟨rfl, ?_⟩)
  first | (intro acts; rw [hret _ acts rfl rfl rfl]) | rw [hret _ _ rfl rfl rfl]
  exact Steps.refl _
/-- what holds at the law's entry: the machine, the code, the tables' words (any of lw_tbl by 'hts w (by decide +kernel)'), the script of L ints xs at the cell b, what the Statement gives of the start (any of its parts by flat_of_before) -/
def lw_At (p : Program) (s : State) (m : MethodId) (meth : Method) (c : Code) (b L : Nat) (xs : Nat → Int32) : Prop :=
  p.tables.exec = Jvm.exec ∧ c.code = code ∧ meth.sig.returnType = ret ∧ c.maxLocals = 4 ∧ s.vm.findClass R_law = some m.cls ∧ (∀ w ∈ lw_tbl, w.before #[Value.ref b] s = true) ∧ va_X b L xs s s.heap ∧ b < s.heap.size ∧ meth.locks = false ∧ (Jvm.Cond.and given_1 narrow_1).before #[Value.ref b] s = true ∧ meth.name = x.name
theorem ao_K {C : String} {s : State} (h : va_AO C s) : ∃ cA : ClassId, ArrOfT s cA (.object C) ∧ va_RA s cA (.object C) := by
  obtain ⟨comp, c, k, h1, h2, h3, h4, h5⟩ := Cond.arrayOver_spec h
  exact ⟨c, fun n z => ⟨fun k h => (by cases h), k, h3, comp, h4⟩, k, comp, h3, h4, h1, h5⟩
theorem ac_K {ty : FieldType} {args : Array Value} {s : State} (h : (Cond.arrayClass ty).before args s = true) : ∃ cA : ClassId, ArrOfT s cA ty ∧ s.vm.findClass ("[" ++ ty.toString) = some cA := by
  obtain ⟨c, k, comp, h1, h2, h3⟩ := Cond.arrayClass_spec h
  exact ⟨c, fun n z => ⟨fun k h => (by cases h), k, h2, comp, h3⟩, h1⟩
theorem T_tbl {w : Cond} (h : w ∈ mj_T) : w ∈ lw_tbl := (List.mem_filter.mp h).1
set_option maxRecDepth 100000 in
theorem tb_1 {args : Array Value} {s : State} {A : Nat → Prop} (hs : ∀ c ∈ flatC (Jvm.Cond.and given_1 narrow_1), c.before args s = true) (hA : ∀ a : Nat, a < s.heap.size → ¬ A a) : ∃ t : Nat, (Term.static "NearlySaid" "PARENTS" "[I").eval args s none [] s = some (.ref t) ∧ va_T .int t 6 (fun k => .int (mj_tab 1 k)) A s s.heap := by
  refine va_Tof (tm := (Term.static "NearlySaid" "PARENTS" "[I")) (ty := .int) (N := 6) (by decide) (hs (Cond.arrayOf (Term.static "NearlySaid" "PARENTS" "[I") .int) (by decide +kernel)) (va_eqt (hs (Cond.eq (Term.length (Term.static "NearlySaid" "PARENTS" "[I")) (Term.int 6)) (by decide +kernel))) ?_ hA
  intro j hj
  match j, hj with
  | 0, _ => exact va_eqt (hs (Cond.eq (Term.elem (Term.static "NearlySaid" "PARENTS" "[I") (Term.int 0)) (Term.int (-1))) (by decide +kernel))
  | 1, _ => exact va_eqt (hs (Cond.eq (Term.elem (Term.static "NearlySaid" "PARENTS" "[I") (Term.int 1)) (Term.int 0)) (by decide +kernel))
  | 2, _ => exact va_eqt (hs (Cond.eq (Term.elem (Term.static "NearlySaid" "PARENTS" "[I") (Term.int 2)) (Term.int 1)) (by decide +kernel))
  | 3, _ => exact va_eqt (hs (Cond.eq (Term.elem (Term.static "NearlySaid" "PARENTS" "[I") (Term.int 3)) (Term.int 1)) (by decide +kernel))
  | 4, _ => exact va_eqt (hs (Cond.eq (Term.elem (Term.static "NearlySaid" "PARENTS" "[I") (Term.int 4)) (Term.int 0)) (by decide +kernel))
  | 5, _ => exact va_eqt (hs (Cond.eq (Term.elem (Term.static "NearlySaid" "PARENTS" "[I") (Term.int 5)) (Term.int 4)) (by decide +kernel))
  | j + 6, hj => exact absurd hj (by omega)
set_option maxRecDepth 100000 in
theorem tb_2 {args : Array Value} {s : State} {A : Nat → Prop} (hs : ∀ c ∈ flatC (Jvm.Cond.and given_1 narrow_1), c.before args s = true) (hA : ∀ a : Nat, a < s.heap.size → ¬ A a) : ∃ t : Nat, (Term.static "NearlySaid" "SIZE_BODIES" "[I").eval args s none [] s = some (.ref t) ∧ va_T .int t 6 (fun k => .int (mj_tab 2 k)) A s s.heap := by
  refine va_Tof (tm := (Term.static "NearlySaid" "SIZE_BODIES" "[I")) (ty := .int) (N := 6) (by decide) (hs (Cond.arrayOf (Term.static "NearlySaid" "SIZE_BODIES" "[I") .int) (by decide +kernel)) (va_eqt (hs (Cond.eq (Term.length (Term.static "NearlySaid" "SIZE_BODIES" "[I")) (Term.int 6)) (by decide +kernel))) ?_ hA
  intro j hj
  match j, hj with
  | 0, _ => exact va_eqt (hs (Cond.eq (Term.elem (Term.static "NearlySaid" "SIZE_BODIES" "[I") (Term.int 0)) (Term.int 10)) (by decide +kernel))
  | 1, _ => exact va_eqt (hs (Cond.eq (Term.elem (Term.static "NearlySaid" "SIZE_BODIES" "[I") (Term.int 1)) (Term.int 11)) (by decide +kernel))
  | 2, _ => exact va_eqt (hs (Cond.eq (Term.elem (Term.static "NearlySaid" "SIZE_BODIES" "[I") (Term.int 2)) (Term.int 12)) (by decide +kernel))
  | 3, _ => exact va_eqt (hs (Cond.eq (Term.elem (Term.static "NearlySaid" "SIZE_BODIES" "[I") (Term.int 3)) (Term.int 0)) (by decide +kernel))
  | 4, _ => exact va_eqt (hs (Cond.eq (Term.elem (Term.static "NearlySaid" "SIZE_BODIES" "[I") (Term.int 4)) (Term.int 13)) (by decide +kernel))
  | 5, _ => exact va_eqt (hs (Cond.eq (Term.elem (Term.static "NearlySaid" "SIZE_BODIES" "[I") (Term.int 5)) (Term.int 14)) (by decide +kernel))
  | j + 6, hj => exact absurd hj (by omega)
set_option maxRecDepth 100000 in
theorem tb_3 {args : Array Value} {s : State} {A : Nat → Prop} (hs : ∀ c ∈ flatC (Jvm.Cond.and given_1 narrow_1), c.before args s = true) (hA : ∀ a : Nat, a < s.heap.size → ¬ A a) : ∃ t : Nat, (Term.static "NearlySaid" "MARK_BODIES" "[I").eval args s none [] s = some (.ref t) ∧ va_T .int t 6 (fun k => .int (mj_tab 3 k)) A s s.heap := by
  refine va_Tof (tm := (Term.static "NearlySaid" "MARK_BODIES" "[I")) (ty := .int) (N := 6) (by decide) (hs (Cond.arrayOf (Term.static "NearlySaid" "MARK_BODIES" "[I") .int) (by decide +kernel)) (va_eqt (hs (Cond.eq (Term.length (Term.static "NearlySaid" "MARK_BODIES" "[I")) (Term.int 6)) (by decide +kernel))) ?_ hA
  intro j hj
  match j, hj with
  | 0, _ => exact va_eqt (hs (Cond.eq (Term.elem (Term.static "NearlySaid" "MARK_BODIES" "[I") (Term.int 0)) (Term.int 20)) (by decide +kernel))
  | 1, _ => exact va_eqt (hs (Cond.eq (Term.elem (Term.static "NearlySaid" "MARK_BODIES" "[I") (Term.int 1)) (Term.int 21)) (by decide +kernel))
  | 2, _ => exact va_eqt (hs (Cond.eq (Term.elem (Term.static "NearlySaid" "MARK_BODIES" "[I") (Term.int 2)) (Term.int 24)) (by decide +kernel))
  | 3, _ => exact va_eqt (hs (Cond.eq (Term.elem (Term.static "NearlySaid" "MARK_BODIES" "[I") (Term.int 3)) (Term.int 22)) (by decide +kernel))
  | 4, _ => exact va_eqt (hs (Cond.eq (Term.elem (Term.static "NearlySaid" "MARK_BODIES" "[I") (Term.int 4)) (Term.int 23)) (by decide +kernel))
  | 5, _ => exact va_eqt (hs (Cond.eq (Term.elem (Term.static "NearlySaid" "MARK_BODIES" "[I") (Term.int 5)) (Term.int 0)) (by decide +kernel))
  | j + 6, hj => exact absurd hj (by omega)
set_option maxHeartbeats 4000000 in
set_option maxRecDepth 100000 in
/-- from the entry, for every script of at most 448 ints, the law comes to its end with true -/
theorem whole_start {p : Program} {e : Env} {s : State} {m : MethodId} {below : List Frame} {meth : Method} {c : Code} (l : Launch) {b L : Nat} {xs : Nat → Int32} (hL : L ≤ 448) (C0 : lw_At p s m meth c b L xs) : W p l e room_1 s m #[Value.ref b] below meth c s.heap [] 0 0 (lw_Z below #[Value.ref b] s) (entryFrame m ([Value.ref b] : List Value).toArray 4) := by
  obtain ⟨hx, hb, hr, hml, hown, hts, hX, hbl, hlocks, hgv, hnm⟩ := C0
  have hA : ∀ a : Nat, a < s.heap.size → ¬ (fun q : Nat => s.heap.size ≤ q) a := fun a h => Nat.not_le.mpr h
  have hs := flat_of_before _ hgv
  obtain ⟨c0, i0, hK0⟩ := u_known (C := RX0) (T := TX0) (N := 3) (n := 3) hts (fun w hw => T_tbl (inT_X0 w hw)) (hts _ (T_tbl wIn_X0))
  obtain ⟨c1, i1, hK1⟩ := u_known (C := RX1) (T := TX1) (N := 3) (n := 3) hts (fun w hw => T_tbl (inT_X1 w hw)) (hts _ (T_tbl wIn_X1))
  obtain ⟨c2, i2, hK2⟩ := u_known (C := RX2) (T := TX2) (N := 12) (n := 12) hts (fun w hw => T_tbl (inT_X2 w hw)) (hts _ (T_tbl wIn_X2))
  obtain ⟨c3, i3, hK3⟩ := u_known (C := RX3) (T := TX3) (N := 8) (n := 8) hts (fun w hw => T_tbl (inT_X3 w hw)) (hts _ (T_tbl wIn_X3))
  obtain ⟨c4, i4, hK4⟩ := u_known (C := RX4) (T := TX4) (N := 10) (n := 10) hts (fun w hw => T_tbl (inT_X4 w hw)) (hts _ (T_tbl wIn_X4))
  obtain ⟨c5, i5, hK5⟩ := u_known (C := RX5) (T := TX5) (N := 23) (n := 23) hts (fun w hw => T_tbl (inT_X5 w hw)) (hts _ (T_tbl wIn_X5))
  obtain ⟨cI, aI, fI⟩ := ac_K (hts _ (T_tbl wAc_int))
  obtain ⟨cB, aB, fB⟩ := ac_K (hts _ (T_tbl wAc_boolean))
  obtain ⟨cR, aR, fR⟩ := ao_K (C := RX1) (va_AO.of (hts _ wAo_X1))
  obtain ⟨cS, aS, fS⟩ := ao_K (C := RX2) (va_AO.of (hts _ wAo_X2))
  obtain ⟨t1, e1, T1⟩ := tb_1 hs hA
  obtain ⟨t2, e2, T2⟩ := tb_2 hs hA
  obtain ⟨t3, e3, T3⟩ := tb_3 hs hA
  let G : mj_G := (s.heap.size, (fun k => match k with | 0 => c0 | 1 => c1 | 2 => c2 | 3 => c3 | 4 => c4 | _ => c5, fun k => match k with | 0 => i0 | 1 => i1 | 2 => i2 | 3 => i3 | 4 => i4 | _ => i5), (fun k => match k with | 0 => cI | 1 => cB | 2 => cR | _ => cS), (fun k => match k with | 0 => b | 1 => t1 | 2 => t2 | _ => t3), L, xs)
  have hK : va_K G.2.1 vwCl (mj_tys G) s := by
    refine ⟨fun k q hq => ?_, fun k q hq => ?_⟩
    · match k, hq with
      | 0, hq => cases hq; exact hK0
      | 1, hq => cases hq; exact hK1
      | 2, hq => cases hq; exact hK2
      | 3, hq => cases hq; exact hK3
      | 4, hq => cases hq; exact hK4
      | 5, hq => cases hq; exact hK5
      | k + 6, hq => simp [vwCl] at hq
    · match k, hq with
      | 0, hq => cases hq; exact ⟨aI, fI⟩
      | 1, hq => cases hq; exact ⟨aB, fB⟩
      | 2, hq => cases hq; exact ⟨aR, fR⟩
      | 3, hq => cases hq; exact ⟨aS, fS⟩
      | k + 4, hq => simp [mj_tys] at hq
  have hO : mj_O G s := by
    refine ⟨hK, va_Nw.of rfl (hts _ wNest_X3_73), va_Nw.of rfl (hts _ wNest_X2_77), va_AO.of (hts _ wAo_X1), va_AO.of (hts _ wAo_X2), ⟨va_Zref (hts _ wLs_PARENTS) (hts _ (T_tbl wNi_X4)) e1 hA, va_Zref (hts _ wLs_SIZE_BODIES) (hts _ (T_tbl wNi_X4)) e2 hA, va_Zref (hts _ wLs_MARK_BODIES) (hts _ (T_tbl wNi_X4)) e3 hA⟩, fun j h1 h3 => ?_, hX, hbl, Nat.le_refl _⟩
    have hj : j = 1 ∨ j = 2 ∨ j = 3 := by omega
    rcases hj with rfl | rfl | rfl
    · exact T1
    · exact T2
    · exact T3
  have hC : mj_Cx G ML_law p s m #[Value.ref b] meth c := ⟨hx, hb, hml, hown, fun w hw => hts w (T_tbl hw), hO, hr, hlocks, hnm⟩
  have hw := lw_law (G := G) (d := 1000) (h0 := (0, fun _ => mj_dead)) (by omega) hL rfl
  rw [lg_entry_eq]
  refine W.widen (k := 0) (n := 0) (Nat.le_refl _) (Nat.le_refl _) ?_
  refine hw p l e room_1 s m #[Value.ref b] below meth c s.heap [] _ _ hC (by decide) (mj_ent_L (n := 4) (As := [.ref b]) (mj_ble rfl)) ⟨rfl, fun k q h => by simp [mj_ws] at h, fun _ _ => rfl⟩ va_S.rf ?_
  intro v h' H' locs' la' pc' hq hR' hS' hrt
  subst hq
  refine va_forget (fun q hq => hS'.2.2 q hq) ?_
  refine W.widen (k := 600000) (n := 7302250) (by omega) (by omega) ?_
  exact lw_ret hx hb hr hlocks hrt.1
set_option maxHeartbeats 4000000 in
theorem lw_walk (l : Launch) (b : Addr) (xs : List Int32) : MetFree l x (headSpec (Jvm.Cond.code x code maxLocals ret :: tables_1) room_1) (lw_P b xs) (fun _ _ _ _ _ => True) lw_Q := by
  refine MetFree.of_bodyS (code := code) (maxLocals := maxLocals) (ret := ret) (by decide) ?_ ?_
  · intro args s m h hn
    obtain ⟨meth, c, h1, h2, h3, h4, h5, h6, -, -⟩ := Cond.code_spec hn (atoms_spec (ws := Jvm.Cond.code x code maxLocals ret :: tables_1) h _ List.mem_cons_self)
    exact ⟨meth, c, h1, h2, h3, h4, h5, h6⟩
  · intro p e s m args below meth c s₁ B hml0 hP _
    obtain ⟨rfl, hx, hbd, hgv⟩ := hP
    obtain ⟨scr, harrAt, hlist, hof, hsmall⟩ := hx
    obtain ⟨hcb, hkn, -, -⟩ := State.arrayAt?_spec harrAt
    have hown : s.vm.findClass R_law = some m.cls := findClass_of_methodNamed B.named
    have hts0 : ∀ c ∈ (Jvm.Cond.code x code maxLocals ret :: tables_1), c.before #[Value.ref b] s = true := atoms_spec (ws := Jvm.Cond.code x code maxLocals ret :: tables_1) B.pre
    have hts : ∀ w ∈ lw_tbl, w.before #[Value.ref b] s = true := k2_hts_sels lw_privs (fun w hw => hts0 w (List.mem_cons_of_mem _ hw)) lw_privs_ok
    have hml : c.maxLocals = 4 := B.maxLocals_eq (hts0 _ List.mem_cons_self)
    have X₀ : Stand p l e room_1 s m #[Value.ref b] below meth c s₁ [] 0 0 := Stand.of_body B
    have hh0 : s₁.heap = s.heap := by rw [B.state]; rfl
    have hsz : scr.slots.size = xs.length := by rw [← Array.length_toList, hlist, List.length_map]
    have hval : ∀ j : Nat, j < xs.length → scr.slots[j]? = some (.int (xs.getD j 0)) := fun j hj => by
      rw [← Array.getElem?_toList, hlist]
      simp [hj]
    have hbl : b < s.heap.size := (Array.getElem?_eq_some_iff.mp hcb).1
    have hX : va_X b xs.length (fun j => xs.getD j 0) s s.heap := ⟨scr, hcb, hof, hkn, hsz, hval⟩
    have K : W p l e room_1 s m #[Value.ref b] below meth c s₁.heap [] 0 0 (lw_Z below #[Value.ref b] s) (entryFrame m ([Value.ref b] : List Value).toArray 4) := by
      rw [hh0]
      exact whole_start l hbd ⟨B.exec, B.bytes, B.returns, hml, hown, hts, hX, hbl, B.notSynchronized, hgv, (name_of_methodNamed B.named B.method).1⟩
    obtain ⟨t, a1, o, b1, b2, b3⟩ := K s₁ rfl X₀
    exact ⟨t, o, a1, b1, b2, b3⟩
theorem lw_pre_spec {args : Array Value} {s : State} (h : (Jvm.Cond.and given_1 narrow_1).before args s = true) (hr : rest_1_c.before args s = true) : ∃ (b : Addr) (xs : List Int32), lw_P b xs args s := by
  have hs := flat_of_before _ h
  have hq := flat_of_before _ hr
  have hc : (Cond.count 1).before args s = true := hs _ (by decide +kernel)
  have harr : (Cond.arrayOf (.arg 0) .int).before args s = true := hs _ (by decide +kernel)
  have hle : (Cond.le (.length (.arg 0)) (.int 448)).before args s = true := hs _ (by decide +kernel)
  have hlen : (Cond.isInt (.length (.arg 0))).before args s = true := hq _ (by decide +kernel)
  have hall : (Cond.all (.arg 0) (.isInt (.elem (.arg 0) (.index 0)))).before args s = true := hq _ (by decide +kernel)
  obtain ⟨b, xs, hb, hx⟩ := State.ints_of_pre rfl harr hlen hall
  have hsm : xs.length < 2 ^ 31 := hx.choose_spec.2.2.2
  have hev : (Term.length (.arg 0)).eval args s none [] s = some (.int xs.length.toInt32) := hx.length_eval hb
  have hv := Cond.le_ints hev (show (Term.int 448).eval args s none [] s = some (.int 448) from rfl)
  have hd : xs.length.toInt32 ≤ 448 := by
    simpa [Cond.before, Cond.holds, hv] using hle
  have hN : xs.length ≤ 448 := (Int32.ofNat_le_ofNat hsm (by decide)).mp (show Int32.ofNat xs.length ≤ Int32.ofNat 448 from hd)
  exact ⟨b, xs, Cond.one_arg hc (show args[0]? = some (.ref b) from hb), hx, hN, h⟩
theorem lw_comes (l : Launch) : Comes l x (Jvm.Cond.code x code maxLocals ret :: tables_1) room_1 (fun tb e args s => Calls_1 tb e args s ∧ rest_1 tb e args s ∧ Pre_1 tb e args s)
    (fun _ _ args s o t => lw_Q args s o t) := by
  intro p e ha hc hk s m args below hf hfit hheap happ hpre
  obtain ⟨b, xs, hP⟩ := lw_pre_spec hpre.2.2 hpre.2.1
  obtain ⟨k, o, h1, h2, h3, hQ⟩ := lw_walk l b xs p e ha hc hk s m args below hf ((Spec.applies_iff_loose hf).mp happ).1 hP trivial
  exact ⟨k, o, h1, h2, h3, hQ⟩
theorem lw_frame {s t : State} {o : Outcome} {args : Array Value} (h : Framed s o t [] 600000 7302250) :
    Framed s o t (fieldLocs frame_1_writes args s ++ arrayLocs frame_1_arrays args s ++ staticLocs frame_1_statics s) 600000 7302250 := h
theorem lw_limb (L : Cond) (hL : ∀ (args : Array Value) (s t : State), L.after args s (.returned (some (.int 1))) t = true) :
    ArmFor flags0 classFile x code maxLocals ret World_1 tables_1 room_1 Calls_1 rest_1 Pre_1
      (fun tb e a s o t => postC L tb e a s o t ∧ Framed s o t (fieldLocs frame_1_writes a s ++ arrayLocs frame_1_arrays a s ++ staticLocs frame_1_statics s) 600000 7302250) := by
  intro l _ _ _ p e ha hc hk s m args below hf hfit hheap happ hpre
  obtain ⟨k, o, h1, h2, h3, rfl, hF⟩ := lw_comes l p e ha hc hk s m args below hf hfit hheap happ hpre
  exact ⟨k, _, h1, h2, h3, hL args s _, lw_frame hF⟩
theorem i_vc : Claimed_1_1 ∧ Claimed_1_2 := ⟨lw_limb limb_1_1 (fun args s t => by simp [limb_1_1, Cond.after, Cond.holds, Cond.value]), lw_limb limb_1_2 (fun args s t => Cond.after_iff.mpr (by
  first | (rw [show limb_1_2 = Cond.eq .result (.int 1) from rfl, Cond.eq_ints (x := 1) (y := 1) rfl rfl]; simp; done) | (simp [limb_1_2, Cond.value, Term.eval]; done)))⟩
