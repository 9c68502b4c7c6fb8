/-! streets that agree on their scalars and on the first n houses -/
def inS (n k : Nat) : Prop := k < 6 ∨ (6 ≤ k ∧ (k - 6) % 7 < n ∧ k < 48)
def RS (n : Nat) (T U : Nat → Int32) : Prop := ∀ k, inS n k → T k = U k
section RSC
variable {n : Nat} {T U : Nat → Int32}
theorem RSs {k : Nat} (h : RS n T U) (hk : k < 6) : T k = U k := h k (Or.inl hk)
theorem RS6 {j : Nat} (h : RS n T U) (h7 : n ≤ 7) (hj : j < n) : T (6 + j) = U (6 + j) := h _ (Or.inr ⟨by omega, by omega, by omega⟩)
theorem RS13 {j : Nat} (h : RS n T U) (h7 : n ≤ 7) (hj : j < n) : T (13 + j) = U (13 + j) := h _ (Or.inr ⟨by omega, by omega, by omega⟩)
theorem RS20 {j : Nat} (h : RS n T U) (h7 : n ≤ 7) (hj : j < n) : T (20 + j) = U (20 + j) := h _ (Or.inr ⟨by omega, by omega, by omega⟩)
theorem RS27 {j : Nat} (h : RS n T U) (h7 : n ≤ 7) (hj : j < n) : T (27 + j) = U (27 + j) := h _ (Or.inr ⟨by omega, by omega, by omega⟩)
theorem RS34 {j : Nat} (h : RS n T U) (h7 : n ≤ 7) (hj : j < n) : T (34 + j) = U (34 + j) := h _ (Or.inr ⟨by omega, by omega, by omega⟩)
theorem RS41 {j : Nat} (h : RS n T U) (h7 : n ≤ 7) (hj : j < n) : T (41 + j) = U (41 + j) := h _ (Or.inr ⟨by omega, by omega, by omega⟩)
theorem RS_up {k : Nat} {x : Int32} (h : RS n T U) : RS n (upd T k x) (upd U k x) := by
  intro i hi
  by_cases e : i = k
  · subst e
    rw [up_eq, up_eq]
  · rw [up_ne e, up_ne e]
    exact h i hi
theorem fl_c {j : Nat} (h : RS n T U) (h7 : n ≤ 7) (hj : j < n) : fl T j = fl U j := by
  unfold fl
  rw [RS34 h h7 hj, RSs h (by omega)]
theorem inF_c {j : Nat} (h : RS n T U) (h7 : n ≤ 7) (hj : j < n) : inF T j = inF U j := by
  unfold inF
  by_cases e : j = 0
  · rw [if_pos e, if_pos e]
  · rw [if_neg e, if_neg e]
    exact fl_c h h7 (by omega)
theorem bbA_c {j : Nat} {f : Int32} (h : RS n T U) (h7 : n ≤ 7) (hj : j < n) : bbA T j f = bbA U j f := by
  unfold bbA
  rw [RS27 h h7 hj, RS41 h h7 hj]
theorem shT_c {j : Nat} (h : RS n T U) (h7 : n ≤ 7) (hj : j < n) : shT T j = shT U j := by
  unfold shT hs
  rw [RSs (k := 4) h (by omega), RSs (k := 3) h (by omega), RS6 h h7 hj, RS13 h h7 hj, RS20 h h7 hj]
theorem gn_c {j : Nat} (h : RS n T U) (h7 : n ≤ 7) (hj : j < n) : gn T j = gn U j := by
  unfold gn
  rw [inF_c h h7 hj, bbA_c h h7 hj, fl_c h h7 hj, shT_c h h7 hj, RS34 h h7 hj]
theorem cn_c {j : Nat} (h : RS n T U) (h7 : n ≤ 7) (hj : j < n) : cn T j = cn U j := by
  unfold cn
  rw [inF_c h h7 hj, RS27 h h7 hj, RS41 h h7 hj]
theorem pondN_c (h : RS n T U) (h7 : n ≤ 7) : pondN T n = pondN U n := by
  unfold pondN
  by_cases e : n = 0
  · rw [if_pos e, if_pos e, RSs h (by omega)]
  · rw [if_neg e, if_neg e, RSs (k := 5) h (by omega), fl_c h h7 (by omega)]
theorem mn_c (h : RS n T U) (h7 : n ≤ 7) : RS n (mn n T) (mn n U) := by
  intro k hk
  unfold mn
  rw [pondN_c h h7, RSs (k := 3) h (by omega)]
  by_cases e3 : k = 3
  · subst e3
    rw [up_eq, up_eq]
  · rw [up_ne e3, up_ne e3]
    by_cases e5 : k = 5
    · subst e5
      rw [up_eq, up_eq]
    · rw [up_ne e5, up_ne e5]
      unfold pm
      by_cases c1 : 34 + 0 ≤ k ∧ k < 34 + n
      · rw [if_pos c1, if_pos c1]
        exact gn_c h h7 (by omega)
      · rw [if_neg c1, if_neg c1]
        by_cases c2 : 41 + 0 ≤ k ∧ k < 41 + n
        · rw [if_pos c2, if_pos c2]
          exact cn_c h h7 (by omega)
        · rw [if_neg c2, if_neg c2]
          exact h k hk
theorem mns_c (h : RS n T U) (h7 : n ≤ 7) : ∀ k, RS n (mns n k T) (mns n k U)
  | 0 => h
  | k + 1 => mn_c (mns_c h h7 k) h7
theorem houF_c {j w : Nat} (h : RS n T U) (h7 : n ≤ 7) (hj : j < n) : houF T j w = houF U j w := by
  unfold houF
  split
  · exact RS13 h h7 hj
  · exact RS20 h h7 hj
  · exact RS27 h h7 hj
  · exact RS34 h h7 hj
  · exact RS41 h h7 hj
  · exact shT_c h h7 hj
  · unfold hs
    rw [RSs (k := 4) h (by omega)]
theorem sumF_c {o : Nat} : ∀ m, (∀ j, j < m → T (o + j) = U (o + j)) → sumF T o m = sumF U o m
  | 0, _ => rfl
  | m + 1, h => by
    unfold sumF
    rw [sumF_c m (fun j hj => h j (by omega)), h m (by omega)]
theorem sum41_c (h : RS n T U) (h7 : n ≤ 7) : sumF T 41 n = sumF U 41 n := sumF_c n (fun j hj => RS41 h h7 hj)
theorem sum34_c (h : RS n T U) (h7 : n ≤ 7) : sumF T 34 n = sumF U 34 n := sumF_c n (fun j hj => RS34 h h7 hj)
theorem staF_c {w : Nat} (h : RS n T U) (h7 : n ≤ 7) : staF n T w = staF n U w := by
  unfold staF
  split
  · exact RSs h (by omega)
  · rw [RSs (k := 1) h (by omega), RSs (k := 5) h (by omega)]
  · exact RSs h (by omega)
  · exact sum41_c h h7
  · exact sum34_c h h7
theorem dryF_c (h : RS n T U) (h7 : n ≤ 7) : ∀ m, m ≤ n → dryF T m = dryF U m
  | 0, _ => rfl
  | m + 1, hm => by
    unfold dryF
    rw [dryF_c h h7 m (by omega), RS34 h h7 (by omega)]
theorem ffb_rs (h : RS n T U) (h7 : n ≤ 7) : ∀ m i, i + m ≤ n → ffb T i m = ffb U i m
  | 0, _, _ => rfl
  | m + 1, i, hm => by
    unfold ffb
    rw [ffb_rs h h7 m (i + 1) (by omega), RS27 h h7 (by omega), RS41 h h7 (by omega)]
end RSC
theorem ovF_c {n : Nat} (h7 : n ≤ 7) : ∀ (r i : Nat) (T U : Nat → Int32), RS n T U → ovF n r i T = ovF n r i U
  | 0, _, _, _, _ => rfl
  | r + 1, i, T, U, h => by
    unfold ovF
    rw [ovF_c h7 r (i + 1) _ _ (mn_c h h7), RSs (k := 1) h (by omega), RSs (k := 5) h (by omega)]
theorem fuF_c {n : Nat} {w : Int32} (h7 : n ≤ 7) : ∀ (r i : Nat) (T U : Nat → Int32), RS n T U → fuF n w r i T = fuF n w r i U
  | 0, _, _, _, _ => rfl
  | r + 1, i, T, U, h => by
    unfold fuF
    rw [fuF_c h7 r (i + 1) _ _ (mn_c h h7), ffb_rs h h7 n 0 (by omega)]
theorem moF_c {n j : Nat} (h7 : n ≤ 7) (hj : j < n) : ∀ (r i : Nat) (T U : Nat → Int32) (x y : Int32), RS n T U → moF n j r i T x y = moF n j r i U x y
  | 0, _, _, _, _, _, _ => rfl
  | r + 1, i, T, U, x, y, h => by
    unfold moF
    rw [RS34 (mn_c h h7) h7 hj, moF_c h7 hj r (i + 1) _ _ _ _ (mn_c h h7), moF_c h7 hj r (i + 1) _ _ x y (mn_c h h7)]
theorem loF_c {n j k : Nat} {T U : Nat → Int32} (h7 : n ≤ 7) (h : RS n T U) : ∀ (r i : Nat), loF n j k T r i = loF n j k U r i
  | 0, _ => rfl
  | r + 1, i => by
    have e := mns_c (RS_up (k := 13 + j) (x := nI i) h) h7 k
    unfold loF
    rw [loF_c h7 h r (i + 1), RSs (k := 1) e (by omega), RSs (k := 5) e (by omega)]
theorem caF_c {n k : Nat} {T U : Nat → Int32} (h7 : n ≤ 7) (h : RS n T U) : ∀ (r i : Nat) (x y : Int32), caF n k T r i x y = caF n k U r i x y
  | 0, _, _, _ => rfl
  | r + 1, i, x, y => by
    have e := mns_c (RS_up (k := 41 + i) (x := 0) (RS_up (k := 27 + i) (x := 9) h)) h7 k
    unfold caF
    rw [RSs (k := 5) e (by omega), caF_c h7 h r (i + 1) x y, caF_c h7 h r (i + 1) _ _]
theorem RS_hu {n s : Nat} {T U : Nat → Int32} (h : RS n T U) : RS n (upd T 4 (T 4 ||| nI s)) (upd U 4 (U 4 ||| nI s)) := by
  rw [RSs (k := 4) h (by omega)]
  exact RS_up h
theorem feF_cg {n k : Nat} {T U : Nat → Int32} {clr : (Nat → Int32) → Int32} (h7 : n ≤ 7) (h : RS n T U) (hc : ∀ A B, RS n A B → clr A = clr B) : ∀ (r s : Nat) (x y : Int32), feF n k T clr r s x y = feF n k U clr r s x y
  | 0, _, _, _ => rfl
  | r + 1, s, x, y => by
    have e := hc _ _ (mns_c (RS_hu (s := s) h) h7 k)
    unfold feF
    rw [e, RSs (k := 4) h (by omega), feF_cg h7 h hc r (s + 1) x y, feF_cg h7 h hc r (s + 1) _ _]
theorem clP_c {n : Nat} (A B : Nat → Int32) (h : RS n A B) : clP A = clP B := by
  unfold clP
  rw [RSs (k := 1) h (by omega), RSs (k := 5) h (by omega)]
theorem clJ_c {n j : Nat} (h7 : n ≤ 7) (hj : j < n) (A B : Nat → Int32) (h : RS n A B) : clJ j A = clJ j B := by
  unfold clJ
  rw [RS34 h h7 hj]
theorem low_c {n : Nat} {x : Int32} {T U : Nat → Int32} (h : RS n T U) : RS n (lowP T x) (lowP U x) := by
  unfold lowP
  rw [RSs (k := 5) h (by omega)]
  exact RS_up h
theorem drw_c {n a : Nat} {T U : Nat → Int32} (h : RS n T U) : RS n (drw n a T) (drw n a U) := by
  unfold drw
  split
  · exact low_c (RS_up h)
  · exact RS_up h
theorem drF_c {n : Nat} (h7 : n ≤ 7) : ∀ (r a : Nat) (T U : Nat → Int32) (x : Int32), RS n T U → RS n (drF n r a T x).1 (drF n r a U x).1 ∧ (drF n r a T x).2 = (drF n r a U x).2
  | 0, _, _, _, _, h => ⟨h, rfl⟩
  | r + 1, a, T, U, x, h => by
    have e := mn_c (drw_c (a := nxt a) h) h7
    unfold drF
    rw [RSs (k := 5) e (by omega)]
    exact drF_c h7 r (nxt a) _ _ _ e
theorem asF_c {n j i i' : Nat} {it it' : Nat → Int32} (h7 : n ≤ 7) (hj : j < n) : ∀ (r m : Nat) (T U : Nat → Int32), RS n T U → (∀ q, q < m + r → it (i + q) = it' (i' + q)) → asF n j it i r m T = asF n j it' i' r m U
  | 0, _, _, _, _, _ => rfl
  | r + 1, m, T, U, h, hi => by
    unfold asF
    rw [RS34 (mn_c h h7) h7 hj, hi m (by omega), asF_c h7 hj r (m + 1) _ _ (mn_c h h7) (fun q hq => hi q (by omega))]
theorem fitF_c {n j j2 o i i' k : Nat} {it it' T U : Nat → Int32} (h7 : n ≤ 7) (hj : j2 < n) (h : RS n T U) (hi : ∀ q, q < k → it (i + q) = it' (i' + q)) : ∀ (r v : Nat) (acc : Int32), fitF n j j2 o it i k T r v acc = fitF n j j2 o it' i' k U r v acc
  | 0, _, _ => rfl
  | r + 1, v, acc => by
    unfold fitF
    rw [asF_c h7 hj k 0 _ _ (RS_up (k := o + j) (x := nI v) h) (fun q hq => hi q (by omega)), fitF_c h7 hj h hi r (v + 1) acc, fitF_c h7 hj h hi r (v + 1) _]
theorem siF_c {n j i i' k : Nat} {it it' T U : Nat → Int32} (h7 : n ≤ 7) (hj : j < n) (h : RS n T U) (hi : ∀ q, q < k → it (i + q) = it' (i' + q)) : ∀ (r v : Nat) (acc : Int32), siF n j it i k T r v acc = siF n j it' i' k U r v acc
  | 0, _, _ => rfl
  | r + 1, v, acc => by
    have e : asF n j it i k 0 (upd T 4 (T 4 ||| (1 <<< (nI v &&& 31)))) = asF n j it' i' k 0 (upd U 4 (U 4 ||| (1 <<< (nI v &&& 31)))) := by
      rw [RSs (k := 4) h (by omega)]
      exact asF_c h7 hj k 0 _ _ (RS_up h) (fun q hq => hi q (by omega))
    unfold siF hs
    rw [e, RSs (k := 4) h (by omega), siF_c h7 hj h hi r (v + 1) acc, siF_c h7 hj h hi r (v + 1) _]
theorem csF_c {n k : Nat} {q : Int32} {T U : Nat → Int32} (h7 : n ≤ 7) (h : RS n T U) : ∀ (r s : Nat) (acc : Int64), csF n k q T r s acc = csF n k q U r s acc
  | 0, _, _ => rfl
  | r + 1, s, acc => by
    have e := mns_c (RS_hu (s := s) h) h7 k
    unfold csF
    rw [RSs (k := 1) e (by omega), RSs (k := 5) e (by omega), RSs (k := 4) h (by omega), csF_c h7 h r (s + 1) acc, csF_c h7 h r (s + 1) _]
theorem huF_c {n k : Nat} {q w : Int32} {T U : Nat → Int32} (h7 : n ≤ 7) (h : RS n T U) : huF n k q T w = huF n k q U w := by
  unfold huF
  rw [csF_c h7 h (2 ^ n) 0 0, RSs (k := 4) h (by omega)]
