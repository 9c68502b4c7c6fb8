section MK
variable {G : mj_G} {M : mj_M} {d kc ks pc n : Nat} {ls : List (Option Value)} {st : List Value} {h : mj_H} {uc us : Nat} {Q : Option Value → mj_H → Prop}
theorem push_w {q : Nat} {e : mj_E} (hz : h.1 = q) (k : ∀ h' : mj_H, h'.1 = q + 1 → h'.2 q = e → (∀ j, j ≠ q → h'.2 j = h.2 j) → mj_wp G M d kc ks pc ls st h' uc us Q) : mj_wp G M d kc ks pc ls st (mj_push h e) uc us Q := by
  subst hz
  exact k _ rfl (if_pos rfl) (fun j hj => if_neg hj)
theorem up_w {a : Nat} {e : mj_E} (k : ∀ h' : mj_H, h'.1 = h.1 → h'.2 a = e → (∀ j, j ≠ a → h'.2 j = h.2 j) → mj_wp G M d kc ks pc ls st h' uc us Q) : mj_wp G M d kc ks pc ls st (mj_up h a e) uc us Q := k _ rfl (if_pos rfl) (fun j hj => if_neg hj)
theorem wp_uc {uc' us' : Nat} (h1 : uc = uc') (h2 : us = us') (k : mj_wp G M d kc ks pc ls st h uc us Q) : mj_wp G M d kc ks pc ls st h uc' us' Q := by
  subst h1 h2
  exact k
theorem s_i0 {M' : mj_M} {d' kc' ks' idx a : Nat} {rest : List Value} {Q' : Option Value → mj_H → Prop} (hd : decode M.2.1 pc = .ok (.invokespecial idx, 3)) (hn : pc + 3 = n) (hw : Cond.methodLink M.1.cls idx M'.1 ∈ mj_T) (ok : mj_okI M' 0) (hret : M'.2.2.2 = none) (hrm : Nat.ble (rest.map fun v => v.category).sum 8 = true) (hdd : d' + 1 ≤ d) (hkc : uc + kc' ≤ kc) (hks : us + ks' ≤ ks) (hcon : mj_con G M' d' kc' ks' [.ref a] h Q') (k : ∀ v h', Q' v h' → mj_wp G M d kc ks n ls (v.toList ++ rest) h' (uc + kc') (us + ks') Q) : mj_wp G M d kc ks pc ls (.ref a :: rest) h uc us Q := s_spec (As := []) hd hn hw ok hret rfl hdd hkc hks hrm hcon k
theorem conI {np : Nat} {As : List Value} (ok : mj_okI M np) (hl : mj_ent M.2.2.1 As = ls) (hlen : Nat.ble (lg_sl As).length M.2.2.1 = true) (hw : mj_wp G M d kc ks 0 ls [] h 0 0 Q) : mj_con G M d kc ks As h Q := mj_con_intro ok.1 hl (mj_ble hlen) hw
theorem St_mv {q : Nat} {h' : mj_H} {T : Nat → Int32} (hS : mj_St G h q T) (a : ∀ j, q ≤ j → j < q + 7 → h'.2 j = h.2 j) : mj_St G h' q T := by
  obtain ⟨c0, c1, c2, c3, c4, c5, c6⟩ := hS
  exact ⟨(a _ (by omega) (by omega)).trans c0, (a _ (by omega) (by omega)).trans c1, (a _ (by omega) (by omega)).trans c2, (a _ (by omega) (by omega)).trans c3, (a _ (by omega) (by omega)).trans c4, (a _ (by omega) (by omega)).trans c5, (a _ (by omega) (by omega)).trans c6⟩
theorem Rw_mv {q : Nat} {h' : mj_H} {l s : Int32} {f : Nat → Int32} (hS : mj_Rw G h q l s f) (a : ∀ j, q ≤ j → j < q + 2 → h'.2 j = h.2 j) : mj_Rw G h' q l s f := ⟨(a _ (by omega) (by omega)).trans hS.1, (a _ (by omega) (by omega)).trans hS.2⟩
end MK
abbrev zf : Nat → Int32 := fun _ => 0
theorem sl_z {o : Nat} : sl zf o = zf := by
  funext i
  unfold sl
  split <;> rfl
theorem dfX0 : ∀ j, j < 3 → defaultValue (tyX0 j) = vp_V [.null, .int 0, .int 0] j
  | 0, _ => rfl
  | 1, _ => rfl
  | 2, _ => rfl
  | j + 3, h => absurd h (by omega)
theorem dfX1 : ∀ j, j < 3 → defaultValue (tyX1 j) = vp_V [.null, .int 0, .int 0] j
  | 0, _ => rfl
  | 1, _ => rfl
  | 2, _ => rfl
  | j + 3, h => absurd h (by omega)
theorem dfX2 : ∀ j, j < 12 → defaultValue (tyX2 j) = vp_V [.null, .null, .null, .null, .null, .null, .int 0, .int 0, .int 0, .int 0, .int 0, .int 0] j
  | 0, _ => rfl
  | 1, _ => rfl
  | 2, _ => rfl
  | 3, _ => rfl
  | 4, _ => rfl
  | 5, _ => rfl
  | 6, _ => rfl
  | 7, _ => rfl
  | 8, _ => rfl
  | 9, _ => rfl
  | 10, _ => rfl
  | 11, _ => rfl
  | j + 12, h => absurd h (by omega)
theorem dfX3 : ∀ j, j < 8 → defaultValue (tyX3 j) = vp_V [.null, .int 0, .int 0, .int 0, .int 0, .int 0, .int 0, .int 0] j
  | 0, _ => rfl
  | 1, _ => rfl
  | 2, _ => rfl
  | 3, _ => rfl
  | 4, _ => rfl
  | 5, _ => rfl
  | 6, _ => rfl
  | 7, _ => rfl
  | j + 8, h => absurd h (by omega)
theorem dfX4 : ∀ j, j < 10 → defaultValue (tyX4 j) = vp_V [.null, .null, .null, .null, .null, .null, .null, .int 0, .int 0, .int 0] j
  | 0, _ => rfl
  | 1, _ => rfl
  | 2, _ => rfl
  | 3, _ => rfl
  | 4, _ => rfl
  | 5, _ => rfl
  | 6, _ => rfl
  | 7, _ => rfl
  | 8, _ => rfl
  | 9, _ => rfl
  | j + 10, h => absurd h (by omega)
theorem dfX5 : ∀ j, j < 23 → defaultValue (tyX5 j) = vp_V [.null, .null, .null, .int 0, .int 0, .null, .null, .null, .int 0, .int 0, .int 0, .int 0, .int 0, .int 0, .int 0, .null, .null, .int 0, .null, .null, .null, .null, .int 0] j
  | 0, _ => rfl
  | 1, _ => rfl
  | 2, _ => rfl
  | 3, _ => rfl
  | 4, _ => rfl
  | 5, _ => rfl
  | 6, _ => rfl
  | 7, _ => rfl
  | 8, _ => rfl
  | 9, _ => rfl
  | 10, _ => rfl
  | 11, _ => rfl
  | 12, _ => rfl
  | 13, _ => rfl
  | 14, _ => rfl
  | 15, _ => rfl
  | 16, _ => rfl
  | 17, _ => rfl
  | 18, _ => rfl
  | 19, _ => rfl
  | 20, _ => rfl
  | 21, _ => rfl
  | 22, _ => rfl
  | j + 23, h => absurd h (by omega)
set_option maxRecDepth 100000 in
set_option maxHeartbeats 4000000 in
theorem c_init2 {G : mj_G} {h : mj_H} {d p : Nat} (z0' : h.1 = p + 1) (o0 : h.2 p = mj_ob 2 [.null, .null, .null, .null, .null, .null, .int 0, .int 0, .int 0, .int 0, .int 0, .int 0]) (hd : 2 ≤ d) : mj_con G MX2_init d 6 42 [.ref (G.1 + p)] h (fun v h' => v = none ∧ h'.1 = p + 7 ∧ mj_St G h' p zf ∧ ∀ j, j < p → h'.2 j = h.2 j) := by
  refine conI okX2_init (ls := [some (.ref (G.1 + p))]) rfl rfl ?_
  have z0 := z0'
  have fx : ∀ j, (j ≠ p ∧ j < p + 1) → h.2 j = h.2 j := fun _ _ => rfl
  refine s_aload_n (n := 1) (i := 0) dX2_init_0 rfl rfl rfl ?_
  refine s_objInit (n := 4) dX2_init_1 rfl wd_X2_3 (by omega) (by simp [Value.category]) ?_
  refine s_aload_n (n := 5) (i := 0) dX2_init_4 rfl rfl rfl ?_
  refine s_bipush (n := 7) (v := 7) dX2_init_5 rfl (by decide) ?_
  refine s_newa_int (N := 7) (n := 9) dX2_init_7 rfl rfl (by omega) (by omega) (by omega) ?_
  rw [z0]
  refine push_w z0 (fun h1 z1 a1 f1 => ?_)
  have o0 := (f1 _ (by omega)).trans o0
  have fx := fun (j : Nat) (hj : j ≠ p ∧ j < p + 1) => (f1 j (by omega)).trans (fx j hj)
  refine pf_X2_9 (n := 12) (fs' := [_, _, _, _, _, _, _, _, _, _, _, _]) rfl rfl dX2_init_9 rfl o0 (by rfl) (by rfl) ?_
  refine up_w (fun h2 z2 o0 f2 => ?_)
  replace z2 := z2.trans z1
  have a1 := (f2 _ (by omega)).trans a1
  have fx := fun (j : Nat) (hj : j ≠ p ∧ j < p + 1) => (f2 j (by omega)).trans (fx j hj)
  refine s_aload_n (n := 13) (i := 0) dX2_init_12 rfl rfl rfl ?_
  refine s_bipush (n := 15) (v := 7) dX2_init_13 rfl (by decide) ?_
  refine s_newa_int (N := 7) (n := 17) dX2_init_15 rfl rfl (by omega) (by omega) (by omega) ?_
  rw [z2]
  refine push_w z2 (fun h3 z3 a3 f3 => ?_)
  have o0 := (f3 _ (by omega)).trans o0
  have a1 := (f3 _ (by omega)).trans a1
  have fx := fun (j : Nat) (hj : j ≠ p ∧ j < p + 1) => (f3 j (by omega)).trans (fx j hj)
  refine pf_X2_15 (n := 20) (fs' := [_, _, _, _, _, _, _, _, _, _, _, _]) rfl rfl dX2_init_17 rfl o0 (by rfl) (by rfl) ?_
  refine up_w (fun h4 z4 o0 f4 => ?_)
  replace z4 := z4.trans z3
  have a1 := (f4 _ (by omega)).trans a1
  have a3 := (f4 _ (by omega)).trans a3
  have fx := fun (j : Nat) (hj : j ≠ p ∧ j < p + 1) => (f4 j (by omega)).trans (fx j hj)
  refine s_aload_n (n := 21) (i := 0) dX2_init_20 rfl rfl rfl ?_
  refine s_bipush (n := 23) (v := 7) dX2_init_21 rfl (by decide) ?_
  refine s_newa_int (N := 7) (n := 25) dX2_init_23 rfl rfl (by omega) (by omega) (by omega) ?_
  rw [z4]
  refine push_w z4 (fun h5 z5 a5 f5 => ?_)
  have o0 := (f5 _ (by omega)).trans o0
  have a1 := (f5 _ (by omega)).trans a1
  have a3 := (f5 _ (by omega)).trans a3
  have fx := fun (j : Nat) (hj : j ≠ p ∧ j < p + 1) => (f5 j (by omega)).trans (fx j hj)
  refine pf_X2_18 (n := 28) (fs' := [_, _, _, _, _, _, _, _, _, _, _, _]) rfl rfl dX2_init_25 rfl o0 (by rfl) (by rfl) ?_
  refine up_w (fun h6 z6 o0 f6 => ?_)
  replace z6 := z6.trans z5
  have a1 := (f6 _ (by omega)).trans a1
  have a3 := (f6 _ (by omega)).trans a3
  have a5 := (f6 _ (by omega)).trans a5
  have fx := fun (j : Nat) (hj : j ≠ p ∧ j < p + 1) => (f6 j (by omega)).trans (fx j hj)
  refine s_aload_n (n := 29) (i := 0) dX2_init_28 rfl rfl rfl ?_
  refine s_bipush (n := 31) (v := 7) dX2_init_29 rfl (by decide) ?_
  refine s_newa_int (N := 7) (n := 33) dX2_init_31 rfl rfl (by omega) (by omega) (by omega) ?_
  rw [z6]
  refine push_w z6 (fun h7 z7 a7 f7 => ?_)
  have o0 := (f7 _ (by omega)).trans o0
  have a1 := (f7 _ (by omega)).trans a1
  have a3 := (f7 _ (by omega)).trans a3
  have a5 := (f7 _ (by omega)).trans a5
  have fx := fun (j : Nat) (hj : j ≠ p ∧ j < p + 1) => (f7 j (by omega)).trans (fx j hj)
  refine pf_X2_21 (n := 36) (fs' := [_, _, _, _, _, _, _, _, _, _, _, _]) rfl rfl dX2_init_33 rfl o0 (by rfl) (by rfl) ?_
  refine up_w (fun h8 z8 o0 f8 => ?_)
  replace z8 := z8.trans z7
  have a1 := (f8 _ (by omega)).trans a1
  have a3 := (f8 _ (by omega)).trans a3
  have a5 := (f8 _ (by omega)).trans a5
  have a7 := (f8 _ (by omega)).trans a7
  have fx := fun (j : Nat) (hj : j ≠ p ∧ j < p + 1) => (f8 j (by omega)).trans (fx j hj)
  refine s_aload_n (n := 37) (i := 0) dX2_init_36 rfl rfl rfl ?_
  refine s_bipush (n := 39) (v := 7) dX2_init_37 rfl (by decide) ?_
  refine s_newa_int (N := 7) (n := 41) dX2_init_39 rfl rfl (by omega) (by omega) (by omega) ?_
  rw [z8]
  refine push_w z8 (fun h9 z9 a9 f9 => ?_)
  have o0 := (f9 _ (by omega)).trans o0
  have a1 := (f9 _ (by omega)).trans a1
  have a3 := (f9 _ (by omega)).trans a3
  have a5 := (f9 _ (by omega)).trans a5
  have a7 := (f9 _ (by omega)).trans a7
  have fx := fun (j : Nat) (hj : j ≠ p ∧ j < p + 1) => (f9 j (by omega)).trans (fx j hj)
  refine pf_X2_24 (n := 44) (fs' := [_, _, _, _, _, _, _, _, _, _, _, _]) rfl rfl dX2_init_41 rfl o0 (by rfl) (by rfl) ?_
  refine up_w (fun h10 z10 o0 f10 => ?_)
  replace z10 := z10.trans z9
  have a1 := (f10 _ (by omega)).trans a1
  have a3 := (f10 _ (by omega)).trans a3
  have a5 := (f10 _ (by omega)).trans a5
  have a7 := (f10 _ (by omega)).trans a7
  have a9 := (f10 _ (by omega)).trans a9
  have fx := fun (j : Nat) (hj : j ≠ p ∧ j < p + 1) => (f10 j (by omega)).trans (fx j hj)
  refine s_aload_n (n := 45) (i := 0) dX2_init_44 rfl rfl rfl ?_
  refine s_bipush (n := 47) (v := 7) dX2_init_45 rfl (by decide) ?_
  refine s_newa_int (N := 7) (n := 49) dX2_init_47 rfl rfl (by omega) (by omega) (by omega) ?_
  rw [z10]
  refine push_w z10 (fun h11 z11 a11 f11 => ?_)
  have o0 := (f11 _ (by omega)).trans o0
  have a1 := (f11 _ (by omega)).trans a1
  have a3 := (f11 _ (by omega)).trans a3
  have a5 := (f11 _ (by omega)).trans a5
  have a7 := (f11 _ (by omega)).trans a7
  have a9 := (f11 _ (by omega)).trans a9
  have fx := fun (j : Nat) (hj : j ≠ p ∧ j < p + 1) => (f11 j (by omega)).trans (fx j hj)
  refine pf_X2_27 (n := 52) (fs' := [_, _, _, _, _, _, _, _, _, _, _, _]) rfl rfl dX2_init_49 rfl o0 (by rfl) (by rfl) ?_
  refine up_w (fun h12 z12 o0 f12 => ?_)
  replace z12 := z12.trans z11
  have a1 := (f12 _ (by omega)).trans a1
  have a3 := (f12 _ (by omega)).trans a3
  have a5 := (f12 _ (by omega)).trans a5
  have a7 := (f12 _ (by omega)).trans a7
  have a9 := (f12 _ (by omega)).trans a9
  have a11 := (f12 _ (by omega)).trans a11
  have fx := fun (j : Nat) (hj : j ≠ p ∧ j < p + 1) => (f12 j (by omega)).trans (fx j hj)
  refine s_return dX2_init_52 rfl (by omega) (by omega) ?_
  exact ⟨rfl, z12, ⟨o0, (a1.trans (by rw [sl_z])), (a3.trans (by rw [sl_z])), (a5.trans (by rw [sl_z])), (a7.trans (by rw [sl_z])), (a9.trans (by rw [sl_z])), (a11.trans (by rw [sl_z]))⟩, fun j a => fx j ⟨by omega, by omega⟩⟩
set_option maxRecDepth 100000 in
set_option maxHeartbeats 4000000 in
theorem c_init1 {G : mj_G} {h : mj_H} {d p : Nat} (z0' : h.1 = p + 1) (o0 : h.2 p = mj_ob 1 [.null, .int 0, .int 0]) (hd : 2 ≤ d) : mj_con G MX1_init d 1 40 [.ref (G.1 + p)] h (fun v h' => v = none ∧ h'.1 = p + 2 ∧ mj_Rw G h' p (-1) 0 zf ∧ ∀ j, j < p → h'.2 j = h.2 j) := by
  refine conI okX1_init (ls := [some (.ref (G.1 + p))]) rfl rfl ?_
  have z0 := z0'
  have fx : ∀ j, (j ≠ p ∧ j < p + 1) → h.2 j = h.2 j := fun _ _ => rfl
  refine s_aload_n (n := 1) (i := 0) dX1_init_0 rfl rfl rfl ?_
  refine s_objInit (n := 4) dX1_init_1 rfl wd_X1_3 (by omega) (by simp [Value.category]) ?_
  refine s_aload_n (n := 5) (i := 0) dX1_init_4 rfl rfl rfl ?_
  refine s_bipush (n := 7) (v := 40) dX1_init_5 rfl (by decide) ?_
  refine s_newa_int (N := 40) (n := 9) dX1_init_7 rfl rfl (by omega) (by omega) (by omega) ?_
  rw [z0]
  refine push_w z0 (fun h1 z1 a1 f1 => ?_)
  have o0 := (f1 _ (by omega)).trans o0
  have fx := fun (j : Nat) (hj : j ≠ p ∧ j < p + 1) => (f1 j (by omega)).trans (fx j hj)
  refine pf_X1_9 (n := 12) (fs' := [_, _, _]) rfl rfl dX1_init_9 rfl o0 (by rfl) (by rfl) ?_
  refine up_w (fun h2 z2 o0 f2 => ?_)
  replace z2 := z2.trans z1
  have a1 := (f2 _ (by omega)).trans a1
  have fx := fun (j : Nat) (hj : j ≠ p ∧ j < p + 1) => (f2 j (by omega)).trans (fx j hj)
  refine s_aload_n (n := 13) (i := 0) dX1_init_12 rfl rfl rfl ?_
  refine s_iconst (n := 14) (v := (-1)) dX1_init_13 rfl (by decide) ?_
  refine pf_X1_15 (n := 17) (fs' := [_, _, _]) rfl dX1_init_14 rfl o0 (by rfl) (by rfl) ?_
  refine up_w (fun h3 z3 o0 f3 => ?_)
  replace z3 := z3.trans z2
  have a1 := (f3 _ (by omega)).trans a1
  have fx := fun (j : Nat) (hj : j ≠ p ∧ j < p + 1) => (f3 j (by omega)).trans (fx j hj)
  refine s_return dX1_init_17 rfl (by omega) (by omega) ?_
  exact ⟨rfl, z3, ⟨o0, a1⟩, fun j a => fx j ⟨by omega, by omega⟩⟩
set_option maxRecDepth 100000 in
set_option maxHeartbeats 4000000 in
theorem c_init3 {G : mj_G} {h : mj_H} {d p : Nat} (z0' : h.1 = p + 1) (o0 : h.2 p = mj_ob 3 [.null, .int 0, .int 0, .int 0, .int 0, .int 0, .int 0, .int 0]) (hd : 2 ≤ d) : mj_con G MX3_init d 1 120 [.ref (G.1 + p)] h (fun v h' => v = none ∧ h'.1 = p + 2 ∧ (h'.2 p = mj_ob 3 [.ref (G.1 + (p + 1)), .int 0, .int 0, .int 0, .int 0, .int 0, .int 0, .int 0] ∧ h'.2 (p + 1) = mj_ar 0 120 zf) ∧ ∀ j, j < p → h'.2 j = h.2 j) := by
  refine conI okX3_init (ls := [some (.ref (G.1 + p))]) rfl rfl ?_
  have z0 := z0'
  have fx : ∀ j, (j ≠ p ∧ j < p + 1) → h.2 j = h.2 j := fun _ _ => rfl
  refine s_aload_n (n := 1) (i := 0) dX3_init_0 rfl rfl rfl ?_
  refine s_objInit (n := 4) dX3_init_1 rfl wd_X3_3 (by omega) (by simp [Value.category]) ?_
  refine s_aload_n (n := 5) (i := 0) dX3_init_4 rfl rfl rfl ?_
  refine s_bipush (n := 7) (v := 120) dX3_init_5 rfl (by decide) ?_
  refine s_newa_int (N := 120) (n := 9) dX3_init_7 rfl rfl (by omega) (by omega) (by omega) ?_
  rw [z0]
  refine push_w z0 (fun h1 z1 a1 f1 => ?_)
  have o0 := (f1 _ (by omega)).trans o0
  have fx := fun (j : Nat) (hj : j ≠ p ∧ j < p + 1) => (f1 j (by omega)).trans (fx j hj)
  refine pf_X3_9 (n := 12) (fs' := [_, _, _, _, _, _, _, _]) rfl rfl dX3_init_9 rfl o0 (by rfl) (by rfl) ?_
  refine up_w (fun h2 z2 o0 f2 => ?_)
  replace z2 := z2.trans z1
  have a1 := (f2 _ (by omega)).trans a1
  have fx := fun (j : Nat) (hj : j ≠ p ∧ j < p + 1) => (f2 j (by omega)).trans (fx j hj)
  refine s_return dX3_init_12 rfl (by omega) (by omega) ?_
  exact ⟨rfl, z2, ⟨o0, a1⟩, fun j a => fx j ⟨by omega, by omega⟩⟩
def rfI (G : mj_G) (a b i : Nat) : Nat → Option Nat := fun j => if j < i then some (G.1 + (a + b * j)) else none
theorem rfI_0 {G : mj_G} {a b : Nat} : rfI G a b 0 = fun _ => none := by
  funext j
  unfold rfI
  rw [if_neg (by omega)]
theorem rfI_s {G : mj_G} {a b i : Nat} : va_up (rfI G a b i) i (some (G.1 + (a + b * i))) = rfI G a b (i + 1) := by
  funext j
  unfold va_up rfI
  by_cases h : j = i
  · subst h
    rw [if_pos rfl, if_pos (by omega)]
  · rw [if_neg h]
    by_cases h2 : j < i
    · rw [if_pos h2, if_pos (by omega)]
    · rw [if_neg h2, if_neg (by omega)]
theorem Ac_mv {G : mj_G} {h h' : mj_H} {A : Nat → Nat → Int32} {B : Nat → Int32} (hS : AcS G h A B) (a : ∀ j, 18 ≤ j → j < 188 → h'.2 j = h.2 j) : AcS G h' A B := ⟨(a _ (by omega) (by omega)).trans hS.1, (a _ (by omega) (by omega)).trans hS.2.1, fun i hi => St_mv (hS.2.2 i hi) (fun j q1 q2 => a j (by omega) (by omega))⟩
set_option maxRecDepth 100000 in
set_option maxHeartbeats 4000000 in
theorem l_acts0 {G : mj_G} {d : Nat} {hb : mj_H} {Q : Option Value → mj_H → Prop} (hd : 3 ≤ d) (o : hb.2 18 = mj_ob 0 [.ref (G.1 + 19), .int 0, .int 0]) (K : ∀ h' : mj_H, h'.1 = 20 + 7 * 24 → h'.2 19 = mj_ra 3 24 (rfI G 20 7 24) → (∀ r, r < 24 → mj_St G h' (20 + 7 * r) zf) → (∀ j, j < 20 → j ≠ 19 → h'.2 j = hb.2 j) → mj_wp G MX0_init d 169 1320 40 [some (.ref (G.1 + 18)), some (.int (nI 24))] [] h' 169 1320 Q) : ∀ (r i : Nat), i + r = 24 → ∀ h : mj_H, h.1 = 20 + 7 * i → h.2 19 = mj_ra 3 24 (rfI G 20 7 i) → (∀ r, r < i → mj_St G h (20 + 7 * r) zf) → (∀ j, j < 20 → j ≠ 19 → h.2 j = hb.2 j) → mj_wp G MX0_init d 169 1320 15 [some (.ref (G.1 + 18)), some (.int (nI i))] [] h (1 + 7 * i) (24 + 54 * i) Q := by
  intro r
  induction r with
  | zero =>
    intro i hi h0 z0 ar wr fb
    have e : i = 24 := by omega
    subst e
    refine s_iload_n (n := 16) (i := 1) dX0_init_15 rfl rfl rfl ?_
    refine s_bipush (n := 18) (v := 24) dX0_init_16 rfl (by decide) ?_
    refine s_icmp_ge (n := 21) (tgt := 40) dX0_init_18 rfl rfl (fun b0 => ?_) (fun b0 => ?_)
    · exact wp_uc (by omega) (by omega) (K h0 z0 ar wr fb)
    · exact absurd (Int32.le_refl _) b0
  | succ r ih =>
    intro i hi h0 z0 ar wr fb
    refine s_iload_n (n := 16) (i := 1) dX0_init_15 rfl rfl rfl ?_
    refine s_bipush (n := 18) (v := 24) dX0_init_16 rfl (by decide) ?_
    refine s_icmp_ge (n := 21) (tgt := 40) dX0_init_18 rfl rfl (fun b0 => ?_) (fun b0 => ?_)
    · exact absurd ((nI_leE (a := 24) (by omega) (by omega)).mp b0) (by omega)
    · skip
      have o0 := (fb 18 (by omega) (by omega)).trans o
      refine s_aload_n (n := 22) (i := 0) dX0_init_21 rfl rfl rfl ?_
      refine gf_X0_11 (n := 25) rfl dX0_init_22 rfl o0 (by rfl) ?_
      refine s_iload_n (n := 26) (i := 1) dX0_init_25 rfl rfl rfl ?_
      refine s_new (ci := 2) (N := 12) (fs := [.null, .null, .null, .null, .null, .null, .int 0, .int 0, .int 0, .int 0, .int 0, .int 0]) tyX2 (n := 29) dX0_init_26 rfl wd_X0_9 wIn_X2 wNi_X2 rfl inT_X2 tyX2_ok dfX2 (by omega) (by omega) ?_
      rw [z0]
      refine push_w z0 (fun h1 z1 a1 f1 => ?_)
      have o0 := (f1 _ (by omega)).trans o0
      have ar := (f1 _ (by omega)).trans ar
      refine s_dup (n := 30) dX0_init_29 rfl rfl ?_
      refine s_i0 (M' := MX2_init) (n := 33) dX0_init_30 rfl wd_X0_17 okX2_init rfl rfl (by omega) (by omega) (by omega) (c_init2 (d := d - 1) z1 a1 (by omega)) ?_
      rintro v30 h2 ⟨rfl, z2, w2, f2⟩
      have o0 := (f2 _ (by omega)).trans o0
      have ar := (f2 _ (by omega)).trans ar
      refine s_aast (n := 34) (t := 3) (C0 := RX2) (ci := 2) dX0_init_33 rfl rfl rfl ar (mj_ixn (by omega)) w2.1 ?_
      rw [rfI_s]
      refine up_w (fun h3 z3 ar f3 => ?_)
      refine s_iinc (n := 37) (v := _ + 1) (ls' := [_, _]) dX0_init_34 rfl rfl rfl rfl rfl ?_
      refine s_goto (tgt := 15) dX0_init_37 rfl ?_
      rw [nI_1]
      refine wp_uc (by omega) (by omega) (ih (i + 1) (by omega) h3 (by rw [z3, z2]; omega) ar (fun r hr => ?_) (fun j hj hn => ?_))
      · by_cases hri : r = i
        · subst hri
          exact St_mv w2 (fun j q1 q2 => f3 j (by omega))
        · exact St_mv (wr r (by omega)) (fun j q1 q2 => (f3 j (by omega)).trans ((f2 j (by omega)).trans (f1 j (by omega))))
      · exact (f3 j (by omega)).trans ((f2 j (by omega)).trans ((f1 j (by omega)).trans (fb j hj hn)))
set_option maxRecDepth 100000 in
set_option maxHeartbeats 4000000 in
theorem c_init0 {G : mj_G} {h0 : mj_H} {d p : Nat} (z0 : h0.1 = p + 1) (o0 : h0.2 p = mj_ob 0 [.null, .int 0, .int 0]) (hp : p = 18) (hd : 3 ≤ d) : mj_con G MX0_init d 169 1320 [.ref (G.1 + p)] h0 (fun v h' => v = none ∧ h'.1 = 188 ∧ AcS G h' (fun _ => zf) zf ∧ ∀ j, j < p → h'.2 j = h0.2 j) := by
  subst hp
  refine conI okX0_init (ls := [some (.ref (G.1 + 18)), none]) rfl rfl ?_
  have fx : ∀ j, j < 18 → h0.2 j = h0.2 j := fun _ _ => rfl
  refine s_aload_n (n := 1) (i := 0) dX0_init_0 rfl rfl rfl ?_
  refine s_objInit (n := 4) dX0_init_1 rfl wd_X0_3 (by omega) (by simp [Value.category]) ?_
  refine s_aload_n (n := 5) (i := 0) dX0_init_4 rfl rfl rfl ?_
  refine s_bipush (n := 7) (v := 24) dX0_init_5 rfl (by decide) ?_
  refine s_anew (N := 24) (t := 3) (C0 := RX2) (n := 10) dX0_init_7 rfl wd_X0_9 rfl (fun _ hO => hO.2.2.2.2.1) rfl (by omega) (by omega) (by omega) ?_
  rw [z0]
  refine push_w z0 (fun h1 z1 a1 f1 => ?_)
  have o0 := (f1 _ (by omega)).trans o0
  have fx := fun (j : Nat) (hj : j < 18) => (f1 j (by omega)).trans (fx j hj)
  refine pf_X0_11 (n := 13) (fs' := [_, _, _]) rfl rfl dX0_init_10 rfl o0 (by rfl) (by rfl) ?_
  refine up_w (fun h2 z2 o0 f2 => ?_)
  replace z2 := z2.trans z1
  have a1 := (f2 _ (by omega)).trans a1
  have fx := fun (j : Nat) (hj : j < 18) => (f2 j (by omega)).trans (fx j hj)
  refine s_iconst (n := 14) (v := 0) dX0_init_13 rfl (by decide) ?_
  refine s_istore_n (n := 15) (i := 1) (ls' := [_, _]) dX0_init_14 rfl rfl rfl rfl rfl ?_
  replace a1 : h2.2 19 = mj_ra 3 24 (rfI G 20 7 0) := by
    rw [rfI_0]
    exact a1
  replace o0 : h2.2 18 = mj_ob 0 [.ref (G.1 + 19), .int 0, .int 0] := o0
  refine wp_uc (by omega) (by omega) (l_acts0 hd o0 (fun h3 z3 ar wr fb => ?_) 24 0 (by omega) h2 z2 a1 (fun r hr => absurd hr (by omega)) (fun j q1 q2 => rfl))
  refine s_return dX0_init_40 rfl (by omega) (by omega) ?_
  exact ⟨rfl, z3, ⟨(fb 18 (by omega) (by omega)).trans o0, ar, wr⟩, fun j hj => (fb j (by omega) (by omega)).trans (fx j hj)⟩
set_option maxRecDepth 100000 in
set_option maxHeartbeats 4000000 in
theorem l_rows0 {G : mj_G} {d : Nat} {hb : mj_H} {Q : Option Value → mj_H → Prop} (hd : 3 ≤ d) (o : hb.2 0 = mj_ob 4 [.ref (G.1 + 1), .ref (G.1 + 2), .ref (G.1 + 4), .ref (G.1 + 11), .ref (G.1 + 18), .ref (G.1 + 188), .ref (G.1 + 189), .int 0, .int 0, .int 0]) (K : ∀ h' : mj_H, h'.1 = 190 + 2 * 8 → h'.2 1 = mj_ra 2 8 (rfI G 190 2 8) → (∀ r, r < 8 → mj_Rw G h' (190 + 2 * r) (-1) 0 zf) → (∀ j, j < 190 → j ≠ 1 → h'.2 j = hb.2 j) → mj_wp G MX4_init d 219 2037 100 [some (.ref (G.1 + 0)), some (.int (nI 8))] [] h' 205 1929 Q) : ∀ (r i : Nat), i + r = 8 → ∀ h : mj_H, h.1 = 190 + 2 * i → h.2 1 = mj_ra 2 8 (rfI G 190 2 i) → (∀ r, r < i → mj_Rw G h (190 + 2 * r) (-1) 0 zf) → (∀ j, j < 190 → j ≠ 1 → h.2 j = hb.2 j) → mj_wp G MX4_init d 219 2037 75 [some (.ref (G.1 + 0)), some (.int (nI i))] [] h (189 + 2 * i) (1585 + 43 * i) Q := by
  intro r
  induction r with
  | zero =>
    intro i hi h0 z0 ar wr fb
    have e : i = 8 := by omega
    subst e
    refine s_iload_n (n := 76) (i := 1) dX4_init_75 rfl rfl rfl ?_
    refine s_bipush (n := 78) (v := 8) dX4_init_76 rfl (by decide) ?_
    refine s_icmp_ge (n := 81) (tgt := 100) dX4_init_78 rfl rfl (fun b0 => ?_) (fun b0 => ?_)
    · exact wp_uc (by omega) (by omega) (K h0 z0 ar wr fb)
    · exact absurd (Int32.le_refl _) b0
  | succ r ih =>
    intro i hi h0 z0 ar wr fb
    refine s_iload_n (n := 76) (i := 1) dX4_init_75 rfl rfl rfl ?_
    refine s_bipush (n := 78) (v := 8) dX4_init_76 rfl (by decide) ?_
    refine s_icmp_ge (n := 81) (tgt := 100) dX4_init_78 rfl rfl (fun b0 => ?_) (fun b0 => ?_)
    · exact absurd ((nI_leE (a := 8) (by omega) (by omega)).mp b0) (by omega)
    · skip
      have o0 := (fb 0 (by omega) (by omega)).trans o
      refine s_aload_n (n := 82) (i := 0) dX4_init_81 rfl rfl rfl ?_
      refine gf_X4_11 (n := 85) rfl dX4_init_82 rfl o0 (by rfl) ?_
      refine s_iload_n (n := 86) (i := 1) dX4_init_85 rfl rfl rfl ?_
      refine s_new (ci := 1) (N := 3) (fs := [.null, .int 0, .int 0]) tyX1 (n := 89) dX4_init_86 rfl wd_X4_9 wIn_X1 wNi_X1 rfl inT_X1 tyX1_ok dfX1 (by omega) (by omega) ?_
      rw [z0]
      refine push_w z0 (fun h1 z1 a1 f1 => ?_)
      have o0 := (f1 _ (by omega)).trans o0
      have ar := (f1 _ (by omega)).trans ar
      refine s_dup (n := 90) dX4_init_89 rfl rfl ?_
      refine s_i0 (M' := MX1_init) (n := 93) dX4_init_90 rfl wd_X4_47 okX1_init rfl rfl (by omega) (by omega) (by omega) (c_init1 (d := d - 1) z1 a1 (by omega)) ?_
      rintro v90 h2 ⟨rfl, z2, w2, f2⟩
      have o0 := (f2 _ (by omega)).trans o0
      have ar := (f2 _ (by omega)).trans ar
      refine s_aast (n := 94) (t := 2) (C0 := RX1) (ci := 1) dX4_init_93 rfl rfl rfl ar (mj_ixn (by omega)) w2.1 ?_
      rw [rfI_s]
      refine up_w (fun h3 z3 ar f3 => ?_)
      refine s_iinc (n := 97) (v := _ + 1) (ls' := [_, _]) dX4_init_94 rfl rfl rfl rfl rfl ?_
      refine s_goto (tgt := 75) dX4_init_97 rfl ?_
      rw [nI_1]
      refine wp_uc (by omega) (by omega) (ih (i + 1) (by omega) h3 (by rw [z3, z2]; omega) ar (fun r hr => ?_) (fun j hj hn => ?_))
      · by_cases hri : r = i
        · subst hri
          exact Rw_mv w2 (fun j q1 q2 => f3 j (by omega))
        · exact Rw_mv (wr r (by omega)) (fun j q1 q2 => (f3 j (by omega)).trans ((f2 j (by omega)).trans (f1 j (by omega))))
      · exact (f3 j (by omega)).trans ((f2 j (by omega)).trans ((f1 j (by omega)).trans (fb j hj hn)))
set_option maxRecDepth 100000 in
set_option maxHeartbeats 4000000 in
theorem l_imgs0 {G : mj_G} {d : Nat} {hb : mj_H} {Q : Option Value → mj_H → Prop} (hd : 3 ≤ d) (o : hb.2 0 = mj_ob 4 [.ref (G.1 + 1), .ref (G.1 + 2), .ref (G.1 + 4), .ref (G.1 + 11), .ref (G.1 + 18), .ref (G.1 + 188), .ref (G.1 + 189), .int 0, .int 0, .int 0]) (K : ∀ h' : mj_H, h'.1 = 206 + 7 * 2 → h'.2 188 = mj_ra 3 2 (rfI G 206 7 2) → (∀ r, r < 2 → mj_St G h' (206 + 7 * r) zf) → (∀ j, j < 206 → j ≠ 188 → h'.2 j = hb.2 j) → mj_wp G MX4_init d 219 2037 126 [some (.ref (G.1 + 0)), some (.int (nI 2))] [] h' 219 2037 Q) : ∀ (r i : Nat), i + r = 2 → ∀ h : mj_H, h.1 = 206 + 7 * i → h.2 188 = mj_ra 3 2 (rfI G 206 7 i) → (∀ r, r < i → mj_St G h (206 + 7 * r) zf) → (∀ j, j < 206 → j ≠ 188 → h.2 j = hb.2 j) → mj_wp G MX4_init d 219 2037 102 [some (.ref (G.1 + 0)), some (.int (nI i))] [] h (205 + 7 * i) (1929 + 54 * i) Q := by
  intro r
  induction r with
  | zero =>
    intro i hi h0 z0 ar wr fb
    have e : i = 2 := by omega
    subst e
    refine s_iload_n (n := 103) (i := 1) dX4_init_102 rfl rfl rfl ?_
    refine s_iconst (n := 104) (v := 2) dX4_init_103 rfl (by decide) ?_
    refine s_icmp_ge (n := 107) (tgt := 126) dX4_init_104 rfl rfl (fun b0 => ?_) (fun b0 => ?_)
    · exact wp_uc (by omega) (by omega) (K h0 z0 ar wr fb)
    · exact absurd (Int32.le_refl _) b0
  | succ r ih =>
    intro i hi h0 z0 ar wr fb
    refine s_iload_n (n := 103) (i := 1) dX4_init_102 rfl rfl rfl ?_
    refine s_iconst (n := 104) (v := 2) dX4_init_103 rfl (by decide) ?_
    refine s_icmp_ge (n := 107) (tgt := 126) dX4_init_104 rfl rfl (fun b0 => ?_) (fun b0 => ?_)
    · exact absurd ((nI_leE (a := 2) (by omega) (by omega)).mp b0) (by omega)
    · skip
      have o0 := (fb 0 (by omega) (by omega)).trans o
      refine s_aload_n (n := 108) (i := 0) dX4_init_107 rfl rfl rfl ?_
      refine gf_X4_39 (n := 111) rfl dX4_init_108 rfl o0 (by rfl) ?_
      refine s_iload_n (n := 112) (i := 1) dX4_init_111 rfl rfl rfl ?_
      refine s_new (ci := 2) (N := 12) (fs := [.null, .null, .null, .null, .null, .null, .int 0, .int 0, .int 0, .int 0, .int 0, .int 0]) tyX2 (n := 115) dX4_init_112 rfl wd_X4_22 wIn_X2 wNi_X2 rfl inT_X2 tyX2_ok dfX2 (by omega) (by omega) ?_
      rw [z0]
      refine push_w z0 (fun h1 z1 a1 f1 => ?_)
      have o0 := (f1 _ (by omega)).trans o0
      have ar := (f1 _ (by omega)).trans ar
      refine s_dup (n := 116) dX4_init_115 rfl rfl ?_
      refine s_i0 (M' := MX2_init) (n := 119) dX4_init_116 rfl wd_X4_24 okX2_init rfl rfl (by omega) (by omega) (by omega) (c_init2 (d := d - 1) z1 a1 (by omega)) ?_
      rintro v116 h2 ⟨rfl, z2, w2, f2⟩
      have o0 := (f2 _ (by omega)).trans o0
      have ar := (f2 _ (by omega)).trans ar
      refine s_aast (n := 120) (t := 3) (C0 := RX2) (ci := 2) dX4_init_119 rfl rfl rfl ar (mj_ixn (by omega)) w2.1 ?_
      rw [rfI_s]
      refine up_w (fun h3 z3 ar f3 => ?_)
      refine s_iinc (n := 123) (v := _ + 1) (ls' := [_, _]) dX4_init_120 rfl rfl rfl rfl rfl ?_
      refine s_goto (tgt := 102) dX4_init_123 rfl ?_
      rw [nI_1]
      refine wp_uc (by omega) (by omega) (ih (i + 1) (by omega) h3 (by rw [z3, z2]; omega) ar (fun r hr => ?_) (fun j hj hn => ?_))
      · by_cases hri : r = i
        · subst hri
          exact St_mv w2 (fun j q1 q2 => f3 j (by omega))
        · exact St_mv (wr r (by omega)) (fun j q1 q2 => (f3 j (by omega)).trans ((f2 j (by omega)).trans (f1 j (by omega))))
      · exact (f3 j (by omega)).trans ((f2 j (by omega)).trans ((f1 j (by omega)).trans (fb j hj hn)))
