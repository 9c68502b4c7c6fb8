section MK
variable {G : mj_G} {M : mj_M} {d kc ks pc n : Nat} {ls : List (Option Value)} {st : List Value} {h : mj_H} {uc us : Nat} {Q : Option Value → mj_H → Prop}
theorem push_w {q : Nat} {e : mj_E} (hz : h.1 = q) (k : ∀ h' : mj_H, h'.1 = q + 1 → h'.2 q = e → (∀ j, j ≠ q → h'.2 j = h.2 j) → mj_wp G M d kc ks pc ls st h' uc us Q) : mj_wp G M d kc ks pc ls st (mj_push h e) uc us Q := by
  subst hz
  exact k _ rfl (if_pos rfl) (fun j hj => if_neg hj)
theorem up_w {a : Nat} {e : mj_E} (k : ∀ h' : mj_H, h'.1 = h.1 → h'.2 a = e → (∀ j, j ≠ a → h'.2 j = h.2 j) → mj_wp G M d kc ks pc ls st h' uc us Q) : mj_wp G M d kc ks pc ls st (mj_up h a e) uc us Q := k _ rfl (if_pos rfl) (fun j hj => if_neg hj)
theorem wp_uc {uc' us' : Nat} (h1 : uc = uc') (h2 : us = us') (k : mj_wp G M d kc ks pc ls st h uc us Q) : mj_wp G M d kc ks pc ls st h uc' us' Q := by
  subst h1 h2
  exact k
theorem s_i0 {M' : mj_M} {d' kc' ks' idx a : Nat} {rest : List Value} {Q' : Option Value → mj_H → Prop} (hd : decode M.2.1 pc = .ok (.invokespecial idx, 3)) (hn : pc + 3 = n) (hw : Cond.methodLink M.1.cls idx M'.1 ∈ mj_T) (ok : mj_okI M' 0) (hret : M'.2.2.2 = none) (hrm : Nat.ble (rest.map fun v => v.category).sum 8 = true) (hdd : d' + 1 ≤ d) (hkc : uc + kc' ≤ kc) (hks : us + ks' ≤ ks) (hcon : mj_con G M' d' kc' ks' [.ref a] h Q') (k : ∀ v h', Q' v h' → mj_wp G M d kc ks n ls (v.toList ++ rest) h' (uc + kc') (us + ks') Q) : mj_wp G M d kc ks pc ls (.ref a :: rest) h uc us Q := s_spec (As := []) hd hn hw ok hret rfl hdd hkc hks hrm hcon k
theorem conI {np : Nat} {As : List Value} (ok : mj_okI M np) (hl : mj_ent M.2.2.1 As = ls) (hlen : Nat.ble (lg_sl As).length M.2.2.1 = true) (hw : mj_wp G M d kc ks 0 ls [] h 0 0 Q) : mj_con G M d kc ks As h Q := mj_con_intro ok.1 hl (mj_ble hlen) hw
theorem St_mv {q : Nat} {h' : mj_H} {T : Nat → Int32} (hS : mj_St G h q T) (a : ∀ j, q ≤ j → j < q + 7 → h'.2 j = h.2 j) : mj_St G h' q T := by
  obtain ⟨c0, c1, c2, c3, c4, c5, c6⟩ := hS
  exact ⟨(a _ (by omega) (by omega)).trans c0, (a _ (by omega) (by omega)).trans c1, (a _ (by omega) (by omega)).trans c2, (a _ (by omega) (by omega)).trans c3, (a _ (by omega) (by omega)).trans c4, (a _ (by omega) (by omega)).trans c5, (a _ (by omega) (by omega)).trans c6⟩
theorem Rw_mv {q : Nat} {h' : mj_H} {l s : Int32} {f : Nat → Int32} (hS : mj_Rw G h q l s f) (a : ∀ j, q ≤ j → j < q + 2 → h'.2 j = h.2 j) : mj_Rw G h' q l s f := ⟨(a _ (by omega) (by omega)).trans hS.1, (a _ (by omega) (by omega)).trans hS.2⟩
end MK
abbrev zf : Nat → Int32 := fun _ => 0
theorem sl_z {o : Nat} : sl zf o = zf := by
  funext i
  unfold sl
  split <;> rfl
theorem dfX0 : ∀ j, j < 3 → defaultValue (tyX0 j) = vp_V [.null, .int 0, .int 0] j
  | 0, _ => rfl
  | 1, _ => rfl
  | 2, _ => rfl
  | j + 3, h => absurd h (by omega)
theorem dfX1 : ∀ j, j < 3 → defaultValue (tyX1 j) = vp_V [.null, .int 0, .int 0] j
  | 0, _ => rfl
  | 1, _ => rfl
  | 2, _ => rfl
  | j + 3, h => absurd h (by omega)
theorem dfX2 : ∀ j, j < 12 → defaultValue (tyX2 j) = vp_V [.null, .null, .null, .null, .null, .null, .int 0, .int 0, .int 0, .int 0, .int 0, .int 0] j
  | 0, _ => rfl
  | 1, _ => rfl
  | 2, _ => rfl
  | 3, _ => rfl
  | 4, _ => rfl
  | 5, _ => rfl
  | 6, _ => rfl
  | 7, _ => rfl
  | 8, _ => rfl
  | 9, _ => rfl
  | 10, _ => rfl
  | 11, _ => rfl
  | j + 12, h => absurd h (by omega)
theorem dfX3 : ∀ j, j < 8 → defaultValue (tyX3 j) = vp_V [.null, .int 0, .int 0, .int 0, .int 0, .int 0, .int 0, .int 0] j
  | 0, _ => rfl
  | 1, _ => rfl
  | 2, _ => rfl
  | 3, _ => rfl
  | 4, _ => rfl
  | 5, _ => rfl
  | 6, _ => rfl
  | 7, _ => rfl
  | j + 8, h => absurd h (by omega)
theorem dfX4 : ∀ j, j < 10 → defaultValue (tyX4 j) = vp_V [.null, .null, .null, .null, .null, .null, .null, .int 0, .int 0, .int 0] j
  | 0, _ => rfl
  | 1, _ => rfl
  | 2, _ => rfl
  | 3, _ => rfl
  | 4, _ => rfl
  | 5, _ => rfl
  | 6, _ => rfl
  | 7, _ => rfl
  | 8, _ => rfl
  | 9, _ => rfl
  | j + 10, h => absurd h (by omega)
theorem dfX5 : ∀ j, j < 23 → defaultValue (tyX5 j) = vp_V [.null, .null, .null, .int 0, .int 0, .null, .null, .null, .int 0, .int 0, .int 0, .int 0, .int 0, .int 0, .int 0, .null, .null, .int 0, .null, .null, .null, .null, .int 0] j
  | 0, _ => rfl
  | 1, _ => rfl
  | 2, _ => rfl
  | 3, _ => rfl
  | 4, _ => rfl
  | 5, _ => rfl
  | 6, _ => rfl
  | 7, _ => rfl
  | 8, _ => rfl
  | 9, _ => rfl
  | 10, _ => rfl
  | 11, _ => rfl
  | 12, _ => rfl
  | 13, _ => rfl
  | 14, _ => rfl
  | 15, _ => rfl
  | 16, _ => rfl
  | 17, _ => rfl
  | 18, _ => rfl
  | 19, _ => rfl
  | 20, _ => rfl
  | 21, _ => rfl
  | 22, _ => rfl
  | j + 23, h => absurd h (by omega)
set_option maxRecDepth 100000 in
set_option maxHeartbeats 4000000 in
theorem c_init2 {G : mj_G} {h : mj_H} {d p : Nat} (z0' : h.1 = p + 1) (o0 : h.2 p = mj_ob 2 [.null, .null, .null, .null, .null, .null, .int 0, .int 0, .int 0, .int 0, .int 0, .int 0]) (hd : 2 ≤ d) : mj_con G MX2_init d 6 42 [.ref (G.1 + p)] h (fun v h' => v = none ∧ h'.1 = p + 7 ∧ mj_St G h' p zf ∧ ∀ j, j ≠ p → j < p + 1 → h'.2 j = h.2 j) := by
  refine conI okX2_init (ls := [some (.ref (G.1 + p))]) rfl rfl ?_
  have z0 := z0'
  have fx : ∀ j, (j ≠ p ∧ j < p + 1) → h.2 j = h.2 j := fun _ _ => rfl
  refine s_aload_n (n := 1) (i := 0) dX2_init_0 rfl rfl rfl ?_
  refine s_objInit (n := 4) dX2_init_1 rfl wd_X2_3 (by omega) (by simp [Value.category]) ?_
  refine s_aload_n (n := 5) (i := 0) dX2_init_4 rfl rfl rfl ?_
  refine s_bipush (n := 7) (v := 7) dX2_init_5 rfl (by decide) ?_
  refine s_newa_int (N := 7) (n := 9) dX2_init_7 rfl rfl (by omega) (by omega) (by omega) ?_
  rw [z0]
  refine push_w z0 (fun h1 z1 a1 f1 => ?_)
  have o0 := (f1 _ (by omega)).trans o0
  have fx := fun (j : Nat) (hj : j ≠ p ∧ j < p + 1) => (f1 j (by omega)).trans (fx j hj)
  refine pf_X2_9 (n := 12) (fs' := [_, _, _, _, _, _, _, _, _, _, _, _]) rfl rfl dX2_init_9 rfl o0 (by rfl) (by rfl) ?_
  refine up_w (fun h2 z2 o0 f2 => ?_)
  replace z2 := z2.trans z1
  have a1 := (f2 _ (by omega)).trans a1
  have fx := fun (j : Nat) (hj : j ≠ p ∧ j < p + 1) => (f2 j (by omega)).trans (fx j hj)
  refine s_aload_n (n := 13) (i := 0) dX2_init_12 rfl rfl rfl ?_
  refine s_bipush (n := 15) (v := 7) dX2_init_13 rfl (by decide) ?_
  refine s_newa_int (N := 7) (n := 17) dX2_init_15 rfl rfl (by omega) (by omega) (by omega) ?_
  rw [z2]
  refine push_w z2 (fun h3 z3 a3 f3 => ?_)
  have o0 := (f3 _ (by omega)).trans o0
  have a1 := (f3 _ (by omega)).trans a1
  have fx := fun (j : Nat) (hj : j ≠ p ∧ j < p + 1) => (f3 j (by omega)).trans (fx j hj)
  refine pf_X2_15 (n := 20) (fs' := [_, _, _, _, _, _, _, _, _, _, _, _]) rfl rfl dX2_init_17 rfl o0 (by rfl) (by rfl) ?_
  refine up_w (fun h4 z4 o0 f4 => ?_)
  replace z4 := z4.trans z3
  have a1 := (f4 _ (by omega)).trans a1
  have a3 := (f4 _ (by omega)).trans a3
  have fx := fun (j : Nat) (hj : j ≠ p ∧ j < p + 1) => (f4 j (by omega)).trans (fx j hj)
  refine s_aload_n (n := 21) (i := 0) dX2_init_20 rfl rfl rfl ?_
  refine s_bipush (n := 23) (v := 7) dX2_init_21 rfl (by decide) ?_
  refine s_newa_int (N := 7) (n := 25) dX2_init_23 rfl rfl (by omega) (by omega) (by omega) ?_
  rw [z4]
  refine push_w z4 (fun h5 z5 a5 f5 => ?_)
  have o0 := (f5 _ (by omega)).trans o0
  have a1 := (f5 _ (by omega)).trans a1
  have a3 := (f5 _ (by omega)).trans a3
  have fx := fun (j : Nat) (hj : j ≠ p ∧ j < p + 1) => (f5 j (by omega)).trans (fx j hj)
  refine pf_X2_18 (n := 28) (fs' := [_, _, _, _, _, _, _, _, _, _, _, _]) rfl rfl dX2_init_25 rfl o0 (by rfl) (by rfl) ?_
  refine up_w (fun h6 z6 o0 f6 => ?_)
  replace z6 := z6.trans z5
  have a1 := (f6 _ (by omega)).trans a1
  have a3 := (f6 _ (by omega)).trans a3
  have a5 := (f6 _ (by omega)).trans a5
  have fx := fun (j : Nat) (hj : j ≠ p ∧ j < p + 1) => (f6 j (by omega)).trans (fx j hj)
  refine s_aload_n (n := 29) (i := 0) dX2_init_28 rfl rfl rfl ?_
  refine s_bipush (n := 31) (v := 7) dX2_init_29 rfl (by decide) ?_
  refine s_newa_int (N := 7) (n := 33) dX2_init_31 rfl rfl (by omega) (by omega) (by omega) ?_
  rw [z6]
  refine push_w z6 (fun h7 z7 a7 f7 => ?_)
  have o0 := (f7 _ (by omega)).trans o0
  have a1 := (f7 _ (by omega)).trans a1
  have a3 := (f7 _ (by omega)).trans a3
  have a5 := (f7 _ (by omega)).trans a5
  have fx := fun (j : Nat) (hj : j ≠ p ∧ j < p + 1) => (f7 j (by omega)).trans (fx j hj)
  refine pf_X2_21 (n := 36) (fs' := [_, _, _, _, _, _, _, _, _, _, _, _]) rfl rfl dX2_init_33 rfl o0 (by rfl) (by rfl) ?_
  refine up_w (fun h8 z8 o0 f8 => ?_)
  replace z8 := z8.trans z7
  have a1 := (f8 _ (by omega)).trans a1
  have a3 := (f8 _ (by omega)).trans a3
  have a5 := (f8 _ (by omega)).trans a5
  have a7 := (f8 _ (by omega)).trans a7
  have fx := fun (j : Nat) (hj : j ≠ p ∧ j < p + 1) => (f8 j (by omega)).trans (fx j hj)
  refine s_aload_n (n := 37) (i := 0) dX2_init_36 rfl rfl rfl ?_
  refine s_bipush (n := 39) (v := 7) dX2_init_37 rfl (by decide) ?_
  refine s_newa_int (N := 7) (n := 41) dX2_init_39 rfl rfl (by omega) (by omega) (by omega) ?_
  rw [z8]
  refine push_w z8 (fun h9 z9 a9 f9 => ?_)
  have o0 := (f9 _ (by omega)).trans o0
  have a1 := (f9 _ (by omega)).trans a1
  have a3 := (f9 _ (by omega)).trans a3
  have a5 := (f9 _ (by omega)).trans a5
  have a7 := (f9 _ (by omega)).trans a7
  have fx := fun (j : Nat) (hj : j ≠ p ∧ j < p + 1) => (f9 j (by omega)).trans (fx j hj)
  refine pf_X2_24 (n := 44) (fs' := [_, _, _, _, _, _, _, _, _, _, _, _]) rfl rfl dX2_init_41 rfl o0 (by rfl) (by rfl) ?_
  refine up_w (fun h10 z10 o0 f10 => ?_)
  replace z10 := z10.trans z9
  have a1 := (f10 _ (by omega)).trans a1
  have a3 := (f10 _ (by omega)).trans a3
  have a5 := (f10 _ (by omega)).trans a5
  have a7 := (f10 _ (by omega)).trans a7
  have a9 := (f10 _ (by omega)).trans a9
  have fx := fun (j : Nat) (hj : j ≠ p ∧ j < p + 1) => (f10 j (by omega)).trans (fx j hj)
  refine s_aload_n (n := 45) (i := 0) dX2_init_44 rfl rfl rfl ?_
  refine s_bipush (n := 47) (v := 7) dX2_init_45 rfl (by decide) ?_
  refine s_newa_int (N := 7) (n := 49) dX2_init_47 rfl rfl (by omega) (by omega) (by omega) ?_
  rw [z10]
  refine push_w z10 (fun h11 z11 a11 f11 => ?_)
  have o0 := (f11 _ (by omega)).trans o0
  have a1 := (f11 _ (by omega)).trans a1
  have a3 := (f11 _ (by omega)).trans a3
  have a5 := (f11 _ (by omega)).trans a5
  have a7 := (f11 _ (by omega)).trans a7
  have a9 := (f11 _ (by omega)).trans a9
  have fx := fun (j : Nat) (hj : j ≠ p ∧ j < p + 1) => (f11 j (by omega)).trans (fx j hj)
  refine pf_X2_27 (n := 52) (fs' := [_, _, _, _, _, _, _, _, _, _, _, _]) rfl rfl dX2_init_49 rfl o0 (by rfl) (by rfl) ?_
  refine up_w (fun h12 z12 o0 f12 => ?_)
  replace z12 := z12.trans z11
  have a1 := (f12 _ (by omega)).trans a1
  have a3 := (f12 _ (by omega)).trans a3
  have a5 := (f12 _ (by omega)).trans a5
  have a7 := (f12 _ (by omega)).trans a7
  have a9 := (f12 _ (by omega)).trans a9
  have a11 := (f12 _ (by omega)).trans a11
  have fx := fun (j : Nat) (hj : j ≠ p ∧ j < p + 1) => (f12 j (by omega)).trans (fx j hj)
  refine s_return dX2_init_52 rfl (by omega) (by omega) ?_
  exact ⟨rfl, z12, ⟨o0, (a1.trans (by rw [sl_z])), (a3.trans (by rw [sl_z])), (a5.trans (by rw [sl_z])), (a7.trans (by rw [sl_z])), (a9.trans (by rw [sl_z])), (a11.trans (by rw [sl_z]))⟩, fun j a b => fx j ⟨a, b⟩⟩
set_option maxRecDepth 100000 in
set_option maxHeartbeats 4000000 in
theorem c_init1 {G : mj_G} {h : mj_H} {d p : Nat} (z0' : h.1 = p + 1) (o0 : h.2 p = mj_ob 1 [.null, .int 0, .int 0]) (hd : 2 ≤ d) : mj_con G MX1_init d 1 40 [.ref (G.1 + p)] h (fun v h' => v = none ∧ h'.1 = p + 2 ∧ mj_Rw G h' p (-1) 0 zf ∧ ∀ j, j ≠ p → j < p + 1 → h'.2 j = h.2 j) := by
  refine conI okX1_init (ls := [some (.ref (G.1 + p))]) rfl rfl ?_
  have z0 := z0'
  have fx : ∀ j, (j ≠ p ∧ j < p + 1) → h.2 j = h.2 j := fun _ _ => rfl
  refine s_aload_n (n := 1) (i := 0) dX1_init_0 rfl rfl rfl ?_
  refine s_objInit (n := 4) dX1_init_1 rfl wd_X1_3 (by omega) (by simp [Value.category]) ?_
  refine s_aload_n (n := 5) (i := 0) dX1_init_4 rfl rfl rfl ?_
  refine s_bipush (n := 7) (v := 40) dX1_init_5 rfl (by decide) ?_
  refine s_newa_int (N := 40) (n := 9) dX1_init_7 rfl rfl (by omega) (by omega) (by omega) ?_
  rw [z0]
  refine push_w z0 (fun h1 z1 a1 f1 => ?_)
  have o0 := (f1 _ (by omega)).trans o0
  have fx := fun (j : Nat) (hj : j ≠ p ∧ j < p + 1) => (f1 j (by omega)).trans (fx j hj)
  refine pf_X1_9 (n := 12) (fs' := [_, _, _]) rfl rfl dX1_init_9 rfl o0 (by rfl) (by rfl) ?_
  refine up_w (fun h2 z2 o0 f2 => ?_)
  replace z2 := z2.trans z1
  have a1 := (f2 _ (by omega)).trans a1
  have fx := fun (j : Nat) (hj : j ≠ p ∧ j < p + 1) => (f2 j (by omega)).trans (fx j hj)
  refine s_aload_n (n := 13) (i := 0) dX1_init_12 rfl rfl rfl ?_
  refine s_iconst (n := 14) (v := (-1)) dX1_init_13 rfl (by decide) ?_
  refine pf_X1_15 (n := 17) (fs' := [_, _, _]) rfl dX1_init_14 rfl o0 (by rfl) (by rfl) ?_
  refine up_w (fun h3 z3 o0 f3 => ?_)
  replace z3 := z3.trans z2
  have a1 := (f3 _ (by omega)).trans a1
  have fx := fun (j : Nat) (hj : j ≠ p ∧ j < p + 1) => (f3 j (by omega)).trans (fx j hj)
  refine s_return dX1_init_17 rfl (by omega) (by omega) ?_
  exact ⟨rfl, z3, ⟨o0, a1⟩, fun j a b => fx j ⟨a, b⟩⟩
set_option maxRecDepth 100000 in
set_option maxHeartbeats 4000000 in
theorem c_init3 {G : mj_G} {h : mj_H} {d p : Nat} (z0' : h.1 = p + 1) (o0 : h.2 p = mj_ob 3 [.null, .int 0, .int 0, .int 0, .int 0, .int 0, .int 0, .int 0]) (hd : 2 ≤ d) : mj_con G MX3_init d 1 120 [.ref (G.1 + p)] h (fun v h' => v = none ∧ h'.1 = p + 2 ∧ (h'.2 p = mj_ob 3 [.ref (G.1 + (p + 1)), .int 0, .int 0, .int 0, .int 0, .int 0, .int 0, .int 0] ∧ h'.2 (p + 1) = mj_ar 0 120 zf) ∧ ∀ j, j ≠ p → j < p + 1 → h'.2 j = h.2 j) := by
  refine conI okX3_init (ls := [some (.ref (G.1 + p))]) rfl rfl ?_
  have z0 := z0'
  have fx : ∀ j, (j ≠ p ∧ j < p + 1) → h.2 j = h.2 j := fun _ _ => rfl
  refine s_aload_n (n := 1) (i := 0) dX3_init_0 rfl rfl rfl ?_
  refine s_objInit (n := 4) dX3_init_1 rfl wd_X3_3 (by omega) (by simp [Value.category]) ?_
  refine s_aload_n (n := 5) (i := 0) dX3_init_4 rfl rfl rfl ?_
  refine s_bipush (n := 7) (v := 120) dX3_init_5 rfl (by decide) ?_
  refine s_newa_int (N := 120) (n := 9) dX3_init_7 rfl rfl (by omega) (by omega) (by omega) ?_
  rw [z0]
  refine push_w z0 (fun h1 z1 a1 f1 => ?_)
  have o0 := (f1 _ (by omega)).trans o0
  have fx := fun (j : Nat) (hj : j ≠ p ∧ j < p + 1) => (f1 j (by omega)).trans (fx j hj)
  refine pf_X3_9 (n := 12) (fs' := [_, _, _, _, _, _, _, _]) rfl rfl dX3_init_9 rfl o0 (by rfl) (by rfl) ?_
  refine up_w (fun h2 z2 o0 f2 => ?_)
  replace z2 := z2.trans z1
  have a1 := (f2 _ (by omega)).trans a1
  have fx := fun (j : Nat) (hj : j ≠ p ∧ j < p + 1) => (f2 j (by omega)).trans (fx j hj)
  refine s_return dX3_init_12 rfl (by omega) (by omega) ?_
  exact ⟨rfl, z2, ⟨o0, a1⟩, fun j a b => fx j ⟨a, b⟩⟩
