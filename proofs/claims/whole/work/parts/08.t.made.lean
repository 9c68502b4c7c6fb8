/-- the class's state as it is made -/
def sg0 : Nat → Nat → Int32 := fun j => if j = 29 then fun _ => -1 else zf
theorem Ac_z {G : mj_G} {h h' : mj_H} (hS : AcS G h (fun _ => zf) zf) (a : ∀ j, 18 ≤ j → j < 188 → h'.2 j = h.2 j) : AcS G h' (fun i => sg0 (2 + i)) (sg0 28) := by
  have q := Ac_mv hS a
  refine ⟨q.1, q.2.1, fun i hi => ?_⟩
  have e : sg0 (2 + i) = zf := if_neg (by omega)
  show mj_St G h' _ (sg0 (2 + i))
  rw [e]
  exact q.2.2 i hi
theorem mk_rw {G : mj_G} {h : mj_H} {r : Nat} (hr : r < 8) (a : mj_Rw G h (190 + 2 * r) (-1) 0 zf) : mj_Rw G h (190 + 2 * r) (sg0 29 r) (sg0 30 r) (sg0 (34 + r)) := by
  have e : sg0 (34 + r) = zf := if_neg (by omega)
  rw [e]
  exact a
theorem mk_st {G : mj_G} {h : mj_H} {k : Nat} (hk : k < 2) (a : mj_St G h (206 + 7 * k) zf) : mj_St G h (206 + 7 * k) (sg0 (26 + k)) := by
  have e : sg0 (26 + k) = zf := if_neg (by omega)
  rw [e]
  exact a
theorem sg0_a {i : Nat} (hi : i < 24) : sg0 (2 + i) = zf := if_neg (by omega)
set_option maxRecDepth 100000 in
set_option maxHeartbeats 4000000 in
theorem c_init4 {G : mj_G} {h0 : mj_H} {d : Nat} (z0 : h0.1 = 1) (o0 : h0.2 0 = mj_ob 4 [.null, .null, .null, .null, .null, .null, .null, .int 0, .int 0, .int 0]) (hd : 5 ≤ d) : mj_con G MX4_init d 219 2037 [.ref (G.1 + 0)] h0 (fun v h' => v = none ∧ h'.1 = 220 ∧ XS G h' sg0) := by
  refine conI okX4_init (ls := [some (.ref (G.1 + 0)), none]) rfl rfl ?_
  refine s_aload_n (n := 1) (i := 0) dX4_init_0 rfl rfl rfl ?_
  refine s_objInit (n := 4) dX4_init_1 rfl wd_X4_1 (by omega) (by simp [Value.category]) ?_
  refine s_aload_n (n := 5) (i := 0) dX4_init_4 rfl rfl rfl ?_
  refine s_bipush (n := 7) (v := 8) dX4_init_5 rfl (by decide) ?_
  refine s_anew (N := 8) (t := 2) (C0 := RX1) (n := 10) dX4_init_7 rfl wd_X4_9 rfl (fun _ hO => hO.2.2.2.1) rfl (by omega) (by omega) (by omega) ?_
  rw [z0]
  refine push_w z0 (fun h1 z1 a1 f1 => ?_)
  replace z1 : h1.1 = 2 := z1
  have o0 := (f1 _ (by omega)).trans o0
  refine pf_X4_11 (n := 13) (fs' := [_, _, _, _, _, _, _, _, _, _]) rfl rfl dX4_init_10 rfl o0 (by rfl) (by rfl) ?_
  refine up_w (fun h2 z2 o0 f2 => ?_)
  replace z2 := z2.trans z1
  have a1 := (f2 _ (by omega)).trans a1
  refine s_aload_n (n := 14) (i := 0) dX4_init_13 rfl rfl rfl ?_
  refine s_new (ci := 3) (N := 8) (fs := [.null, .int 0, .int 0, .int 0, .int 0, .int 0, .int 0, .int 0]) tyX3 (n := 17) dX4_init_14 rfl wd_X4_15 wIn_X3 wNi_X3 rfl inT_X3 tyX3_ok dfX3 (by omega) (by omega) ?_
  rw [z2]
  refine push_w z2 (fun h3 z3 a3 f3 => ?_)
  replace z3 : h3.1 = 3 := z3
  have o0 := (f3 _ (by omega)).trans o0
  have a1 := (f3 _ (by omega)).trans a1
  refine s_dup (n := 18) dX4_init_17 rfl rfl ?_
  refine s_i0 (M' := MX3_init) (n := 21) dX4_init_18 rfl wd_X4_17 okX3_init rfl rfl (by omega) (by omega) (by omega) (c_init3 (d := d - 1) (p := 2) z3 a3 (by omega)) ?_
  rintro v18 h4 ⟨rfl, z4, w18, f4⟩
  replace z4 : h4.1 = 4 := z4
  have o0 := (f4 _ (by omega)).trans o0
  have a1 := (f4 _ (by omega)).trans a1
  refine pf_X4_18 (n := 24) (fs' := [_, _, _, _, _, _, _, _, _, _]) rfl rfl dX4_init_21 rfl o0 (by rfl) (by rfl) ?_
  refine up_w (fun h5 z5 o0 f5 => ?_)
  replace z5 := z5.trans z4
  have a1 := (f5 _ (by omega)).trans a1
  have w18 := (⟨(f5 _ (by omega)).trans w18.1, (f5 _ (by omega)).trans w18.2⟩ : _ ∧ _)
  refine s_aload_n (n := 25) (i := 0) dX4_init_24 rfl rfl rfl ?_
  refine s_new (ci := 2) (N := 12) (fs := [.null, .null, .null, .null, .null, .null, .int 0, .int 0, .int 0, .int 0, .int 0, .int 0]) tyX2 (n := 28) dX4_init_25 rfl wd_X4_22 wIn_X2 wNi_X2 rfl inT_X2 tyX2_ok dfX2 (by omega) (by omega) ?_
  rw [z5]
  refine push_w z5 (fun h6 z6 a6 f6 => ?_)
  replace z6 : h6.1 = 5 := z6
  have o0 := (f6 _ (by omega)).trans o0
  have a1 := (f6 _ (by omega)).trans a1
  have w18 := (⟨(f6 _ (by omega)).trans w18.1, (f6 _ (by omega)).trans w18.2⟩ : _ ∧ _)
  refine s_dup (n := 29) dX4_init_28 rfl rfl ?_
  refine s_i0 (M' := MX2_init) (n := 32) dX4_init_29 rfl wd_X4_24 okX2_init rfl rfl (by omega) (by omega) (by omega) (c_init2 (d := d - 1) (p := 4) z6 a6 (by omega)) ?_
  rintro v29 h7 ⟨rfl, z7, w29, f7⟩
  replace z7 : h7.1 = 11 := z7
  have o0 := (f7 _ (by omega)).trans o0
  have a1 := (f7 _ (by omega)).trans a1
  have w18 := (⟨(f7 _ (by omega)).trans w18.1, (f7 _ (by omega)).trans w18.2⟩ : _ ∧ _)
  refine pf_X4_25 (n := 35) (fs' := [_, _, _, _, _, _, _, _, _, _]) rfl rfl dX4_init_32 rfl o0 (by rfl) (by rfl) ?_
  refine up_w (fun h8 z8 o0 f8 => ?_)
  replace z8 := z8.trans z7
  have a1 := (f8 _ (by omega)).trans a1
  have w18 := (⟨(f8 _ (by omega)).trans w18.1, (f8 _ (by omega)).trans w18.2⟩ : _ ∧ _)
  have w29 := St_mv w29 (fun j a b => f8 j (by omega))
  refine s_aload_n (n := 36) (i := 0) dX4_init_35 rfl rfl rfl ?_
  refine s_new (ci := 2) (N := 12) (fs := [.null, .null, .null, .null, .null, .null, .int 0, .int 0, .int 0, .int 0, .int 0, .int 0]) tyX2 (n := 39) dX4_init_36 rfl wd_X4_22 wIn_X2 wNi_X2 rfl inT_X2 tyX2_ok dfX2 (by omega) (by omega) ?_
  rw [z8]
  refine push_w z8 (fun h9 z9 a9 f9 => ?_)
  replace z9 : h9.1 = 12 := z9
  have o0 := (f9 _ (by omega)).trans o0
  have a1 := (f9 _ (by omega)).trans a1
  have w18 := (⟨(f9 _ (by omega)).trans w18.1, (f9 _ (by omega)).trans w18.2⟩ : _ ∧ _)
  have w29 := St_mv w29 (fun j a b => f9 j (by omega))
  refine s_dup (n := 40) dX4_init_39 rfl rfl ?_
  refine s_i0 (M' := MX2_init) (n := 43) dX4_init_40 rfl wd_X4_24 okX2_init rfl rfl (by omega) (by omega) (by omega) (c_init2 (d := d - 1) (p := 11) z9 a9 (by omega)) ?_
  rintro v40 h10 ⟨rfl, z10, w40, f10⟩
  replace z10 : h10.1 = 18 := z10
  have o0 := (f10 _ (by omega)).trans o0
  have a1 := (f10 _ (by omega)).trans a1
  have w18 := (⟨(f10 _ (by omega)).trans w18.1, (f10 _ (by omega)).trans w18.2⟩ : _ ∧ _)
  have w29 := St_mv w29 (fun j a b => f10 j (by omega))
  refine pf_X4_29 (n := 46) (fs' := [_, _, _, _, _, _, _, _, _, _]) rfl rfl dX4_init_43 rfl o0 (by rfl) (by rfl) ?_
  refine up_w (fun h11 z11 o0 f11 => ?_)
  replace z11 := z11.trans z10
  have a1 := (f11 _ (by omega)).trans a1
  have w18 := (⟨(f11 _ (by omega)).trans w18.1, (f11 _ (by omega)).trans w18.2⟩ : _ ∧ _)
  have w29 := St_mv w29 (fun j a b => f11 j (by omega))
  have w40 := St_mv w40 (fun j a b => f11 j (by omega))
  refine s_aload_n (n := 47) (i := 0) dX4_init_46 rfl rfl rfl ?_
  refine s_new (ci := 0) (N := 3) (fs := [.null, .int 0, .int 0]) tyX0 (n := 50) dX4_init_47 rfl wd_X4_32 wIn_X0 wNi_X0 rfl inT_X0 tyX0_ok dfX0 (by omega) (by omega) ?_
  rw [z11]
  refine push_w z11 (fun h12 z12 a12 f12 => ?_)
  replace z12 : h12.1 = 19 := z12
  have o0 := (f12 _ (by omega)).trans o0
  have a1 := (f12 _ (by omega)).trans a1
  have w18 := (⟨(f12 _ (by omega)).trans w18.1, (f12 _ (by omega)).trans w18.2⟩ : _ ∧ _)
  have w29 := St_mv w29 (fun j a b => f12 j (by omega))
  have w40 := St_mv w40 (fun j a b => f12 j (by omega))
  refine s_dup (n := 51) dX4_init_50 rfl rfl ?_
  refine s_i0 (M' := MX0_init) (n := 54) dX4_init_51 rfl wd_X4_34 okX0_init rfl rfl (by omega) (by omega) (by omega) (c_init0 (d := d - 1) (p := 18) z12 a12 rfl (by omega)) ?_
  rintro v51 h13 ⟨rfl, z13, w51, f13⟩
  replace z13 : h13.1 = 188 := z13
  have o0 := (f13 _ (by omega)).trans o0
  have a1 := (f13 _ (by omega)).trans a1
  have w18 := (⟨(f13 _ (by omega)).trans w18.1, (f13 _ (by omega)).trans w18.2⟩ : _ ∧ _)
  have w29 := St_mv w29 (fun j a b => f13 j (by omega))
  have w40 := St_mv w40 (fun j a b => f13 j (by omega))
  refine pf_X4_35 (n := 57) (fs' := [_, _, _, _, _, _, _, _, _, _]) rfl rfl dX4_init_54 rfl o0 (by rfl) (by rfl) ?_
  refine up_w (fun h14 z14 o0 f14 => ?_)
  replace z14 := z14.trans z13
  have a1 := (f14 _ (by omega)).trans a1
  have w18 := (⟨(f14 _ (by omega)).trans w18.1, (f14 _ (by omega)).trans w18.2⟩ : _ ∧ _)
  have w29 := St_mv w29 (fun j a b => f14 j (by omega))
  have w40 := St_mv w40 (fun j a b => f14 j (by omega))
  have w51 := Ac_mv w51 (fun j a b => f14 j (by omega))
  refine s_aload_n (n := 58) (i := 0) dX4_init_57 rfl rfl rfl ?_
  refine s_iconst (n := 59) (v := 2) dX4_init_58 rfl (by decide) ?_
  refine s_anew (N := 2) (t := 3) (C0 := RX2) (n := 62) dX4_init_59 rfl wd_X4_22 rfl (fun _ hO => hO.2.2.2.2.1) rfl (by omega) (by omega) (by omega) ?_
  rw [z14]
  refine push_w z14 (fun h15 z15 a15 f15 => ?_)
  replace z15 : h15.1 = 189 := z15
  have o0 := (f15 _ (by omega)).trans o0
  have a1 := (f15 _ (by omega)).trans a1
  have w18 := (⟨(f15 _ (by omega)).trans w18.1, (f15 _ (by omega)).trans w18.2⟩ : _ ∧ _)
  have w29 := St_mv w29 (fun j a b => f15 j (by omega))
  have w40 := St_mv w40 (fun j a b => f15 j (by omega))
  have w51 := Ac_mv w51 (fun j a b => f15 j (by omega))
  refine pf_X4_39 (n := 65) (fs' := [_, _, _, _, _, _, _, _, _, _]) rfl rfl dX4_init_62 rfl o0 (by rfl) (by rfl) ?_
  refine up_w (fun h16 z16 o0 f16 => ?_)
  replace z16 := z16.trans z15
  have a1 := (f16 _ (by omega)).trans a1
  have a15 := (f16 _ (by omega)).trans a15
  have w18 := (⟨(f16 _ (by omega)).trans w18.1, (f16 _ (by omega)).trans w18.2⟩ : _ ∧ _)
  have w29 := St_mv w29 (fun j a b => f16 j (by omega))
  have w40 := St_mv w40 (fun j a b => f16 j (by omega))
  have w51 := Ac_mv w51 (fun j a b => f16 j (by omega))
  refine s_aload_n (n := 66) (i := 0) dX4_init_65 rfl rfl rfl ?_
  refine s_bipush (n := 68) (v := 16) dX4_init_66 rfl (by decide) ?_
  refine s_newa_int (N := 16) (n := 70) dX4_init_68 rfl rfl (by omega) (by omega) (by omega) ?_
  rw [z16]
  refine push_w z16 (fun h17 z17 a17 f17 => ?_)
  replace z17 : h17.1 = 190 := z17
  have o0 := (f17 _ (by omega)).trans o0
  have a1 := (f17 _ (by omega)).trans a1
  have a15 := (f17 _ (by omega)).trans a15
  have w18 := (⟨(f17 _ (by omega)).trans w18.1, (f17 _ (by omega)).trans w18.2⟩ : _ ∧ _)
  have w29 := St_mv w29 (fun j a b => f17 j (by omega))
  have w40 := St_mv w40 (fun j a b => f17 j (by omega))
  have w51 := Ac_mv w51 (fun j a b => f17 j (by omega))
  refine pf_X4_43 (n := 73) (fs' := [_, _, _, _, _, _, _, _, _, _]) rfl rfl dX4_init_70 rfl o0 (by rfl) (by rfl) ?_
  refine up_w (fun h18 z18 o0 f18 => ?_)
  replace z18 := z18.trans z17
  have a1 := (f18 _ (by omega)).trans a1
  have a15 := (f18 _ (by omega)).trans a15
  have a17 := (f18 _ (by omega)).trans a17
  have w18 := (⟨(f18 _ (by omega)).trans w18.1, (f18 _ (by omega)).trans w18.2⟩ : _ ∧ _)
  have w29 := St_mv w29 (fun j a b => f18 j (by omega))
  have w40 := St_mv w40 (fun j a b => f18 j (by omega))
  have w51 := Ac_mv w51 (fun j a b => f18 j (by omega))
  refine s_iconst (n := 74) (v := 0) dX4_init_73 rfl (by decide) ?_
  refine s_istore_n (n := 75) (i := 1) (ls' := [_, _]) dX4_init_74 rfl rfl rfl rfl rfl ?_
  replace o0 : h18.2 0 = mj_ob 4 [.ref (G.1 + 1), .ref (G.1 + 2), .ref (G.1 + 4), .ref (G.1 + 11), .ref (G.1 + 18), .ref (G.1 + 188), .ref (G.1 + 189), .int 0, .int 0, .int 0] := o0
  have hr : h18.2 1 = mj_ra 2 8 (rfI G 190 2 0) := by
    rw [rfI_0]
    exact a1
  have hi : h18.2 188 = mj_ra 3 2 (rfI G 206 7 0) := by
    rw [rfI_0]
    exact a15
  refine wp_uc (by omega) (by omega) (l_rows0 (by omega) o0 (fun hA zA rA wA fA => ?_) 8 0 (by omega) h18 z18 hr (fun r hr => absurd hr (by omega)) (fun j q1 q2 => rfl))
  have oA := (fA 0 (by omega) (by omega)).trans o0
  have iA := (fA 188 (by omega) (by omega)).trans hi
  refine s_iconst (n := 101) (v := 0) dX4_init_100 rfl (by decide) ?_
  refine s_istore_n (n := 102) (i := 1) (ls' := [_, _]) dX4_init_101 rfl rfl rfl rfl rfl ?_
  refine l_imgs0 (by omega) oA (fun hB zB rB wB fB => ?_) 2 0 (by omega) hA zA iA (fun r hr => absurd hr (by omega)) (fun j q1 q2 => rfl)
  refine s_return dX4_init_126 rfl (by omega) (by omega) ?_
  have fC : ∀ j, j < 190 → j ≠ 1 → j ≠ 188 → hB.2 j = h18.2 j := fun j q1 q2 q3 => (fB j (by omega) q3).trans (fA j q1 q2)
  exact ⟨rfl, zB, (fC 0 (by omega) (by omega) (by omega)).trans o0, (fB 1 (by omega) (by omega)).trans rA, ⟨(fC 2 (by omega) (by omega) (by omega)).trans w18.1, (fC 3 (by omega) (by omega) (by omega)).trans w18.2⟩, St_mv w29 (fun j a b => fC j (by omega) (by omega) (by omega)), St_mv w40 (fun j a b => fC j (by omega) (by omega) (by omega)), Ac_z w51 (fun j a b => fC j (by omega) (by omega) (by omega)), rB, (fC 189 (by omega) (by omega) (by omega)).trans a17, fun r hr => mk_rw hr (Rw_mv (wA r hr) (fun j a b => fB j (by omega) (by omega))), fun k hk => mk_st hk (wB k hk)⟩
/-- the model's state as it is made -/
def ta0 : Nat → Nat → Int32 := fun j => if j = 2 then fillF zf 8 (-1) else zf
set_option maxRecDepth 100000 in
set_option maxHeartbeats 4000000 in
theorem l_sizes0 {G : mj_G} {d : Nat} {hb : mj_H} {Q : Option Value → mj_H → Prop} (o : hb.2 220 = YO G zf) (K : ∀ h' : mj_H, h'.1 = hb.1 → h'.2 222 = mj_ar 0 8 (fillF zf 8 (-1)) → (∀ j, j ≠ 222 → h'.2 j = hb.2 j) → mj_wp G MX5_init d 12 1906 122 [some (.ref (G.1 + 220)), some (.int (nI 8))] [] h' 12 1906 Q) : ∀ (r i : Nat), i + r = 8 → ∀ h : mj_H, h.1 = hb.1 → h.2 222 = mj_ar 0 8 (fillF zf i (-1)) → (∀ j, j ≠ 222 → h.2 j = hb.2 j) → mj_wp G MX5_init d 12 1906 103 [some (.ref (G.1 + 220)), some (.int (nI i))] [] h 12 1906 Q := by
  intro r
  induction r with
  | zero =>
    intro i hi h z ar fb
    have e : i = 8 := by omega
    subst e
    refine s_iload_n (n := 104) (i := 1) dX5_init_103 rfl rfl rfl ?_
    refine s_bipush (n := 106) (v := 8) dX5_init_104 rfl (by decide) ?_
    refine s_icmp_ge (n := 109) (tgt := 122) dX5_init_106 rfl rfl (fun b106 => ?_) (fun b106 => ?_)
    · exact K h z ar fb
    · exact absurd (Int32.le_refl _) b106
  | succ r ih =>
    intro i hi h z ar fb
    have o0 := (fb 220 (by omega)).trans o
    refine s_iload_n (n := 104) (i := 1) dX5_init_103 rfl rfl rfl ?_
    refine s_bipush (n := 106) (v := 8) dX5_init_104 rfl (by decide) ?_
    refine s_icmp_ge (n := 109) (tgt := 122) dX5_init_106 rfl rfl (fun b106 => ?_) (fun b106 => ?_)
    · exact absurd ((nI_leE (a := 8) (by omega) (by omega)).mp b106) (by omega)
    · refine s_aload_n (n := 110) (i := 0) dX5_init_109 rfl rfl rfl ?_
      refine gf_X5_13 (n := 113) rfl dX5_init_110 rfl (o0) (by rfl) ?_
      refine s_iload_n (n := 114) (i := 1) dX5_init_113 rfl rfl rfl ?_
      refine s_iconst (n := 115) (v := (-1)) dX5_init_114 rfl (by decide) ?_
      refine s_iast (n := 116) dX5_init_115 rfl (ar) (mj_ixn (by omega)) ?_
      rw [fillF_s]
      refine up_w (fun h1 z1 ar1 f1 => ?_)
      refine s_iinc (n := 119) (v := _ + 1) (ls' := [_, _]) dX5_init_116 rfl rfl rfl rfl rfl ?_
      refine s_goto (tgt := 103) dX5_init_119 rfl ?_
      rw [nI_1]
      exact ih (i + 1) (by omega) h1 (z1.trans z) ar1 (fun j hj => (f1 j hj).trans (fb j hj))
set_option maxRecDepth 100000 in
set_option maxHeartbeats 4000000 in
theorem c_init5 {G : mj_G} {h0 : mj_H} {d : Nat} (z0 : h0.1 = 221) (o0 : h0.2 220 = mj_ob 5 [.null, .null, .null, .int 0, .int 0, .null, .null, .null, .int 0, .int 0, .int 0, .int 0, .int 0, .int 0, .int 0, .null, .null, .int 0, .null, .null, .null, .null, .int 0]) (hd : 2 ≤ d) : mj_con G MX5_init d 12 1906 [.ref (G.1 + 220)] h0 (fun v h' => v = none ∧ h'.1 = 233 ∧ YS G h' ta0 ∧ ∀ j, j < 220 → h'.2 j = h0.2 j) := by
  refine conI okX5_init (ls := [some (.ref (G.1 + 220)), none]) rfl rfl ?_
  have fx : ∀ j, j < 220 → h0.2 j = h0.2 j := fun _ _ => rfl
  refine s_aload_n (n := 1) (i := 0) dX5_init_0 rfl rfl rfl ?_
  refine s_objInit (n := 4) dX5_init_1 rfl wd_X5_1 (by omega) (by simp [Value.category]) ?_
  refine s_aload_n (n := 5) (i := 0) dX5_init_4 rfl rfl rfl ?_
  refine s_bipush (n := 7) (v := 8) dX5_init_5 rfl (by decide) ?_
  refine s_newa_int (N := 8) (n := 9) dX5_init_7 rfl rfl (by omega) (by omega) (by omega) ?_
  rw [z0]
  refine push_w z0 (fun h1 z1 a1 f1 => ?_)
  replace z1 : h1.1 = 222 := z1
  have o0 := (f1 _ (by omega)).trans o0
  have fx := fun (j : Nat) (hj : j < 220) => (f1 j (by omega)).trans (fx j hj)
  refine pf_X5_7 (n := 12) (fs' := [_, _, _, _, _, _, _, _, _, _, _, _, _, _, _, _, _, _, _, _, _, _, _]) rfl rfl dX5_init_9 rfl o0 (by rfl) (by rfl) ?_
  refine up_w (fun h2 z2 o0 f2 => ?_)
  replace z2 := z2.trans z1
  have a1 := (f2 _ (by omega)).trans a1
  have fx := fun (j : Nat) (hj : j < 220) => (f2 j (by omega)).trans (fx j hj)
  refine s_aload_n (n := 13) (i := 0) dX5_init_12 rfl rfl rfl ?_
  refine s_bipush (n := 15) (v := 8) dX5_init_13 rfl (by decide) ?_
  refine s_newa_int (N := 8) (n := 17) dX5_init_15 rfl rfl (by omega) (by omega) (by omega) ?_
  rw [z2]
  refine push_w z2 (fun h3 z3 a3 f3 => ?_)
  replace z3 : h3.1 = 223 := z3
  have o0 := (f3 _ (by omega)).trans o0
  have a1 := (f3 _ (by omega)).trans a1
  have fx := fun (j : Nat) (hj : j < 220) => (f3 j (by omega)).trans (fx j hj)
  refine pf_X5_13 (n := 20) (fs' := [_, _, _, _, _, _, _, _, _, _, _, _, _, _, _, _, _, _, _, _, _, _, _]) rfl rfl dX5_init_17 rfl o0 (by rfl) (by rfl) ?_
  refine up_w (fun h4 z4 o0 f4 => ?_)
  replace z4 := z4.trans z3
  have a1 := (f4 _ (by omega)).trans a1
  have a3 := (f4 _ (by omega)).trans a3
  have fx := fun (j : Nat) (hj : j < 220) => (f4 j (by omega)).trans (fx j hj)
  refine s_aload_n (n := 21) (i := 0) dX5_init_20 rfl rfl rfl ?_
  refine s_sipush (n := 24) (v := 320) dX5_init_21 rfl (by decide) ?_
  refine s_newa_int (N := 320) (n := 26) dX5_init_24 rfl rfl (by omega) (by omega) (by omega) ?_
  rw [z4]
  refine push_w z4 (fun h5 z5 a5 f5 => ?_)
  replace z5 : h5.1 = 224 := z5
  have o0 := (f5 _ (by omega)).trans o0
  have a1 := (f5 _ (by omega)).trans a1
  have a3 := (f5 _ (by omega)).trans a3
  have fx := fun (j : Nat) (hj : j < 220) => (f5 j (by omega)).trans (fx j hj)
  refine pf_X5_16 (n := 29) (fs' := [_, _, _, _, _, _, _, _, _, _, _, _, _, _, _, _, _, _, _, _, _, _, _]) rfl rfl dX5_init_26 rfl o0 (by rfl) (by rfl) ?_
  refine up_w (fun h6 z6 o0 f6 => ?_)
  replace z6 := z6.trans z5
  have a1 := (f6 _ (by omega)).trans a1
  have a3 := (f6 _ (by omega)).trans a3
  have a5 := (f6 _ (by omega)).trans a5
  have fx := fun (j : Nat) (hj : j < 220) => (f6 j (by omega)).trans (fx j hj)
  refine s_aload_n (n := 30) (i := 0) dX5_init_29 rfl rfl rfl ?_
  refine s_bipush (n := 32) (v := 48) dX5_init_30 rfl (by decide) ?_
  refine s_newa_int (N := 48) (n := 34) dX5_init_32 rfl rfl (by omega) (by omega) (by omega) ?_
  rw [z6]
  refine push_w z6 (fun h7 z7 a7 f7 => ?_)
  replace z7 : h7.1 = 225 := z7
  have o0 := (f7 _ (by omega)).trans o0
  have a1 := (f7 _ (by omega)).trans a1
  have a3 := (f7 _ (by omega)).trans a3
  have a5 := (f7 _ (by omega)).trans a5
  have fx := fun (j : Nat) (hj : j < 220) => (f7 j (by omega)).trans (fx j hj)
  refine pf_X5_19 (n := 37) (fs' := [_, _, _, _, _, _, _, _, _, _, _, _, _, _, _, _, _, _, _, _, _, _, _]) rfl rfl dX5_init_34 rfl o0 (by rfl) (by rfl) ?_
  refine up_w (fun h8 z8 o0 f8 => ?_)
  replace z8 := z8.trans z7
  have a1 := (f8 _ (by omega)).trans a1
  have a3 := (f8 _ (by omega)).trans a3
  have a5 := (f8 _ (by omega)).trans a5
  have a7 := (f8 _ (by omega)).trans a7
  have fx := fun (j : Nat) (hj : j < 220) => (f8 j (by omega)).trans (fx j hj)
  refine s_aload_n (n := 38) (i := 0) dX5_init_37 rfl rfl rfl ?_
  refine s_bipush (n := 40) (v := 40) dX5_init_38 rfl (by decide) ?_
  refine s_newa_int (N := 40) (n := 42) dX5_init_40 rfl rfl (by omega) (by omega) (by omega) ?_
  rw [z8]
  refine push_w z8 (fun h9 z9 a9 f9 => ?_)
  replace z9 : h9.1 = 226 := z9
  have o0 := (f9 _ (by omega)).trans o0
  have a1 := (f9 _ (by omega)).trans a1
  have a3 := (f9 _ (by omega)).trans a3
  have a5 := (f9 _ (by omega)).trans a5
  have a7 := (f9 _ (by omega)).trans a7
  have fx := fun (j : Nat) (hj : j < 220) => (f9 j (by omega)).trans (fx j hj)
  refine pf_X5_22 (n := 45) (fs' := [_, _, _, _, _, _, _, _, _, _, _, _, _, _, _, _, _, _, _, _, _, _, _]) rfl rfl dX5_init_42 rfl o0 (by rfl) (by rfl) ?_
  refine up_w (fun h10 z10 o0 f10 => ?_)
  replace z10 := z10.trans z9
  have a1 := (f10 _ (by omega)).trans a1
  have a3 := (f10 _ (by omega)).trans a3
  have a5 := (f10 _ (by omega)).trans a5
  have a7 := (f10 _ (by omega)).trans a7
  have a9 := (f10 _ (by omega)).trans a9
  have fx := fun (j : Nat) (hj : j < 220) => (f10 j (by omega)).trans (fx j hj)
  refine s_aload_n (n := 46) (i := 0) dX5_init_45 rfl rfl rfl ?_
  refine s_bipush (n := 48) (v := 120) dX5_init_46 rfl (by decide) ?_
  refine s_newa_int (N := 120) (n := 50) dX5_init_48 rfl rfl (by omega) (by omega) (by omega) ?_
  rw [z10]
  refine push_w z10 (fun h11 z11 a11 f11 => ?_)
  replace z11 : h11.1 = 227 := z11
  have o0 := (f11 _ (by omega)).trans o0
  have a1 := (f11 _ (by omega)).trans a1
  have a3 := (f11 _ (by omega)).trans a3
  have a5 := (f11 _ (by omega)).trans a5
  have a7 := (f11 _ (by omega)).trans a7
  have a9 := (f11 _ (by omega)).trans a9
  have fx := fun (j : Nat) (hj : j < 220) => (f11 j (by omega)).trans (fx j hj)
  refine pf_X5_25 (n := 53) (fs' := [_, _, _, _, _, _, _, _, _, _, _, _, _, _, _, _, _, _, _, _, _, _, _]) rfl rfl dX5_init_50 rfl o0 (by rfl) (by rfl) ?_
  refine up_w (fun h12 z12 o0 f12 => ?_)
  replace z12 := z12.trans z11
  have a1 := (f12 _ (by omega)).trans a1
  have a3 := (f12 _ (by omega)).trans a3
  have a5 := (f12 _ (by omega)).trans a5
  have a7 := (f12 _ (by omega)).trans a7
  have a9 := (f12 _ (by omega)).trans a9
  have a11 := (f12 _ (by omega)).trans a11
  have fx := fun (j : Nat) (hj : j < 220) => (f12 j (by omega)).trans (fx j hj)
  refine s_aload_n (n := 54) (i := 0) dX5_init_53 rfl rfl rfl ?_
  refine s_bipush (n := 56) (v := 48) dX5_init_54 rfl (by decide) ?_
  refine s_newa_int (N := 48) (n := 58) dX5_init_56 rfl rfl (by omega) (by omega) (by omega) ?_
  rw [z12]
  refine push_w z12 (fun h13 z13 a13 f13 => ?_)
  replace z13 : h13.1 = 228 := z13
  have o0 := (f13 _ (by omega)).trans o0
  have a1 := (f13 _ (by omega)).trans a1
  have a3 := (f13 _ (by omega)).trans a3
  have a5 := (f13 _ (by omega)).trans a5
  have a7 := (f13 _ (by omega)).trans a7
  have a9 := (f13 _ (by omega)).trans a9
  have a11 := (f13 _ (by omega)).trans a11
  have fx := fun (j : Nat) (hj : j < 220) => (f13 j (by omega)).trans (fx j hj)
  refine pf_X5_28 (n := 61) (fs' := [_, _, _, _, _, _, _, _, _, _, _, _, _, _, _, _, _, _, _, _, _, _, _]) rfl rfl dX5_init_58 rfl o0 (by rfl) (by rfl) ?_
  refine up_w (fun h14 z14 o0 f14 => ?_)
  replace z14 := z14.trans z13
  have a1 := (f14 _ (by omega)).trans a1
  have a3 := (f14 _ (by omega)).trans a3
  have a5 := (f14 _ (by omega)).trans a5
  have a7 := (f14 _ (by omega)).trans a7
  have a9 := (f14 _ (by omega)).trans a9
  have a11 := (f14 _ (by omega)).trans a11
  have a13 := (f14 _ (by omega)).trans a13
  have fx := fun (j : Nat) (hj : j < 220) => (f14 j (by omega)).trans (fx j hj)
  refine s_aload_n (n := 62) (i := 0) dX5_init_61 rfl rfl rfl ?_
  refine s_sipush (n := 65) (v := 1152) dX5_init_62 rfl (by decide) ?_
  refine s_newa_int (N := 1152) (n := 67) dX5_init_65 rfl rfl (by omega) (by omega) (by omega) ?_
  rw [z14]
  refine push_w z14 (fun h15 z15 a15 f15 => ?_)
  replace z15 : h15.1 = 229 := z15
  have o0 := (f15 _ (by omega)).trans o0
  have a1 := (f15 _ (by omega)).trans a1
  have a3 := (f15 _ (by omega)).trans a3
  have a5 := (f15 _ (by omega)).trans a5
  have a7 := (f15 _ (by omega)).trans a7
  have a9 := (f15 _ (by omega)).trans a9
  have a11 := (f15 _ (by omega)).trans a11
  have a13 := (f15 _ (by omega)).trans a13
  have fx := fun (j : Nat) (hj : j < 220) => (f15 j (by omega)).trans (fx j hj)
  refine pf_X5_31 (n := 70) (fs' := [_, _, _, _, _, _, _, _, _, _, _, _, _, _, _, _, _, _, _, _, _, _, _]) rfl rfl dX5_init_67 rfl o0 (by rfl) (by rfl) ?_
  refine up_w (fun h16 z16 o0 f16 => ?_)
  replace z16 := z16.trans z15
  have a1 := (f16 _ (by omega)).trans a1
  have a3 := (f16 _ (by omega)).trans a3
  have a5 := (f16 _ (by omega)).trans a5
  have a7 := (f16 _ (by omega)).trans a7
  have a9 := (f16 _ (by omega)).trans a9
  have a11 := (f16 _ (by omega)).trans a11
  have a13 := (f16 _ (by omega)).trans a13
  have a15 := (f16 _ (by omega)).trans a15
  have fx := fun (j : Nat) (hj : j < 220) => (f16 j (by omega)).trans (fx j hj)
  refine s_aload_n (n := 71) (i := 0) dX5_init_70 rfl rfl rfl ?_
  refine s_bipush (n := 73) (v := 48) dX5_init_71 rfl (by decide) ?_
  refine s_newa_int (N := 48) (n := 75) dX5_init_73 rfl rfl (by omega) (by omega) (by omega) ?_
  rw [z16]
  refine push_w z16 (fun h17 z17 a17 f17 => ?_)
  replace z17 : h17.1 = 230 := z17
  have o0 := (f17 _ (by omega)).trans o0
  have a1 := (f17 _ (by omega)).trans a1
  have a3 := (f17 _ (by omega)).trans a3
  have a5 := (f17 _ (by omega)).trans a5
  have a7 := (f17 _ (by omega)).trans a7
  have a9 := (f17 _ (by omega)).trans a9
  have a11 := (f17 _ (by omega)).trans a11
  have a13 := (f17 _ (by omega)).trans a13
  have a15 := (f17 _ (by omega)).trans a15
  have fx := fun (j : Nat) (hj : j < 220) => (f17 j (by omega)).trans (fx j hj)
  refine pf_X5_34 (n := 78) (fs' := [_, _, _, _, _, _, _, _, _, _, _, _, _, _, _, _, _, _, _, _, _, _, _]) rfl rfl dX5_init_75 rfl o0 (by rfl) (by rfl) ?_
  refine up_w (fun h18 z18 o0 f18 => ?_)
  replace z18 := z18.trans z17
  have a1 := (f18 _ (by omega)).trans a1
  have a3 := (f18 _ (by omega)).trans a3
  have a5 := (f18 _ (by omega)).trans a5
  have a7 := (f18 _ (by omega)).trans a7
  have a9 := (f18 _ (by omega)).trans a9
  have a11 := (f18 _ (by omega)).trans a11
  have a13 := (f18 _ (by omega)).trans a13
  have a15 := (f18 _ (by omega)).trans a15
  have a17 := (f18 _ (by omega)).trans a17
  have fx := fun (j : Nat) (hj : j < 220) => (f18 j (by omega)).trans (fx j hj)
  refine s_aload_n (n := 79) (i := 0) dX5_init_78 rfl rfl rfl ?_
  refine s_iconst (n := 80) (v := 2) dX5_init_79 rfl (by decide) ?_
  refine s_newa_boolean (N := 2) (n := 82) dX5_init_80 rfl rfl (by omega) (by omega) (by omega) ?_
  rw [z18]
  refine push_w z18 (fun h19 z19 a19 f19 => ?_)
  replace z19 : h19.1 = 231 := z19
  have o0 := (f19 _ (by omega)).trans o0
  have a1 := (f19 _ (by omega)).trans a1
  have a3 := (f19 _ (by omega)).trans a3
  have a5 := (f19 _ (by omega)).trans a5
  have a7 := (f19 _ (by omega)).trans a7
  have a9 := (f19 _ (by omega)).trans a9
  have a11 := (f19 _ (by omega)).trans a11
  have a13 := (f19 _ (by omega)).trans a13
  have a15 := (f19 _ (by omega)).trans a15
  have a17 := (f19 _ (by omega)).trans a17
  have fx := fun (j : Nat) (hj : j < 220) => (f19 j (by omega)).trans (fx j hj)
  refine pf_X5_37 (n := 85) (fs' := [_, _, _, _, _, _, _, _, _, _, _, _, _, _, _, _, _, _, _, _, _, _, _]) rfl rfl dX5_init_82 rfl o0 (by rfl) (by rfl) ?_
  refine up_w (fun h20 z20 o0 f20 => ?_)
  replace z20 := z20.trans z19
  have a1 := (f20 _ (by omega)).trans a1
  have a3 := (f20 _ (by omega)).trans a3
  have a5 := (f20 _ (by omega)).trans a5
  have a7 := (f20 _ (by omega)).trans a7
  have a9 := (f20 _ (by omega)).trans a9
  have a11 := (f20 _ (by omega)).trans a11
  have a13 := (f20 _ (by omega)).trans a13
  have a15 := (f20 _ (by omega)).trans a15
  have a17 := (f20 _ (by omega)).trans a17
  have a19 := (f20 _ (by omega)).trans a19
  have fx := fun (j : Nat) (hj : j < 220) => (f20 j (by omega)).trans (fx j hj)
  refine s_aload_n (n := 86) (i := 0) dX5_init_85 rfl rfl rfl ?_
  refine s_bipush (n := 88) (v := 96) dX5_init_86 rfl (by decide) ?_
  refine s_newa_int (N := 96) (n := 90) dX5_init_88 rfl rfl (by omega) (by omega) (by omega) ?_
  rw [z20]
  refine push_w z20 (fun h21 z21 a21 f21 => ?_)
  replace z21 : h21.1 = 232 := z21
  have o0 := (f21 _ (by omega)).trans o0
  have a1 := (f21 _ (by omega)).trans a1
  have a3 := (f21 _ (by omega)).trans a3
  have a5 := (f21 _ (by omega)).trans a5
  have a7 := (f21 _ (by omega)).trans a7
  have a9 := (f21 _ (by omega)).trans a9
  have a11 := (f21 _ (by omega)).trans a11
  have a13 := (f21 _ (by omega)).trans a13
  have a15 := (f21 _ (by omega)).trans a15
  have a17 := (f21 _ (by omega)).trans a17
  have a19 := (f21 _ (by omega)).trans a19
  have fx := fun (j : Nat) (hj : j < 220) => (f21 j (by omega)).trans (fx j hj)
  refine pf_X5_41 (n := 93) (fs' := [_, _, _, _, _, _, _, _, _, _, _, _, _, _, _, _, _, _, _, _, _, _, _]) rfl rfl dX5_init_90 rfl o0 (by rfl) (by rfl) ?_
  refine up_w (fun h22 z22 o0 f22 => ?_)
  replace z22 := z22.trans z21
  have a1 := (f22 _ (by omega)).trans a1
  have a3 := (f22 _ (by omega)).trans a3
  have a5 := (f22 _ (by omega)).trans a5
  have a7 := (f22 _ (by omega)).trans a7
  have a9 := (f22 _ (by omega)).trans a9
  have a11 := (f22 _ (by omega)).trans a11
  have a13 := (f22 _ (by omega)).trans a13
  have a15 := (f22 _ (by omega)).trans a15
  have a17 := (f22 _ (by omega)).trans a17
  have a19 := (f22 _ (by omega)).trans a19
  have a21 := (f22 _ (by omega)).trans a21
  have fx := fun (j : Nat) (hj : j < 220) => (f22 j (by omega)).trans (fx j hj)
  refine s_aload_n (n := 94) (i := 0) dX5_init_93 rfl rfl rfl ?_
  refine s_bipush (n := 96) (v := 16) dX5_init_94 rfl (by decide) ?_
  refine s_newa_int (N := 16) (n := 98) dX5_init_96 rfl rfl (by omega) (by omega) (by omega) ?_
  rw [z22]
  refine push_w z22 (fun h23 z23 a23 f23 => ?_)
  replace z23 : h23.1 = 233 := z23
  have o0 := (f23 _ (by omega)).trans o0
  have a1 := (f23 _ (by omega)).trans a1
  have a3 := (f23 _ (by omega)).trans a3
  have a5 := (f23 _ (by omega)).trans a5
  have a7 := (f23 _ (by omega)).trans a7
  have a9 := (f23 _ (by omega)).trans a9
  have a11 := (f23 _ (by omega)).trans a11
  have a13 := (f23 _ (by omega)).trans a13
  have a15 := (f23 _ (by omega)).trans a15
  have a17 := (f23 _ (by omega)).trans a17
  have a19 := (f23 _ (by omega)).trans a19
  have a21 := (f23 _ (by omega)).trans a21
  have fx := fun (j : Nat) (hj : j < 220) => (f23 j (by omega)).trans (fx j hj)
  refine pf_X5_44 (n := 101) (fs' := [_, _, _, _, _, _, _, _, _, _, _, _, _, _, _, _, _, _, _, _, _, _, _]) rfl rfl dX5_init_98 rfl o0 (by rfl) (by rfl) ?_
  refine up_w (fun h24 z24 o0 f24 => ?_)
  replace z24 := z24.trans z23
  have a1 := (f24 _ (by omega)).trans a1
  have a3 := (f24 _ (by omega)).trans a3
  have a5 := (f24 _ (by omega)).trans a5
  have a7 := (f24 _ (by omega)).trans a7
  have a9 := (f24 _ (by omega)).trans a9
  have a11 := (f24 _ (by omega)).trans a11
  have a13 := (f24 _ (by omega)).trans a13
  have a15 := (f24 _ (by omega)).trans a15
  have a17 := (f24 _ (by omega)).trans a17
  have a19 := (f24 _ (by omega)).trans a19
  have a21 := (f24 _ (by omega)).trans a21
  have a23 := (f24 _ (by omega)).trans a23
  have fx := fun (j : Nat) (hj : j < 220) => (f24 j (by omega)).trans (fx j hj)
  refine s_iconst (n := 102) (v := 0) dX5_init_101 rfl (by decide) ?_
  refine s_istore_n (n := 103) (i := 1) (ls' := [_, _]) dX5_init_102 rfl rfl rfl rfl rfl ?_
  replace o0 : h24.2 220 = YO G zf := o0
  refine wp_uc (uc := 12) (us := 1906) (by omega) (by omega) (l_sizes0 o0 (fun hA zA aA fA => ?_) 8 0 (by omega) h24 rfl (by rw [fillF_0]; exact a3) (fun _ _ => rfl))
  refine s_return dX5_init_122 rfl (by omega) (by omega) ?_
  exact ⟨rfl, zA.trans z24, ⟨(fA _ (by omega)).trans o0, (fA _ (by omega)).trans a1, aA, (fA _ (by omega)).trans a5, (fA _ (by omega)).trans a7, (fA _ (by omega)).trans a9, (fA _ (by omega)).trans a11, (fA _ (by omega)).trans a13, (fA _ (by omega)).trans a15, (fA _ (by omega)).trans a17, (fA _ (by omega)).trans a19, (fA _ (by omega)).trans a21, (fA _ (by omega)).trans a23⟩, fun j hj => (fA j (by omega)).trans (fx j hj)⟩
