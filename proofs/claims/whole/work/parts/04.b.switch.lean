theorem i_nev {x v : Int32} {z : Int} (hz : v.toInt = z) (h : ¬ x = v) : x.toInt ≠ z := fun q => h (Int32.toInt_inj.mp (q.trans hz.symm))
section MJS
variable {G : mj_G} {M : mj_M} {d kc ks : Nat} {ls : List (Option Value)} {st : List Value} {h : mj_H} {uc us : Nat} {Q : Option Value → mj_H → Prop} {x : Int32} {len : Nat}
theorem t_X1_put_4 (hd : decode M.2.1 4 = .ok (.lookupswitch 50 #[(0, 28), (1, 39)], len)) (k0 : x = 0 → mj_wp G M d kc ks 32 ls st h uc us Q) (k1 : x = 1 → mj_wp G M d kc ks 43 ls st h uc us Q) (kd : ¬ x = 0 → ¬ x = 1 → mj_wp G M d kc ks 54 ls st h uc us Q) : mj_wp G M d kc ks 4 ls (.int x :: st) h uc us Q := by
  by_cases h0 : x = 0
  · subst h0
    exact s_lookup (off := 28) (tgt := 32) hd (by decide) (by decide +kernel) rfl (k0 rfl)
  by_cases h1 : x = 1
  · subst h1
    exact s_lookup (off := 39) (tgt := 43) hd (by decide) (by decide +kernel) rfl (k1 rfl)
  have q0 := i_nev (z := 0) (by decide) h0
  have q1 := i_nev (z := 1) (by decide) h1
  refine s_lookup (off := 50) (tgt := 54) hd (by decide) ?_ rfl (kd h0 h1)
  simp [Op.lookupswitch.offset, q0, Ne.symm q0, q1, Ne.symm q1]
theorem t_X3_kindOfSort_1 (hd : decode M.2.1 1 = .ok (.tableswitch 73 104 115 #[65, 73, 73, 63, 73, 67, 71, 73, 73, 73, 73, 69], len)) (k104 : x = 104 → mj_wp G M d kc ks 66 ls st h uc us Q) (k107 : x = 107 → mj_wp G M d kc ks 64 ls st h uc us Q) (k109 : x = 109 → mj_wp G M d kc ks 68 ls st h uc us Q) (k110 : x = 110 → mj_wp G M d kc ks 72 ls st h uc us Q) (k115 : x = 115 → mj_wp G M d kc ks 70 ls st h uc us Q) (kd : ¬ x = 104 → ¬ x = 107 → ¬ x = 109 → ¬ x = 110 → ¬ x = 115 → mj_wp G M d kc ks 74 ls st h uc us Q) : mj_wp G M d kc ks 1 ls (.int x :: st) h uc us Q := by
  by_cases h104 : x = 104
  · subst h104
    exact s_tableIn (off := 65) (tgt := 66) hd (by decide) (by decide) (by decide +kernel) rfl (k104 rfl)
  by_cases h105 : x = 105
  · have kd2 := kd (by rw [h105]; decide) (by rw [h105]; decide) (by rw [h105]; decide) (by rw [h105]; decide) (by rw [h105]; decide)
    subst h105
    exact s_tableIn (off := 73) (tgt := 74) hd (by decide) (by decide) (by decide +kernel) rfl kd2
  by_cases h106 : x = 106
  · have kd2 := kd (by rw [h106]; decide) (by rw [h106]; decide) (by rw [h106]; decide) (by rw [h106]; decide) (by rw [h106]; decide)
    subst h106
    exact s_tableIn (off := 73) (tgt := 74) hd (by decide) (by decide) (by decide +kernel) rfl kd2
  by_cases h107 : x = 107
  · subst h107
    exact s_tableIn (off := 63) (tgt := 64) hd (by decide) (by decide) (by decide +kernel) rfl (k107 rfl)
  by_cases h108 : x = 108
  · have kd2 := kd (by rw [h108]; decide) (by rw [h108]; decide) (by rw [h108]; decide) (by rw [h108]; decide) (by rw [h108]; decide)
    subst h108
    exact s_tableIn (off := 73) (tgt := 74) hd (by decide) (by decide) (by decide +kernel) rfl kd2
  by_cases h109 : x = 109
  · subst h109
    exact s_tableIn (off := 67) (tgt := 68) hd (by decide) (by decide) (by decide +kernel) rfl (k109 rfl)
  by_cases h110 : x = 110
  · subst h110
    exact s_tableIn (off := 71) (tgt := 72) hd (by decide) (by decide) (by decide +kernel) rfl (k110 rfl)
  by_cases h111 : x = 111
  · have kd2 := kd (by rw [h111]; decide) (by rw [h111]; decide) (by rw [h111]; decide) (by rw [h111]; decide) (by rw [h111]; decide)
    subst h111
    exact s_tableIn (off := 73) (tgt := 74) hd (by decide) (by decide) (by decide +kernel) rfl kd2
  by_cases h112 : x = 112
  · have kd2 := kd (by rw [h112]; decide) (by rw [h112]; decide) (by rw [h112]; decide) (by rw [h112]; decide) (by rw [h112]; decide)
    subst h112
    exact s_tableIn (off := 73) (tgt := 74) hd (by decide) (by decide) (by decide +kernel) rfl kd2
  by_cases h113 : x = 113
  · have kd2 := kd (by rw [h113]; decide) (by rw [h113]; decide) (by rw [h113]; decide) (by rw [h113]; decide) (by rw [h113]; decide)
    subst h113
    exact s_tableIn (off := 73) (tgt := 74) hd (by decide) (by decide) (by decide +kernel) rfl kd2
  by_cases h114 : x = 114
  · have kd2 := kd (by rw [h114]; decide) (by rw [h114]; decide) (by rw [h114]; decide) (by rw [h114]; decide) (by rw [h114]; decide)
    subst h114
    exact s_tableIn (off := 73) (tgt := 74) hd (by decide) (by decide) (by decide +kernel) rfl kd2
  by_cases h115 : x = 115
  · subst h115
    exact s_tableIn (off := 69) (tgt := 70) hd (by decide) (by decide) (by decide +kernel) rfl (k115 rfl)
  have q104 := i_nev (z := 104) (by decide) h104
  have q105 := i_nev (z := 105) (by decide) h105
  have q106 := i_nev (z := 106) (by decide) h106
  have q107 := i_nev (z := 107) (by decide) h107
  have q108 := i_nev (z := 108) (by decide) h108
  have q109 := i_nev (z := 109) (by decide) h109
  have q110 := i_nev (z := 110) (by decide) h110
  have q111 := i_nev (z := 111) (by decide) h111
  have q112 := i_nev (z := 112) (by decide) h112
  have q113 := i_nev (z := 113) (by decide) h113
  have q114 := i_nev (z := 114) (by decide) h114
  have q115 := i_nev (z := 115) (by decide) h115
  exact s_tableOut (tgt := 74) hd (by omega) rfl (kd h104 h107 h109 h110 h115)
theorem t_X4_house_12 (hd : decode M.2.1 12 = .ok (.tableswitch 120 0 6 #[44, 54, 64, 74, 84, 94, 103], len)) (k0 : x = 0 → mj_wp G M d kc ks 56 ls st h uc us Q) (k1 : x = 1 → mj_wp G M d kc ks 66 ls st h uc us Q) (k2 : x = 2 → mj_wp G M d kc ks 76 ls st h uc us Q) (k3 : x = 3 → mj_wp G M d kc ks 86 ls st h uc us Q) (k4 : x = 4 → mj_wp G M d kc ks 96 ls st h uc us Q) (k5 : x = 5 → mj_wp G M d kc ks 106 ls st h uc us Q) (k6 : x = 6 → mj_wp G M d kc ks 115 ls st h uc us Q) (kd : ¬ x = 0 → ¬ x = 1 → ¬ x = 2 → ¬ x = 3 → ¬ x = 4 → ¬ x = 5 → ¬ x = 6 → mj_wp G M d kc ks 132 ls st h uc us Q) : mj_wp G M d kc ks 12 ls (.int x :: st) h uc us Q := by
  by_cases h0 : x = 0
  · subst h0
    exact s_tableIn (off := 44) (tgt := 56) hd (by decide) (by decide) (by decide +kernel) rfl (k0 rfl)
  by_cases h1 : x = 1
  · subst h1
    exact s_tableIn (off := 54) (tgt := 66) hd (by decide) (by decide) (by decide +kernel) rfl (k1 rfl)
  by_cases h2 : x = 2
  · subst h2
    exact s_tableIn (off := 64) (tgt := 76) hd (by decide) (by decide) (by decide +kernel) rfl (k2 rfl)
  by_cases h3 : x = 3
  · subst h3
    exact s_tableIn (off := 74) (tgt := 86) hd (by decide) (by decide) (by decide +kernel) rfl (k3 rfl)
  by_cases h4 : x = 4
  · subst h4
    exact s_tableIn (off := 84) (tgt := 96) hd (by decide) (by decide) (by decide +kernel) rfl (k4 rfl)
  by_cases h5 : x = 5
  · subst h5
    exact s_tableIn (off := 94) (tgt := 106) hd (by decide) (by decide) (by decide +kernel) rfl (k5 rfl)
  by_cases h6 : x = 6
  · subst h6
    exact s_tableIn (off := 103) (tgt := 115) hd (by decide) (by decide) (by decide +kernel) rfl (k6 rfl)
  have q0 := i_nev (z := 0) (by decide) h0
  have q1 := i_nev (z := 1) (by decide) h1
  have q2 := i_nev (z := 2) (by decide) h2
  have q3 := i_nev (z := 3) (by decide) h3
  have q4 := i_nev (z := 4) (by decide) h4
  have q5 := i_nev (z := 5) (by decide) h5
  have q6 := i_nev (z := 6) (by decide) h6
  exact s_tableOut (tgt := 132) hd (by omega) rfl (kd h0 h1 h2 h3 h4 h5 h6)
theorem t_X4_stand_14 (hd : decode M.2.1 14 = .ok (.tableswitch 82 0 4 #[34, 42, 58, 66, 74], len)) (k0 : x = 0 → mj_wp G M d kc ks 48 ls st h uc us Q) (k1 : x = 1 → mj_wp G M d kc ks 56 ls st h uc us Q) (k2 : x = 2 → mj_wp G M d kc ks 72 ls st h uc us Q) (k3 : x = 3 → mj_wp G M d kc ks 80 ls st h uc us Q) (k4 : x = 4 → mj_wp G M d kc ks 88 ls st h uc us Q) (kd : ¬ x = 0 → ¬ x = 1 → ¬ x = 2 → ¬ x = 3 → ¬ x = 4 → mj_wp G M d kc ks 96 ls st h uc us Q) : mj_wp G M d kc ks 14 ls (.int x :: st) h uc us Q := by
  by_cases h0 : x = 0
  · subst h0
    exact s_tableIn (off := 34) (tgt := 48) hd (by decide) (by decide) (by decide +kernel) rfl (k0 rfl)
  by_cases h1 : x = 1
  · subst h1
    exact s_tableIn (off := 42) (tgt := 56) hd (by decide) (by decide) (by decide +kernel) rfl (k1 rfl)
  by_cases h2 : x = 2
  · subst h2
    exact s_tableIn (off := 58) (tgt := 72) hd (by decide) (by decide) (by decide +kernel) rfl (k2 rfl)
  by_cases h3 : x = 3
  · subst h3
    exact s_tableIn (off := 66) (tgt := 80) hd (by decide) (by decide) (by decide +kernel) rfl (k3 rfl)
  by_cases h4 : x = 4
  · subst h4
    exact s_tableIn (off := 74) (tgt := 88) hd (by decide) (by decide) (by decide +kernel) rfl (k4 rfl)
  have q0 := i_nev (z := 0) (by decide) h0
  have q1 := i_nev (z := 1) (by decide) h1
  have q2 := i_nev (z := 2) (by decide) h2
  have q3 := i_nev (z := 3) (by decide) h3
  have q4 := i_nev (z := 4) (by decide) h4
  exact s_tableOut (tgt := 96) hd (by omega) rfl (kd h0 h1 h2 h3 h4)
theorem t_X4_count_1 (hd : decode M.2.1 1 = .ok (.tableswitch 108 0 7 #[47, 52, 60, 68, 76, 84, 92, 100], len)) (k0 : x = 0 → mj_wp G M d kc ks 48 ls st h uc us Q) (k1 : x = 1 → mj_wp G M d kc ks 53 ls st h uc us Q) (k2 : x = 2 → mj_wp G M d kc ks 61 ls st h uc us Q) (k3 : x = 3 → mj_wp G M d kc ks 69 ls st h uc us Q) (k4 : x = 4 → mj_wp G M d kc ks 77 ls st h uc us Q) (k5 : x = 5 → mj_wp G M d kc ks 85 ls st h uc us Q) (k6 : x = 6 → mj_wp G M d kc ks 93 ls st h uc us Q) (k7 : x = 7 → mj_wp G M d kc ks 101 ls st h uc us Q) (kd : ¬ x = 0 → ¬ x = 1 → ¬ x = 2 → ¬ x = 3 → ¬ x = 4 → ¬ x = 5 → ¬ x = 6 → ¬ x = 7 → mj_wp G M d kc ks 109 ls st h uc us Q) : mj_wp G M d kc ks 1 ls (.int x :: st) h uc us Q := by
  by_cases h0 : x = 0
  · subst h0
    exact s_tableIn (off := 47) (tgt := 48) hd (by decide) (by decide) (by decide +kernel) rfl (k0 rfl)
  by_cases h1 : x = 1
  · subst h1
    exact s_tableIn (off := 52) (tgt := 53) hd (by decide) (by decide) (by decide +kernel) rfl (k1 rfl)
  by_cases h2 : x = 2
  · subst h2
    exact s_tableIn (off := 60) (tgt := 61) hd (by decide) (by decide) (by decide +kernel) rfl (k2 rfl)
  by_cases h3 : x = 3
  · subst h3
    exact s_tableIn (off := 68) (tgt := 69) hd (by decide) (by decide) (by decide +kernel) rfl (k3 rfl)
  by_cases h4 : x = 4
  · subst h4
    exact s_tableIn (off := 76) (tgt := 77) hd (by decide) (by decide) (by decide +kernel) rfl (k4 rfl)
  by_cases h5 : x = 5
  · subst h5
    exact s_tableIn (off := 84) (tgt := 85) hd (by decide) (by decide) (by decide +kernel) rfl (k5 rfl)
  by_cases h6 : x = 6
  · subst h6
    exact s_tableIn (off := 92) (tgt := 93) hd (by decide) (by decide) (by decide +kernel) rfl (k6 rfl)
  by_cases h7 : x = 7
  · subst h7
    exact s_tableIn (off := 100) (tgt := 101) hd (by decide) (by decide) (by decide +kernel) rfl (k7 rfl)
  have q0 := i_nev (z := 0) (by decide) h0
  have q1 := i_nev (z := 1) (by decide) h1
  have q2 := i_nev (z := 2) (by decide) h2
  have q3 := i_nev (z := 3) (by decide) h3
  have q4 := i_nev (z := 4) (by decide) h4
  have q5 := i_nev (z := 5) (by decide) h5
  have q6 := i_nev (z := 6) (by decide) h6
  have q7 := i_nev (z := 7) (by decide) h7
  exact s_tableOut (tgt := 109) hd (by omega) rfl (kd h0 h1 h2 h3 h4 h5 h6 h7)
theorem t_X4_allThatFit_60 (hd : decode M.2.1 60 = .ok (.lookupswitch 56 #[(0, 28), (1, 42)], len)) (k0 : x = 0 → mj_wp G M d kc ks 88 ls st h uc us Q) (k1 : x = 1 → mj_wp G M d kc ks 102 ls st h uc us Q) (kd : ¬ x = 0 → ¬ x = 1 → mj_wp G M d kc ks 116 ls st h uc us Q) : mj_wp G M d kc ks 60 ls (.int x :: st) h uc us Q := by
  by_cases h0 : x = 0
  · subst h0
    exact s_lookup (off := 28) (tgt := 88) hd (by decide) (by decide +kernel) rfl (k0 rfl)
  by_cases h1 : x = 1
  · subst h1
    exact s_lookup (off := 42) (tgt := 102) hd (by decide) (by decide +kernel) rfl (k1 rfl)
  have q0 := i_nev (z := 0) (by decide) h0
  have q1 := i_nev (z := 1) (by decide) h1
  refine s_lookup (off := 56) (tgt := 116) hd (by decide) ?_ rfl (kd h0 h1)
  simp [Op.lookupswitch.offset, q0, Ne.symm q0, q1, Ne.symm q1]
theorem t_X4_shedBy_14 (hd : decode M.2.1 14 = .ok (.tableswitch 70 1 5 #[34, 37, 42, 56, 58], len)) (k1 : x = 1 → mj_wp G M d kc ks 48 ls st h uc us Q) (k2 : x = 2 → mj_wp G M d kc ks 51 ls st h uc us Q) (k3 : x = 3 → mj_wp G M d kc ks 56 ls st h uc us Q) (k4 : x = 4 → mj_wp G M d kc ks 70 ls st h uc us Q) (k5 : x = 5 → mj_wp G M d kc ks 72 ls st h uc us Q) (kd : ¬ x = 1 → ¬ x = 2 → ¬ x = 3 → ¬ x = 4 → ¬ x = 5 → mj_wp G M d kc ks 84 ls st h uc us Q) : mj_wp G M d kc ks 14 ls (.int x :: st) h uc us Q := by
  by_cases h1 : x = 1
  · subst h1
    exact s_tableIn (off := 34) (tgt := 48) hd (by decide) (by decide) (by decide +kernel) rfl (k1 rfl)
  by_cases h2 : x = 2
  · subst h2
    exact s_tableIn (off := 37) (tgt := 51) hd (by decide) (by decide) (by decide +kernel) rfl (k2 rfl)
  by_cases h3 : x = 3
  · subst h3
    exact s_tableIn (off := 42) (tgt := 56) hd (by decide) (by decide) (by decide +kernel) rfl (k3 rfl)
  by_cases h4 : x = 4
  · subst h4
    exact s_tableIn (off := 56) (tgt := 70) hd (by decide) (by decide) (by decide +kernel) rfl (k4 rfl)
  by_cases h5 : x = 5
  · subst h5
    exact s_tableIn (off := 58) (tgt := 72) hd (by decide) (by decide) (by decide +kernel) rfl (k5 rfl)
  have q1 := i_nev (z := 1) (by decide) h1
  have q2 := i_nev (z := 2) (by decide) h2
  have q3 := i_nev (z := 3) (by decide) h3
  have q4 := i_nev (z := 4) (by decide) h4
  have q5 := i_nev (z := 5) (by decide) h5
  exact s_tableOut (tgt := 84) hd (by omega) rfl (kd h1 h2 h3 h4 h5)
theorem t_X4_given_19 (hd : decode M.2.1 19 = .ok (.tableswitch 205 10 24 #[73, 83, 102, 113, 126, 205, 205, 205, 205, 205, 138, 140, 160, 174, 193], len)) (k10 : x = 10 → mj_wp G M d kc ks 92 ls st h uc us Q) (k11 : x = 11 → mj_wp G M d kc ks 102 ls st h uc us Q) (k12 : x = 12 → mj_wp G M d kc ks 121 ls st h uc us Q) (k13 : x = 13 → mj_wp G M d kc ks 132 ls st h uc us Q) (k14 : x = 14 → mj_wp G M d kc ks 145 ls st h uc us Q) (k20 : x = 20 → mj_wp G M d kc ks 157 ls st h uc us Q) (k21 : x = 21 → mj_wp G M d kc ks 159 ls st h uc us Q) (k22 : x = 22 → mj_wp G M d kc ks 179 ls st h uc us Q) (k23 : x = 23 → mj_wp G M d kc ks 193 ls st h uc us Q) (k24 : x = 24 → mj_wp G M d kc ks 212 ls st h uc us Q) (kd : ¬ x = 10 → ¬ x = 11 → ¬ x = 12 → ¬ x = 13 → ¬ x = 14 → ¬ x = 20 → ¬ x = 21 → ¬ x = 22 → ¬ x = 23 → ¬ x = 24 → mj_wp G M d kc ks 224 ls st h uc us Q) : mj_wp G M d kc ks 19 ls (.int x :: st) h uc us Q := by
  by_cases h10 : x = 10
  · subst h10
    exact s_tableIn (off := 73) (tgt := 92) hd (by decide) (by decide) (by decide +kernel) rfl (k10 rfl)
  by_cases h11 : x = 11
  · subst h11
    exact s_tableIn (off := 83) (tgt := 102) hd (by decide) (by decide) (by decide +kernel) rfl (k11 rfl)
  by_cases h12 : x = 12
  · subst h12
    exact s_tableIn (off := 102) (tgt := 121) hd (by decide) (by decide) (by decide +kernel) rfl (k12 rfl)
  by_cases h13 : x = 13
  · subst h13
    exact s_tableIn (off := 113) (tgt := 132) hd (by decide) (by decide) (by decide +kernel) rfl (k13 rfl)
  by_cases h14 : x = 14
  · subst h14
    exact s_tableIn (off := 126) (tgt := 145) hd (by decide) (by decide) (by decide +kernel) rfl (k14 rfl)
  by_cases h15 : x = 15
  · have kd2 := kd (by rw [h15]; decide) (by rw [h15]; decide) (by rw [h15]; decide) (by rw [h15]; decide) (by rw [h15]; decide) (by rw [h15]; decide) (by rw [h15]; decide) (by rw [h15]; decide) (by rw [h15]; decide) (by rw [h15]; decide)
    subst h15
    exact s_tableIn (off := 205) (tgt := 224) hd (by decide) (by decide) (by decide +kernel) rfl kd2
  by_cases h16 : x = 16
  · have kd2 := kd (by rw [h16]; decide) (by rw [h16]; decide) (by rw [h16]; decide) (by rw [h16]; decide) (by rw [h16]; decide) (by rw [h16]; decide) (by rw [h16]; decide) (by rw [h16]; decide) (by rw [h16]; decide) (by rw [h16]; decide)
    subst h16
    exact s_tableIn (off := 205) (tgt := 224) hd (by decide) (by decide) (by decide +kernel) rfl kd2
  by_cases h17 : x = 17
  · have kd2 := kd (by rw [h17]; decide) (by rw [h17]; decide) (by rw [h17]; decide) (by rw [h17]; decide) (by rw [h17]; decide) (by rw [h17]; decide) (by rw [h17]; decide) (by rw [h17]; decide) (by rw [h17]; decide) (by rw [h17]; decide)
    subst h17
    exact s_tableIn (off := 205) (tgt := 224) hd (by decide) (by decide) (by decide +kernel) rfl kd2
  by_cases h18 : x = 18
  · have kd2 := kd (by rw [h18]; decide) (by rw [h18]; decide) (by rw [h18]; decide) (by rw [h18]; decide) (by rw [h18]; decide) (by rw [h18]; decide) (by rw [h18]; decide) (by rw [h18]; decide) (by rw [h18]; decide) (by rw [h18]; decide)
    subst h18
    exact s_tableIn (off := 205) (tgt := 224) hd (by decide) (by decide) (by decide +kernel) rfl kd2
  by_cases h19 : x = 19
  · have kd2 := kd (by rw [h19]; decide) (by rw [h19]; decide) (by rw [h19]; decide) (by rw [h19]; decide) (by rw [h19]; decide) (by rw [h19]; decide) (by rw [h19]; decide) (by rw [h19]; decide) (by rw [h19]; decide) (by rw [h19]; decide)
    subst h19
    exact s_tableIn (off := 205) (tgt := 224) hd (by decide) (by decide) (by decide +kernel) rfl kd2
  by_cases h20 : x = 20
  · subst h20
    exact s_tableIn (off := 138) (tgt := 157) hd (by decide) (by decide) (by decide +kernel) rfl (k20 rfl)
  by_cases h21 : x = 21
  · subst h21
    exact s_tableIn (off := 140) (tgt := 159) hd (by decide) (by decide) (by decide +kernel) rfl (k21 rfl)
  by_cases h22 : x = 22
  · subst h22
    exact s_tableIn (off := 160) (tgt := 179) hd (by decide) (by decide) (by decide +kernel) rfl (k22 rfl)
  by_cases h23 : x = 23
  · subst h23
    exact s_tableIn (off := 174) (tgt := 193) hd (by decide) (by decide) (by decide +kernel) rfl (k23 rfl)
  by_cases h24 : x = 24
  · subst h24
    exact s_tableIn (off := 193) (tgt := 212) hd (by decide) (by decide) (by decide +kernel) rfl (k24 rfl)
  have q10 := i_nev (z := 10) (by decide) h10
  have q11 := i_nev (z := 11) (by decide) h11
  have q12 := i_nev (z := 12) (by decide) h12
  have q13 := i_nev (z := 13) (by decide) h13
  have q14 := i_nev (z := 14) (by decide) h14
  have q15 := i_nev (z := 15) (by decide) h15
  have q16 := i_nev (z := 16) (by decide) h16
  have q17 := i_nev (z := 17) (by decide) h17
  have q18 := i_nev (z := 18) (by decide) h18
  have q19 := i_nev (z := 19) (by decide) h19
  have q20 := i_nev (z := 20) (by decide) h20
  have q21 := i_nev (z := 21) (by decide) h21
  have q22 := i_nev (z := 22) (by decide) h22
  have q23 := i_nev (z := 23) (by decide) h23
  have q24 := i_nev (z := 24) (by decide) h24
  exact s_tableOut (tgt := 224) hd (by omega) rfl (kd h10 h11 h12 h13 h14 h20 h21 h22 h23 h24)
theorem t_X5_shedsOf_44 (hd : decode M.2.1 44 = .ok (.tableswitch 71 2 5 #[32, 38, 52, 54], len)) (k2 : x = 2 → mj_wp G M d kc ks 76 ls st h uc us Q) (k3 : x = 3 → mj_wp G M d kc ks 82 ls st h uc us Q) (k4 : x = 4 → mj_wp G M d kc ks 96 ls st h uc us Q) (k5 : x = 5 → mj_wp G M d kc ks 98 ls st h uc us Q) (kd : ¬ x = 2 → ¬ x = 3 → ¬ x = 4 → ¬ x = 5 → mj_wp G M d kc ks 115 ls st h uc us Q) : mj_wp G M d kc ks 44 ls (.int x :: st) h uc us Q := by
  by_cases h2 : x = 2
  · subst h2
    exact s_tableIn (off := 32) (tgt := 76) hd (by decide) (by decide) (by decide +kernel) rfl (k2 rfl)
  by_cases h3 : x = 3
  · subst h3
    exact s_tableIn (off := 38) (tgt := 82) hd (by decide) (by decide) (by decide +kernel) rfl (k3 rfl)
  by_cases h4 : x = 4
  · subst h4
    exact s_tableIn (off := 52) (tgt := 96) hd (by decide) (by decide) (by decide +kernel) rfl (k4 rfl)
  by_cases h5 : x = 5
  · subst h5
    exact s_tableIn (off := 54) (tgt := 98) hd (by decide) (by decide) (by decide +kernel) rfl (k5 rfl)
  have q2 := i_nev (z := 2) (by decide) h2
  have q3 := i_nev (z := 3) (by decide) h3
  have q4 := i_nev (z := 4) (by decide) h4
  have q5 := i_nev (z := 5) (by decide) h5
  exact s_tableOut (tgt := 115) hd (by omega) rfl (kd h2 h3 h4 h5)
theorem t_X5_house_12 (hd : decode M.2.1 12 = .ok (.tableswitch 119 0 6 #[44, 54, 64, 74, 84, 94, 100], len)) (k0 : x = 0 → mj_wp G M d kc ks 56 ls st h uc us Q) (k1 : x = 1 → mj_wp G M d kc ks 66 ls st h uc us Q) (k2 : x = 2 → mj_wp G M d kc ks 76 ls st h uc us Q) (k3 : x = 3 → mj_wp G M d kc ks 86 ls st h uc us Q) (k4 : x = 4 → mj_wp G M d kc ks 96 ls st h uc us Q) (k5 : x = 5 → mj_wp G M d kc ks 106 ls st h uc us Q) (k6 : x = 6 → mj_wp G M d kc ks 112 ls st h uc us Q) (kd : ¬ x = 0 → ¬ x = 1 → ¬ x = 2 → ¬ x = 3 → ¬ x = 4 → ¬ x = 5 → ¬ x = 6 → mj_wp G M d kc ks 131 ls st h uc us Q) : mj_wp G M d kc ks 12 ls (.int x :: st) h uc us Q := by
  by_cases h0 : x = 0
  · subst h0
    exact s_tableIn (off := 44) (tgt := 56) hd (by decide) (by decide) (by decide +kernel) rfl (k0 rfl)
  by_cases h1 : x = 1
  · subst h1
    exact s_tableIn (off := 54) (tgt := 66) hd (by decide) (by decide) (by decide +kernel) rfl (k1 rfl)
  by_cases h2 : x = 2
  · subst h2
    exact s_tableIn (off := 64) (tgt := 76) hd (by decide) (by decide) (by decide +kernel) rfl (k2 rfl)
  by_cases h3 : x = 3
  · subst h3
    exact s_tableIn (off := 74) (tgt := 86) hd (by decide) (by decide) (by decide +kernel) rfl (k3 rfl)
  by_cases h4 : x = 4
  · subst h4
    exact s_tableIn (off := 84) (tgt := 96) hd (by decide) (by decide) (by decide +kernel) rfl (k4 rfl)
  by_cases h5 : x = 5
  · subst h5
    exact s_tableIn (off := 94) (tgt := 106) hd (by decide) (by decide) (by decide +kernel) rfl (k5 rfl)
  by_cases h6 : x = 6
  · subst h6
    exact s_tableIn (off := 100) (tgt := 112) hd (by decide) (by decide) (by decide +kernel) rfl (k6 rfl)
  have q0 := i_nev (z := 0) (by decide) h0
  have q1 := i_nev (z := 1) (by decide) h1
  have q2 := i_nev (z := 2) (by decide) h2
  have q3 := i_nev (z := 3) (by decide) h3
  have q4 := i_nev (z := 4) (by decide) h4
  have q5 := i_nev (z := 5) (by decide) h5
  have q6 := i_nev (z := 6) (by decide) h6
  exact s_tableOut (tgt := 131) hd (by omega) rfl (kd h0 h1 h2 h3 h4 h5 h6)
theorem t_X5_stand_11 (hd : decode M.2.1 11 = .ok (.tableswitch 74 0 4 #[33, 40, 53, 60, 67], len)) (k0 : x = 0 → mj_wp G M d kc ks 44 ls st h uc us Q) (k1 : x = 1 → mj_wp G M d kc ks 51 ls st h uc us Q) (k2 : x = 2 → mj_wp G M d kc ks 64 ls st h uc us Q) (k3 : x = 3 → mj_wp G M d kc ks 71 ls st h uc us Q) (k4 : x = 4 → mj_wp G M d kc ks 78 ls st h uc us Q) (kd : ¬ x = 0 → ¬ x = 1 → ¬ x = 2 → ¬ x = 3 → ¬ x = 4 → mj_wp G M d kc ks 85 ls st h uc us Q) : mj_wp G M d kc ks 11 ls (.int x :: st) h uc us Q := by
  by_cases h0 : x = 0
  · subst h0
    exact s_tableIn (off := 33) (tgt := 44) hd (by decide) (by decide) (by decide +kernel) rfl (k0 rfl)
  by_cases h1 : x = 1
  · subst h1
    exact s_tableIn (off := 40) (tgt := 51) hd (by decide) (by decide) (by decide +kernel) rfl (k1 rfl)
  by_cases h2 : x = 2
  · subst h2
    exact s_tableIn (off := 53) (tgt := 64) hd (by decide) (by decide) (by decide +kernel) rfl (k2 rfl)
  by_cases h3 : x = 3
  · subst h3
    exact s_tableIn (off := 60) (tgt := 71) hd (by decide) (by decide) (by decide +kernel) rfl (k3 rfl)
  by_cases h4 : x = 4
  · subst h4
    exact s_tableIn (off := 67) (tgt := 78) hd (by decide) (by decide) (by decide +kernel) rfl (k4 rfl)
  have q0 := i_nev (z := 0) (by decide) h0
  have q1 := i_nev (z := 1) (by decide) h1
  have q2 := i_nev (z := 2) (by decide) h2
  have q3 := i_nev (z := 3) (by decide) h3
  have q4 := i_nev (z := 4) (by decide) h4
  exact s_tableOut (tgt := 85) hd (by omega) rfl (kd h0 h1 h2 h3 h4)
theorem t_X5_count_34 (hd : decode M.2.1 34 = .ok (.tableswitch 93 0 7 #[46, 48, 55, 62, 69, 76, 83, 88], len)) (k0 : x = 0 → mj_wp G M d kc ks 80 ls st h uc us Q) (k1 : x = 1 → mj_wp G M d kc ks 82 ls st h uc us Q) (k2 : x = 2 → mj_wp G M d kc ks 89 ls st h uc us Q) (k3 : x = 3 → mj_wp G M d kc ks 96 ls st h uc us Q) (k4 : x = 4 → mj_wp G M d kc ks 103 ls st h uc us Q) (k5 : x = 5 → mj_wp G M d kc ks 110 ls st h uc us Q) (k6 : x = 6 → mj_wp G M d kc ks 117 ls st h uc us Q) (k7 : x = 7 → mj_wp G M d kc ks 122 ls st h uc us Q) (kd : ¬ x = 0 → ¬ x = 1 → ¬ x = 2 → ¬ x = 3 → ¬ x = 4 → ¬ x = 5 → ¬ x = 6 → ¬ x = 7 → mj_wp G M d kc ks 127 ls st h uc us Q) : mj_wp G M d kc ks 34 ls (.int x :: st) h uc us Q := by
  by_cases h0 : x = 0
  · subst h0
    exact s_tableIn (off := 46) (tgt := 80) hd (by decide) (by decide) (by decide +kernel) rfl (k0 rfl)
  by_cases h1 : x = 1
  · subst h1
    exact s_tableIn (off := 48) (tgt := 82) hd (by decide) (by decide) (by decide +kernel) rfl (k1 rfl)
  by_cases h2 : x = 2
  · subst h2
    exact s_tableIn (off := 55) (tgt := 89) hd (by decide) (by decide) (by decide +kernel) rfl (k2 rfl)
  by_cases h3 : x = 3
  · subst h3
    exact s_tableIn (off := 62) (tgt := 96) hd (by decide) (by decide) (by decide +kernel) rfl (k3 rfl)
  by_cases h4 : x = 4
  · subst h4
    exact s_tableIn (off := 69) (tgt := 103) hd (by decide) (by decide) (by decide +kernel) rfl (k4 rfl)
  by_cases h5 : x = 5
  · subst h5
    exact s_tableIn (off := 76) (tgt := 110) hd (by decide) (by decide) (by decide +kernel) rfl (k5 rfl)
  by_cases h6 : x = 6
  · subst h6
    exact s_tableIn (off := 83) (tgt := 117) hd (by decide) (by decide) (by decide +kernel) rfl (k6 rfl)
  by_cases h7 : x = 7
  · subst h7
    exact s_tableIn (off := 88) (tgt := 122) hd (by decide) (by decide) (by decide +kernel) rfl (k7 rfl)
  have q0 := i_nev (z := 0) (by decide) h0
  have q1 := i_nev (z := 1) (by decide) h1
  have q2 := i_nev (z := 2) (by decide) h2
  have q3 := i_nev (z := 3) (by decide) h3
  have q4 := i_nev (z := 4) (by decide) h4
  have q5 := i_nev (z := 5) (by decide) h5
  have q6 := i_nev (z := 6) (by decide) h6
  have q7 := i_nev (z := 7) (by decide) h7
  exact s_tableOut (tgt := 127) hd (by omega) rfl (kd h0 h1 h2 h3 h4 h5 h6 h7)
theorem t_L_law_33 (hd : decode M.2.1 33 = .ok (.tableswitch 1371 0 38 #[171, 214, 257, 320, 343, 366, 379, 392, 405, 428, 461, 494, 527, 550, 583, 606, 639, 672, 685, 708, 751, 794, 827, 860, 893, 926, 939, 962, 1037, 1090, 1134, 1177, 1200, 1223, 1246, 1279, 1312, 1335, 1358], len)) (k0 : x = 0 → mj_wp G M d kc ks 204 ls st h uc us Q) (k1 : x = 1 → mj_wp G M d kc ks 247 ls st h uc us Q) (k2 : x = 2 → mj_wp G M d kc ks 290 ls st h uc us Q) (k3 : x = 3 → mj_wp G M d kc ks 353 ls st h uc us Q) (k4 : x = 4 → mj_wp G M d kc ks 376 ls st h uc us Q) (k5 : x = 5 → mj_wp G M d kc ks 399 ls st h uc us Q) (k6 : x = 6 → mj_wp G M d kc ks 412 ls st h uc us Q) (k7 : x = 7 → mj_wp G M d kc ks 425 ls st h uc us Q) (k8 : x = 8 → mj_wp G M d kc ks 438 ls st h uc us Q) (k9 : x = 9 → mj_wp G M d kc ks 461 ls st h uc us Q) (k10 : x = 10 → mj_wp G M d kc ks 494 ls st h uc us Q) (k11 : x = 11 → mj_wp G M d kc ks 527 ls st h uc us Q) (k12 : x = 12 → mj_wp G M d kc ks 560 ls st h uc us Q) (k13 : x = 13 → mj_wp G M d kc ks 583 ls st h uc us Q) (k14 : x = 14 → mj_wp G M d kc ks 616 ls st h uc us Q) (k15 : x = 15 → mj_wp G M d kc ks 639 ls st h uc us Q) (k16 : x = 16 → mj_wp G M d kc ks 672 ls st h uc us Q) (k17 : x = 17 → mj_wp G M d kc ks 705 ls st h uc us Q) (k18 : x = 18 → mj_wp G M d kc ks 718 ls st h uc us Q) (k19 : x = 19 → mj_wp G M d kc ks 741 ls st h uc us Q) (k20 : x = 20 → mj_wp G M d kc ks 784 ls st h uc us Q) (k21 : x = 21 → mj_wp G M d kc ks 827 ls st h uc us Q) (k22 : x = 22 → mj_wp G M d kc ks 860 ls st h uc us Q) (k23 : x = 23 → mj_wp G M d kc ks 893 ls st h uc us Q) (k24 : x = 24 → mj_wp G M d kc ks 926 ls st h uc us Q) (k25 : x = 25 → mj_wp G M d kc ks 959 ls st h uc us Q) (k26 : x = 26 → mj_wp G M d kc ks 972 ls st h uc us Q) (k27 : x = 27 → mj_wp G M d kc ks 995 ls st h uc us Q) (k28 : x = 28 → mj_wp G M d kc ks 1070 ls st h uc us Q) (k29 : x = 29 → mj_wp G M d kc ks 1123 ls st h uc us Q) (k30 : x = 30 → mj_wp G M d kc ks 1167 ls st h uc us Q) (k31 : x = 31 → mj_wp G M d kc ks 1210 ls st h uc us Q) (k32 : x = 32 → mj_wp G M d kc ks 1233 ls st h uc us Q) (k33 : x = 33 → mj_wp G M d kc ks 1256 ls st h uc us Q) (k34 : x = 34 → mj_wp G M d kc ks 1279 ls st h uc us Q) (k35 : x = 35 → mj_wp G M d kc ks 1312 ls st h uc us Q) (k36 : x = 36 → mj_wp G M d kc ks 1345 ls st h uc us Q) (k37 : x = 37 → mj_wp G M d kc ks 1368 ls st h uc us Q) (k38 : x = 38 → mj_wp G M d kc ks 1391 ls st h uc us Q) (kd : ¬ x = 0 → ¬ x = 1 → ¬ x = 2 → ¬ x = 3 → ¬ x = 4 → ¬ x = 5 → ¬ x = 6 → ¬ x = 7 → ¬ x = 8 → ¬ x = 9 → ¬ x = 10 → ¬ x = 11 → ¬ x = 12 → ¬ x = 13 → ¬ x = 14 → ¬ x = 15 → ¬ x = 16 → ¬ x = 17 → ¬ x = 18 → ¬ x = 19 → ¬ x = 20 → ¬ x = 21 → ¬ x = 22 → ¬ x = 23 → ¬ x = 24 → ¬ x = 25 → ¬ x = 26 → ¬ x = 27 → ¬ x = 28 → ¬ x = 29 → ¬ x = 30 → ¬ x = 31 → ¬ x = 32 → ¬ x = 33 → ¬ x = 34 → ¬ x = 35 → ¬ x = 36 → ¬ x = 37 → ¬ x = 38 → mj_wp G M d kc ks 1404 ls st h uc us Q) : mj_wp G M d kc ks 33 ls (.int x :: st) h uc us Q := by
  by_cases h0 : x = 0
  · subst h0
    exact s_tableIn (off := 171) (tgt := 204) hd (by decide) (by decide) (by decide +kernel) rfl (k0 rfl)
  by_cases h1 : x = 1
  · subst h1
    exact s_tableIn (off := 214) (tgt := 247) hd (by decide) (by decide) (by decide +kernel) rfl (k1 rfl)
  by_cases h2 : x = 2
  · subst h2
    exact s_tableIn (off := 257) (tgt := 290) hd (by decide) (by decide) (by decide +kernel) rfl (k2 rfl)
  by_cases h3 : x = 3
  · subst h3
    exact s_tableIn (off := 320) (tgt := 353) hd (by decide) (by decide) (by decide +kernel) rfl (k3 rfl)
  by_cases h4 : x = 4
  · subst h4
    exact s_tableIn (off := 343) (tgt := 376) hd (by decide) (by decide) (by decide +kernel) rfl (k4 rfl)
  by_cases h5 : x = 5
  · subst h5
    exact s_tableIn (off := 366) (tgt := 399) hd (by decide) (by decide) (by decide +kernel) rfl (k5 rfl)
  by_cases h6 : x = 6
  · subst h6
    exact s_tableIn (off := 379) (tgt := 412) hd (by decide) (by decide) (by decide +kernel) rfl (k6 rfl)
  by_cases h7 : x = 7
  · subst h7
    exact s_tableIn (off := 392) (tgt := 425) hd (by decide) (by decide) (by decide +kernel) rfl (k7 rfl)
  by_cases h8 : x = 8
  · subst h8
    exact s_tableIn (off := 405) (tgt := 438) hd (by decide) (by decide) (by decide +kernel) rfl (k8 rfl)
  by_cases h9 : x = 9
  · subst h9
    exact s_tableIn (off := 428) (tgt := 461) hd (by decide) (by decide) (by decide +kernel) rfl (k9 rfl)
  by_cases h10 : x = 10
  · subst h10
    exact s_tableIn (off := 461) (tgt := 494) hd (by decide) (by decide) (by decide +kernel) rfl (k10 rfl)
  by_cases h11 : x = 11
  · subst h11
    exact s_tableIn (off := 494) (tgt := 527) hd (by decide) (by decide) (by decide +kernel) rfl (k11 rfl)
  by_cases h12 : x = 12
  · subst h12
    exact s_tableIn (off := 527) (tgt := 560) hd (by decide) (by decide) (by decide +kernel) rfl (k12 rfl)
  by_cases h13 : x = 13
  · subst h13
    exact s_tableIn (off := 550) (tgt := 583) hd (by decide) (by decide) (by decide +kernel) rfl (k13 rfl)
  by_cases h14 : x = 14
  · subst h14
    exact s_tableIn (off := 583) (tgt := 616) hd (by decide) (by decide) (by decide +kernel) rfl (k14 rfl)
  by_cases h15 : x = 15
  · subst h15
    exact s_tableIn (off := 606) (tgt := 639) hd (by decide) (by decide) (by decide +kernel) rfl (k15 rfl)
  by_cases h16 : x = 16
  · subst h16
    exact s_tableIn (off := 639) (tgt := 672) hd (by decide) (by decide) (by decide +kernel) rfl (k16 rfl)
  by_cases h17 : x = 17
  · subst h17
    exact s_tableIn (off := 672) (tgt := 705) hd (by decide) (by decide) (by decide +kernel) rfl (k17 rfl)
  by_cases h18 : x = 18
  · subst h18
    exact s_tableIn (off := 685) (tgt := 718) hd (by decide) (by decide) (by decide +kernel) rfl (k18 rfl)
  by_cases h19 : x = 19
  · subst h19
    exact s_tableIn (off := 708) (tgt := 741) hd (by decide) (by decide) (by decide +kernel) rfl (k19 rfl)
  by_cases h20 : x = 20
  · subst h20
    exact s_tableIn (off := 751) (tgt := 784) hd (by decide) (by decide) (by decide +kernel) rfl (k20 rfl)
  by_cases h21 : x = 21
  · subst h21
    exact s_tableIn (off := 794) (tgt := 827) hd (by decide) (by decide) (by decide +kernel) rfl (k21 rfl)
  by_cases h22 : x = 22
  · subst h22
    exact s_tableIn (off := 827) (tgt := 860) hd (by decide) (by decide) (by decide +kernel) rfl (k22 rfl)
  by_cases h23 : x = 23
  · subst h23
    exact s_tableIn (off := 860) (tgt := 893) hd (by decide) (by decide) (by decide +kernel) rfl (k23 rfl)
  by_cases h24 : x = 24
  · subst h24
    exact s_tableIn (off := 893) (tgt := 926) hd (by decide) (by decide) (by decide +kernel) rfl (k24 rfl)
  by_cases h25 : x = 25
  · subst h25
    exact s_tableIn (off := 926) (tgt := 959) hd (by decide) (by decide) (by decide +kernel) rfl (k25 rfl)
  by_cases h26 : x = 26
  · subst h26
    exact s_tableIn (off := 939) (tgt := 972) hd (by decide) (by decide) (by decide +kernel) rfl (k26 rfl)
  by_cases h27 : x = 27
  · subst h27
    exact s_tableIn (off := 962) (tgt := 995) hd (by decide) (by decide) (by decide +kernel) rfl (k27 rfl)
  by_cases h28 : x = 28
  · subst h28
    exact s_tableIn (off := 1037) (tgt := 1070) hd (by decide) (by decide) (by decide +kernel) rfl (k28 rfl)
  by_cases h29 : x = 29
  · subst h29
    exact s_tableIn (off := 1090) (tgt := 1123) hd (by decide) (by decide) (by decide +kernel) rfl (k29 rfl)
  by_cases h30 : x = 30
  · subst h30
    exact s_tableIn (off := 1134) (tgt := 1167) hd (by decide) (by decide) (by decide +kernel) rfl (k30 rfl)
  by_cases h31 : x = 31
  · subst h31
    exact s_tableIn (off := 1177) (tgt := 1210) hd (by decide) (by decide) (by decide +kernel) rfl (k31 rfl)
  by_cases h32 : x = 32
  · subst h32
    exact s_tableIn (off := 1200) (tgt := 1233) hd (by decide) (by decide) (by decide +kernel) rfl (k32 rfl)
  by_cases h33 : x = 33
  · subst h33
    exact s_tableIn (off := 1223) (tgt := 1256) hd (by decide) (by decide) (by decide +kernel) rfl (k33 rfl)
  by_cases h34 : x = 34
  · subst h34
    exact s_tableIn (off := 1246) (tgt := 1279) hd (by decide) (by decide) (by decide +kernel) rfl (k34 rfl)
  by_cases h35 : x = 35
  · subst h35
    exact s_tableIn (off := 1279) (tgt := 1312) hd (by decide) (by decide) (by decide +kernel) rfl (k35 rfl)
  by_cases h36 : x = 36
  · subst h36
    exact s_tableIn (off := 1312) (tgt := 1345) hd (by decide) (by decide) (by decide +kernel) rfl (k36 rfl)
  by_cases h37 : x = 37
  · subst h37
    exact s_tableIn (off := 1335) (tgt := 1368) hd (by decide) (by decide) (by decide +kernel) rfl (k37 rfl)
  by_cases h38 : x = 38
  · subst h38
    exact s_tableIn (off := 1358) (tgt := 1391) hd (by decide) (by decide) (by decide +kernel) rfl (k38 rfl)
  have q0 := i_nev (z := 0) (by decide) h0
  have q1 := i_nev (z := 1) (by decide) h1
  have q2 := i_nev (z := 2) (by decide) h2
  have q3 := i_nev (z := 3) (by decide) h3
  have q4 := i_nev (z := 4) (by decide) h4
  have q5 := i_nev (z := 5) (by decide) h5
  have q6 := i_nev (z := 6) (by decide) h6
  have q7 := i_nev (z := 7) (by decide) h7
  have q8 := i_nev (z := 8) (by decide) h8
  have q9 := i_nev (z := 9) (by decide) h9
  have q10 := i_nev (z := 10) (by decide) h10
  have q11 := i_nev (z := 11) (by decide) h11
  have q12 := i_nev (z := 12) (by decide) h12
  have q13 := i_nev (z := 13) (by decide) h13
  have q14 := i_nev (z := 14) (by decide) h14
  have q15 := i_nev (z := 15) (by decide) h15
  have q16 := i_nev (z := 16) (by decide) h16
  have q17 := i_nev (z := 17) (by decide) h17
  have q18 := i_nev (z := 18) (by decide) h18
  have q19 := i_nev (z := 19) (by decide) h19
  have q20 := i_nev (z := 20) (by decide) h20
  have q21 := i_nev (z := 21) (by decide) h21
  have q22 := i_nev (z := 22) (by decide) h22
  have q23 := i_nev (z := 23) (by decide) h23
  have q24 := i_nev (z := 24) (by decide) h24
  have q25 := i_nev (z := 25) (by decide) h25
  have q26 := i_nev (z := 26) (by decide) h26
  have q27 := i_nev (z := 27) (by decide) h27
  have q28 := i_nev (z := 28) (by decide) h28
  have q29 := i_nev (z := 29) (by decide) h29
  have q30 := i_nev (z := 30) (by decide) h30
  have q31 := i_nev (z := 31) (by decide) h31
  have q32 := i_nev (z := 32) (by decide) h32
  have q33 := i_nev (z := 33) (by decide) h33
  have q34 := i_nev (z := 34) (by decide) h34
  have q35 := i_nev (z := 35) (by decide) h35
  have q36 := i_nev (z := 36) (by decide) h36
  have q37 := i_nev (z := 37) (by decide) h37
  have q38 := i_nev (z := 38) (by decide) h38
  exact s_tableOut (tgt := 1404) hd (by omega) rfl (kd h0 h1 h2 h3 h4 h5 h6 h7 h8 h9 h10 h11 h12 h13 h14 h15 h16 h17 h18 h19 h20 h21 h22 h23 h24 h25 h26 h27 h28 h29 h30 h31 h32 h33 h34 h35 h36 h37 h38)
end MJS
