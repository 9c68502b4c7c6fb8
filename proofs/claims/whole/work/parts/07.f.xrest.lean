set_option maxRecDepth 100000 in
set_option maxHeartbeats 4000000 in
theorem c_such_1_0 {G : mj_G} {h : mj_H} {d : Nat} : mj_con G MX4_isSuch d 0 0 [.int 1, .int 0] h (rI 1 h) := by
  refine mj_conS okX4_isSuch (ls := [some (.int 1), some (.int 0), none, none]) rfl rfl ?_
  refine s_iload_n (n := 1) (i := 0) dX4_isSuch_0 rfl rfl rfl ?_
  refine s_istore_n (n := 2) (i := 2) (ls' := [_, _, _, _]) dX4_isSuch_1 rfl rfl rfl rfl rfl ?_
  refine s_iconst (n := 3) (v := 0) dX4_isSuch_2 rfl (by decide) ?_
  refine s_istore_n (n := 4) (i := 3) (ls' := [_, _, _, _]) dX4_isSuch_3 rfl rfl rfl rfl rfl ?_
  refine s_iload_n (n := 5) (i := 3) dX4_isSuch_4 rfl rfl rfl ?_
  refine s_bipush (n := 7) (v := 6) dX4_isSuch_5 rfl (by decide) ?_
  refine s_icmp_ge (n := 10) (tgt := 32) dX4_isSuch_7 rfl rfl (fun b7 => ?_) (fun b7 => ?_)
  · exact absurd b7 (by decide)
  · refine s_iload_n (n := 11) (i := 2) dX4_isSuch_10 rfl rfl rfl ?_
    refine s_iconst (n := 12) (v := (-1)) dX4_isSuch_11 rfl (by decide) ?_
    refine s_icmp_eq (n := 15) (tgt := 32) dX4_isSuch_12 rfl rfl (fun b12 => ?_) (fun b12 => ?_)
    · exact absurd b12 (by decide)
    · refine s_iload_n (n := 16) (i := 2) dX4_isSuch_15 rfl rfl rfl ?_
      refine s_iload_n (n := 17) (i := 1) dX4_isSuch_16 rfl rfl rfl ?_
      refine s_icmp_eq (n := 20) (tgt := 32) dX4_isSuch_17 rfl rfl (fun b17 => ?_) (fun b17 => ?_)
      · exact absurd b17 (by decide)
      · refine s_gets1 (n := 23) dX4_isSuch_20 rfl wd_X4_286 ?_
        refine s_iload_n (n := 24) (i := 2) dX4_isSuch_23 rfl rfl rfl ?_
        refine s_tald (t := 1) (by omega) (by omega) (n := 25) dX4_isSuch_24 rfl (mj_ixe (j := 1) (by decide) (by omega)) ?_
        refine s_istore_n (n := 26) (i := 2) (ls' := [_, _, _, _]) dX4_isSuch_25 rfl rfl rfl rfl rfl ?_
        refine s_iinc (n := 29) (v := _ + 1) (ls' := [_, _, _, _]) dX4_isSuch_26 rfl rfl rfl rfl rfl ?_
        refine s_goto (tgt := 4) dX4_isSuch_29 rfl ?_
        refine s_iload_n (n := 5) (i := 3) dX4_isSuch_4 rfl rfl rfl ?_
        refine s_bipush (n := 7) (v := 6) dX4_isSuch_5 rfl (by decide) ?_
        refine s_icmp_ge (n := 10) (tgt := 32) dX4_isSuch_7 rfl rfl (fun b7 => ?_) (fun b7 => ?_)
        · exact absurd b7 (by decide)
        · refine s_iload_n (n := 11) (i := 2) dX4_isSuch_10 rfl rfl rfl ?_
          refine s_iconst (n := 12) (v := (-1)) dX4_isSuch_11 rfl (by decide) ?_
          refine s_icmp_eq (n := 15) (tgt := 32) dX4_isSuch_12 rfl rfl (fun b12 => ?_) (fun b12 => ?_)
          · exact absurd b12 (by decide)
          · refine s_iload_n (n := 16) (i := 2) dX4_isSuch_15 rfl rfl rfl ?_
            refine s_iload_n (n := 17) (i := 1) dX4_isSuch_16 rfl rfl rfl ?_
            refine s_icmp_eq (n := 20) (tgt := 32) dX4_isSuch_17 rfl rfl (fun b17 => ?_) (fun b17 => ?_)
            · refine s_iload_n (n := 33) (i := 2) dX4_isSuch_32 rfl rfl rfl ?_
              refine s_iload_n (n := 34) (i := 1) dX4_isSuch_33 rfl rfl rfl ?_
              refine s_icmp_ne (n := 37) (tgt := 41) dX4_isSuch_34 rfl rfl (fun b34 => ?_) (fun b34 => ?_)
              · exact absurd b34 (by decide)
              · refine s_iconst (n := 38) (v := 1) dX4_isSuch_37 rfl (by decide) ?_
                refine s_goto (tgt := 42) dX4_isSuch_38 rfl ?_
                refine s_ireturn dX4_isSuch_42 rfl (rfl) (Nat.le_refl _) (Nat.le_refl _) ?_
                exact ⟨rfl, rfl⟩
            · exact absurd b17 (by decide)
set_option maxRecDepth 100000 in
set_option maxHeartbeats 4000000 in
theorem c_such_1_1 {G : mj_G} {h : mj_H} {d : Nat} : mj_con G MX4_isSuch d 0 0 [.int 1, .int 1] h (rI 1 h) := by
  refine mj_conS okX4_isSuch (ls := [some (.int 1), some (.int 1), none, none]) rfl rfl ?_
  refine s_iload_n (n := 1) (i := 0) dX4_isSuch_0 rfl rfl rfl ?_
  refine s_istore_n (n := 2) (i := 2) (ls' := [_, _, _, _]) dX4_isSuch_1 rfl rfl rfl rfl rfl ?_
  refine s_iconst (n := 3) (v := 0) dX4_isSuch_2 rfl (by decide) ?_
  refine s_istore_n (n := 4) (i := 3) (ls' := [_, _, _, _]) dX4_isSuch_3 rfl rfl rfl rfl rfl ?_
  refine s_iload_n (n := 5) (i := 3) dX4_isSuch_4 rfl rfl rfl ?_
  refine s_bipush (n := 7) (v := 6) dX4_isSuch_5 rfl (by decide) ?_
  refine s_icmp_ge (n := 10) (tgt := 32) dX4_isSuch_7 rfl rfl (fun b7 => ?_) (fun b7 => ?_)
  · exact absurd b7 (by decide)
  · refine s_iload_n (n := 11) (i := 2) dX4_isSuch_10 rfl rfl rfl ?_
    refine s_iconst (n := 12) (v := (-1)) dX4_isSuch_11 rfl (by decide) ?_
    refine s_icmp_eq (n := 15) (tgt := 32) dX4_isSuch_12 rfl rfl (fun b12 => ?_) (fun b12 => ?_)
    · exact absurd b12 (by decide)
    · refine s_iload_n (n := 16) (i := 2) dX4_isSuch_15 rfl rfl rfl ?_
      refine s_iload_n (n := 17) (i := 1) dX4_isSuch_16 rfl rfl rfl ?_
      refine s_icmp_eq (n := 20) (tgt := 32) dX4_isSuch_17 rfl rfl (fun b17 => ?_) (fun b17 => ?_)
      · refine s_iload_n (n := 33) (i := 2) dX4_isSuch_32 rfl rfl rfl ?_
        refine s_iload_n (n := 34) (i := 1) dX4_isSuch_33 rfl rfl rfl ?_
        refine s_icmp_ne (n := 37) (tgt := 41) dX4_isSuch_34 rfl rfl (fun b34 => ?_) (fun b34 => ?_)
        · exact absurd b34 (by decide)
        · refine s_iconst (n := 38) (v := 1) dX4_isSuch_37 rfl (by decide) ?_
          refine s_goto (tgt := 42) dX4_isSuch_38 rfl ?_
          refine s_ireturn dX4_isSuch_42 rfl (rfl) (Nat.le_refl _) (Nat.le_refl _) ?_
          exact ⟨rfl, rfl⟩
      · exact absurd b17 (by decide)
set_option maxRecDepth 100000 in
set_option maxHeartbeats 4000000 in
theorem c_such_1_2 {G : mj_G} {h : mj_H} {d : Nat} : mj_con G MX4_isSuch d 0 0 [.int 1, .int 2] h (rI 0 h) := by
  refine mj_conS okX4_isSuch (ls := [some (.int 1), some (.int 2), none, none]) rfl rfl ?_
  refine s_iload_n (n := 1) (i := 0) dX4_isSuch_0 rfl rfl rfl ?_
  refine s_istore_n (n := 2) (i := 2) (ls' := [_, _, _, _]) dX4_isSuch_1 rfl rfl rfl rfl rfl ?_
  refine s_iconst (n := 3) (v := 0) dX4_isSuch_2 rfl (by decide) ?_
  refine s_istore_n (n := 4) (i := 3) (ls' := [_, _, _, _]) dX4_isSuch_3 rfl rfl rfl rfl rfl ?_
  refine s_iload_n (n := 5) (i := 3) dX4_isSuch_4 rfl rfl rfl ?_
  refine s_bipush (n := 7) (v := 6) dX4_isSuch_5 rfl (by decide) ?_
  refine s_icmp_ge (n := 10) (tgt := 32) dX4_isSuch_7 rfl rfl (fun b7 => ?_) (fun b7 => ?_)
  · exact absurd b7 (by decide)
  · refine s_iload_n (n := 11) (i := 2) dX4_isSuch_10 rfl rfl rfl ?_
    refine s_iconst (n := 12) (v := (-1)) dX4_isSuch_11 rfl (by decide) ?_
    refine s_icmp_eq (n := 15) (tgt := 32) dX4_isSuch_12 rfl rfl (fun b12 => ?_) (fun b12 => ?_)
    · exact absurd b12 (by decide)
    · refine s_iload_n (n := 16) (i := 2) dX4_isSuch_15 rfl rfl rfl ?_
      refine s_iload_n (n := 17) (i := 1) dX4_isSuch_16 rfl rfl rfl ?_
      refine s_icmp_eq (n := 20) (tgt := 32) dX4_isSuch_17 rfl rfl (fun b17 => ?_) (fun b17 => ?_)
      · exact absurd b17 (by decide)
      · refine s_gets1 (n := 23) dX4_isSuch_20 rfl wd_X4_286 ?_
        refine s_iload_n (n := 24) (i := 2) dX4_isSuch_23 rfl rfl rfl ?_
        refine s_tald (t := 1) (by omega) (by omega) (n := 25) dX4_isSuch_24 rfl (mj_ixe (j := 1) (by decide) (by omega)) ?_
        refine s_istore_n (n := 26) (i := 2) (ls' := [_, _, _, _]) dX4_isSuch_25 rfl rfl rfl rfl rfl ?_
        refine s_iinc (n := 29) (v := _ + 1) (ls' := [_, _, _, _]) dX4_isSuch_26 rfl rfl rfl rfl rfl ?_
        refine s_goto (tgt := 4) dX4_isSuch_29 rfl ?_
        refine s_iload_n (n := 5) (i := 3) dX4_isSuch_4 rfl rfl rfl ?_
        refine s_bipush (n := 7) (v := 6) dX4_isSuch_5 rfl (by decide) ?_
        refine s_icmp_ge (n := 10) (tgt := 32) dX4_isSuch_7 rfl rfl (fun b7 => ?_) (fun b7 => ?_)
        · exact absurd b7 (by decide)
        · refine s_iload_n (n := 11) (i := 2) dX4_isSuch_10 rfl rfl rfl ?_
          refine s_iconst (n := 12) (v := (-1)) dX4_isSuch_11 rfl (by decide) ?_
          refine s_icmp_eq (n := 15) (tgt := 32) dX4_isSuch_12 rfl rfl (fun b12 => ?_) (fun b12 => ?_)
          · exact absurd b12 (by decide)
          · refine s_iload_n (n := 16) (i := 2) dX4_isSuch_15 rfl rfl rfl ?_
            refine s_iload_n (n := 17) (i := 1) dX4_isSuch_16 rfl rfl rfl ?_
            refine s_icmp_eq (n := 20) (tgt := 32) dX4_isSuch_17 rfl rfl (fun b17 => ?_) (fun b17 => ?_)
            · exact absurd b17 (by decide)
            · refine s_gets1 (n := 23) dX4_isSuch_20 rfl wd_X4_286 ?_
              refine s_iload_n (n := 24) (i := 2) dX4_isSuch_23 rfl rfl rfl ?_
              refine s_tald (t := 1) (by omega) (by omega) (n := 25) dX4_isSuch_24 rfl (mj_ixe (j := 0) (by decide) (by omega)) ?_
              refine s_istore_n (n := 26) (i := 2) (ls' := [_, _, _, _]) dX4_isSuch_25 rfl rfl rfl rfl rfl ?_
              refine s_iinc (n := 29) (v := _ + 1) (ls' := [_, _, _, _]) dX4_isSuch_26 rfl rfl rfl rfl rfl ?_
              refine s_goto (tgt := 4) dX4_isSuch_29 rfl ?_
              refine s_iload_n (n := 5) (i := 3) dX4_isSuch_4 rfl rfl rfl ?_
              refine s_bipush (n := 7) (v := 6) dX4_isSuch_5 rfl (by decide) ?_
              refine s_icmp_ge (n := 10) (tgt := 32) dX4_isSuch_7 rfl rfl (fun b7 => ?_) (fun b7 => ?_)
              · exact absurd b7 (by decide)
              · refine s_iload_n (n := 11) (i := 2) dX4_isSuch_10 rfl rfl rfl ?_
                refine s_iconst (n := 12) (v := (-1)) dX4_isSuch_11 rfl (by decide) ?_
                refine s_icmp_eq (n := 15) (tgt := 32) dX4_isSuch_12 rfl rfl (fun b12 => ?_) (fun b12 => ?_)
                · refine s_iload_n (n := 33) (i := 2) dX4_isSuch_32 rfl rfl rfl ?_
                  refine s_iload_n (n := 34) (i := 1) dX4_isSuch_33 rfl rfl rfl ?_
                  refine s_icmp_ne (n := 37) (tgt := 41) dX4_isSuch_34 rfl rfl (fun b34 => ?_) (fun b34 => ?_)
                  · refine s_iconst (n := 42) (v := 0) dX4_isSuch_41 rfl (by decide) ?_
                    refine s_ireturn dX4_isSuch_42 rfl (rfl) (Nat.le_refl _) (Nat.le_refl _) ?_
                    exact ⟨rfl, rfl⟩
                  · exact absurd b34 (by decide)
                · exact absurd b12 (by decide)
set_option maxRecDepth 100000 in
set_option maxHeartbeats 4000000 in
theorem c_such_1_3 {G : mj_G} {h : mj_H} {d : Nat} : mj_con G MX4_isSuch d 0 0 [.int 1, .int 3] h (rI 0 h) := by
  refine mj_conS okX4_isSuch (ls := [some (.int 1), some (.int 3), none, none]) rfl rfl ?_
  refine s_iload_n (n := 1) (i := 0) dX4_isSuch_0 rfl rfl rfl ?_
  refine s_istore_n (n := 2) (i := 2) (ls' := [_, _, _, _]) dX4_isSuch_1 rfl rfl rfl rfl rfl ?_
  refine s_iconst (n := 3) (v := 0) dX4_isSuch_2 rfl (by decide) ?_
  refine s_istore_n (n := 4) (i := 3) (ls' := [_, _, _, _]) dX4_isSuch_3 rfl rfl rfl rfl rfl ?_
  refine s_iload_n (n := 5) (i := 3) dX4_isSuch_4 rfl rfl rfl ?_
  refine s_bipush (n := 7) (v := 6) dX4_isSuch_5 rfl (by decide) ?_
  refine s_icmp_ge (n := 10) (tgt := 32) dX4_isSuch_7 rfl rfl (fun b7 => ?_) (fun b7 => ?_)
  · exact absurd b7 (by decide)
  · refine s_iload_n (n := 11) (i := 2) dX4_isSuch_10 rfl rfl rfl ?_
    refine s_iconst (n := 12) (v := (-1)) dX4_isSuch_11 rfl (by decide) ?_
    refine s_icmp_eq (n := 15) (tgt := 32) dX4_isSuch_12 rfl rfl (fun b12 => ?_) (fun b12 => ?_)
    · exact absurd b12 (by decide)
    · refine s_iload_n (n := 16) (i := 2) dX4_isSuch_15 rfl rfl rfl ?_
      refine s_iload_n (n := 17) (i := 1) dX4_isSuch_16 rfl rfl rfl ?_
      refine s_icmp_eq (n := 20) (tgt := 32) dX4_isSuch_17 rfl rfl (fun b17 => ?_) (fun b17 => ?_)
      · exact absurd b17 (by decide)
      · refine s_gets1 (n := 23) dX4_isSuch_20 rfl wd_X4_286 ?_
        refine s_iload_n (n := 24) (i := 2) dX4_isSuch_23 rfl rfl rfl ?_
        refine s_tald (t := 1) (by omega) (by omega) (n := 25) dX4_isSuch_24 rfl (mj_ixe (j := 1) (by decide) (by omega)) ?_
        refine s_istore_n (n := 26) (i := 2) (ls' := [_, _, _, _]) dX4_isSuch_25 rfl rfl rfl rfl rfl ?_
        refine s_iinc (n := 29) (v := _ + 1) (ls' := [_, _, _, _]) dX4_isSuch_26 rfl rfl rfl rfl rfl ?_
        refine s_goto (tgt := 4) dX4_isSuch_29 rfl ?_
        refine s_iload_n (n := 5) (i := 3) dX4_isSuch_4 rfl rfl rfl ?_
        refine s_bipush (n := 7) (v := 6) dX4_isSuch_5 rfl (by decide) ?_
        refine s_icmp_ge (n := 10) (tgt := 32) dX4_isSuch_7 rfl rfl (fun b7 => ?_) (fun b7 => ?_)
        · exact absurd b7 (by decide)
        · refine s_iload_n (n := 11) (i := 2) dX4_isSuch_10 rfl rfl rfl ?_
          refine s_iconst (n := 12) (v := (-1)) dX4_isSuch_11 rfl (by decide) ?_
          refine s_icmp_eq (n := 15) (tgt := 32) dX4_isSuch_12 rfl rfl (fun b12 => ?_) (fun b12 => ?_)
          · exact absurd b12 (by decide)
          · refine s_iload_n (n := 16) (i := 2) dX4_isSuch_15 rfl rfl rfl ?_
            refine s_iload_n (n := 17) (i := 1) dX4_isSuch_16 rfl rfl rfl ?_
            refine s_icmp_eq (n := 20) (tgt := 32) dX4_isSuch_17 rfl rfl (fun b17 => ?_) (fun b17 => ?_)
            · exact absurd b17 (by decide)
            · refine s_gets1 (n := 23) dX4_isSuch_20 rfl wd_X4_286 ?_
              refine s_iload_n (n := 24) (i := 2) dX4_isSuch_23 rfl rfl rfl ?_
              refine s_tald (t := 1) (by omega) (by omega) (n := 25) dX4_isSuch_24 rfl (mj_ixe (j := 0) (by decide) (by omega)) ?_
              refine s_istore_n (n := 26) (i := 2) (ls' := [_, _, _, _]) dX4_isSuch_25 rfl rfl rfl rfl rfl ?_
              refine s_iinc (n := 29) (v := _ + 1) (ls' := [_, _, _, _]) dX4_isSuch_26 rfl rfl rfl rfl rfl ?_
              refine s_goto (tgt := 4) dX4_isSuch_29 rfl ?_
              refine s_iload_n (n := 5) (i := 3) dX4_isSuch_4 rfl rfl rfl ?_
              refine s_bipush (n := 7) (v := 6) dX4_isSuch_5 rfl (by decide) ?_
              refine s_icmp_ge (n := 10) (tgt := 32) dX4_isSuch_7 rfl rfl (fun b7 => ?_) (fun b7 => ?_)
              · exact absurd b7 (by decide)
              · refine s_iload_n (n := 11) (i := 2) dX4_isSuch_10 rfl rfl rfl ?_
                refine s_iconst (n := 12) (v := (-1)) dX4_isSuch_11 rfl (by decide) ?_
                refine s_icmp_eq (n := 15) (tgt := 32) dX4_isSuch_12 rfl rfl (fun b12 => ?_) (fun b12 => ?_)
                · refine s_iload_n (n := 33) (i := 2) dX4_isSuch_32 rfl rfl rfl ?_
                  refine s_iload_n (n := 34) (i := 1) dX4_isSuch_33 rfl rfl rfl ?_
                  refine s_icmp_ne (n := 37) (tgt := 41) dX4_isSuch_34 rfl rfl (fun b34 => ?_) (fun b34 => ?_)
                  · refine s_iconst (n := 42) (v := 0) dX4_isSuch_41 rfl (by decide) ?_
                    refine s_ireturn dX4_isSuch_42 rfl (rfl) (Nat.le_refl _) (Nat.le_refl _) ?_
                    exact ⟨rfl, rfl⟩
                  · exact absurd b34 (by decide)
                · exact absurd b12 (by decide)
set_option maxRecDepth 100000 in
set_option maxHeartbeats 4000000 in
theorem c_such_1_4 {G : mj_G} {h : mj_H} {d : Nat} : mj_con G MX4_isSuch d 0 0 [.int 1, .int 4] h (rI 0 h) := by
  refine mj_conS okX4_isSuch (ls := [some (.int 1), some (.int 4), none, none]) rfl rfl ?_
  refine s_iload_n (n := 1) (i := 0) dX4_isSuch_0 rfl rfl rfl ?_
  refine s_istore_n (n := 2) (i := 2) (ls' := [_, _, _, _]) dX4_isSuch_1 rfl rfl rfl rfl rfl ?_
  refine s_iconst (n := 3) (v := 0) dX4_isSuch_2 rfl (by decide) ?_
  refine s_istore_n (n := 4) (i := 3) (ls' := [_, _, _, _]) dX4_isSuch_3 rfl rfl rfl rfl rfl ?_
  refine s_iload_n (n := 5) (i := 3) dX4_isSuch_4 rfl rfl rfl ?_
  refine s_bipush (n := 7) (v := 6) dX4_isSuch_5 rfl (by decide) ?_
  refine s_icmp_ge (n := 10) (tgt := 32) dX4_isSuch_7 rfl rfl (fun b7 => ?_) (fun b7 => ?_)
  · exact absurd b7 (by decide)
  · refine s_iload_n (n := 11) (i := 2) dX4_isSuch_10 rfl rfl rfl ?_
    refine s_iconst (n := 12) (v := (-1)) dX4_isSuch_11 rfl (by decide) ?_
    refine s_icmp_eq (n := 15) (tgt := 32) dX4_isSuch_12 rfl rfl (fun b12 => ?_) (fun b12 => ?_)
    · exact absurd b12 (by decide)
    · refine s_iload_n (n := 16) (i := 2) dX4_isSuch_15 rfl rfl rfl ?_
      refine s_iload_n (n := 17) (i := 1) dX4_isSuch_16 rfl rfl rfl ?_
      refine s_icmp_eq (n := 20) (tgt := 32) dX4_isSuch_17 rfl rfl (fun b17 => ?_) (fun b17 => ?_)
      · exact absurd b17 (by decide)
      · refine s_gets1 (n := 23) dX4_isSuch_20 rfl wd_X4_286 ?_
        refine s_iload_n (n := 24) (i := 2) dX4_isSuch_23 rfl rfl rfl ?_
        refine s_tald (t := 1) (by omega) (by omega) (n := 25) dX4_isSuch_24 rfl (mj_ixe (j := 1) (by decide) (by omega)) ?_
        refine s_istore_n (n := 26) (i := 2) (ls' := [_, _, _, _]) dX4_isSuch_25 rfl rfl rfl rfl rfl ?_
        refine s_iinc (n := 29) (v := _ + 1) (ls' := [_, _, _, _]) dX4_isSuch_26 rfl rfl rfl rfl rfl ?_
        refine s_goto (tgt := 4) dX4_isSuch_29 rfl ?_
        refine s_iload_n (n := 5) (i := 3) dX4_isSuch_4 rfl rfl rfl ?_
        refine s_bipush (n := 7) (v := 6) dX4_isSuch_5 rfl (by decide) ?_
        refine s_icmp_ge (n := 10) (tgt := 32) dX4_isSuch_7 rfl rfl (fun b7 => ?_) (fun b7 => ?_)
        · exact absurd b7 (by decide)
        · refine s_iload_n (n := 11) (i := 2) dX4_isSuch_10 rfl rfl rfl ?_
          refine s_iconst (n := 12) (v := (-1)) dX4_isSuch_11 rfl (by decide) ?_
          refine s_icmp_eq (n := 15) (tgt := 32) dX4_isSuch_12 rfl rfl (fun b12 => ?_) (fun b12 => ?_)
          · exact absurd b12 (by decide)
          · refine s_iload_n (n := 16) (i := 2) dX4_isSuch_15 rfl rfl rfl ?_
            refine s_iload_n (n := 17) (i := 1) dX4_isSuch_16 rfl rfl rfl ?_
            refine s_icmp_eq (n := 20) (tgt := 32) dX4_isSuch_17 rfl rfl (fun b17 => ?_) (fun b17 => ?_)
            · exact absurd b17 (by decide)
            · refine s_gets1 (n := 23) dX4_isSuch_20 rfl wd_X4_286 ?_
              refine s_iload_n (n := 24) (i := 2) dX4_isSuch_23 rfl rfl rfl ?_
              refine s_tald (t := 1) (by omega) (by omega) (n := 25) dX4_isSuch_24 rfl (mj_ixe (j := 0) (by decide) (by omega)) ?_
              refine s_istore_n (n := 26) (i := 2) (ls' := [_, _, _, _]) dX4_isSuch_25 rfl rfl rfl rfl rfl ?_
              refine s_iinc (n := 29) (v := _ + 1) (ls' := [_, _, _, _]) dX4_isSuch_26 rfl rfl rfl rfl rfl ?_
              refine s_goto (tgt := 4) dX4_isSuch_29 rfl ?_
              refine s_iload_n (n := 5) (i := 3) dX4_isSuch_4 rfl rfl rfl ?_
              refine s_bipush (n := 7) (v := 6) dX4_isSuch_5 rfl (by decide) ?_
              refine s_icmp_ge (n := 10) (tgt := 32) dX4_isSuch_7 rfl rfl (fun b7 => ?_) (fun b7 => ?_)
              · exact absurd b7 (by decide)
              · refine s_iload_n (n := 11) (i := 2) dX4_isSuch_10 rfl rfl rfl ?_
                refine s_iconst (n := 12) (v := (-1)) dX4_isSuch_11 rfl (by decide) ?_
                refine s_icmp_eq (n := 15) (tgt := 32) dX4_isSuch_12 rfl rfl (fun b12 => ?_) (fun b12 => ?_)
                · refine s_iload_n (n := 33) (i := 2) dX4_isSuch_32 rfl rfl rfl ?_
                  refine s_iload_n (n := 34) (i := 1) dX4_isSuch_33 rfl rfl rfl ?_
                  refine s_icmp_ne (n := 37) (tgt := 41) dX4_isSuch_34 rfl rfl (fun b34 => ?_) (fun b34 => ?_)
                  · refine s_iconst (n := 42) (v := 0) dX4_isSuch_41 rfl (by decide) ?_
                    refine s_ireturn dX4_isSuch_42 rfl (rfl) (Nat.le_refl _) (Nat.le_refl _) ?_
                    exact ⟨rfl, rfl⟩
                  · exact absurd b34 (by decide)
                · exact absurd b12 (by decide)
set_option maxRecDepth 100000 in
set_option maxHeartbeats 4000000 in
theorem c_such_1_5 {G : mj_G} {h : mj_H} {d : Nat} : mj_con G MX4_isSuch d 0 0 [.int 1, .int 5] h (rI 0 h) := by
  refine mj_conS okX4_isSuch (ls := [some (.int 1), some (.int 5), none, none]) rfl rfl ?_
  refine s_iload_n (n := 1) (i := 0) dX4_isSuch_0 rfl rfl rfl ?_
  refine s_istore_n (n := 2) (i := 2) (ls' := [_, _, _, _]) dX4_isSuch_1 rfl rfl rfl rfl rfl ?_
  refine s_iconst (n := 3) (v := 0) dX4_isSuch_2 rfl (by decide) ?_
  refine s_istore_n (n := 4) (i := 3) (ls' := [_, _, _, _]) dX4_isSuch_3 rfl rfl rfl rfl rfl ?_
  refine s_iload_n (n := 5) (i := 3) dX4_isSuch_4 rfl rfl rfl ?_
  refine s_bipush (n := 7) (v := 6) dX4_isSuch_5 rfl (by decide) ?_
  refine s_icmp_ge (n := 10) (tgt := 32) dX4_isSuch_7 rfl rfl (fun b7 => ?_) (fun b7 => ?_)
  · exact absurd b7 (by decide)
  · refine s_iload_n (n := 11) (i := 2) dX4_isSuch_10 rfl rfl rfl ?_
    refine s_iconst (n := 12) (v := (-1)) dX4_isSuch_11 rfl (by decide) ?_
    refine s_icmp_eq (n := 15) (tgt := 32) dX4_isSuch_12 rfl rfl (fun b12 => ?_) (fun b12 => ?_)
    · exact absurd b12 (by decide)
    · refine s_iload_n (n := 16) (i := 2) dX4_isSuch_15 rfl rfl rfl ?_
      refine s_iload_n (n := 17) (i := 1) dX4_isSuch_16 rfl rfl rfl ?_
      refine s_icmp_eq (n := 20) (tgt := 32) dX4_isSuch_17 rfl rfl (fun b17 => ?_) (fun b17 => ?_)
      · exact absurd b17 (by decide)
      · refine s_gets1 (n := 23) dX4_isSuch_20 rfl wd_X4_286 ?_
        refine s_iload_n (n := 24) (i := 2) dX4_isSuch_23 rfl rfl rfl ?_
        refine s_tald (t := 1) (by omega) (by omega) (n := 25) dX4_isSuch_24 rfl (mj_ixe (j := 1) (by decide) (by omega)) ?_
        refine s_istore_n (n := 26) (i := 2) (ls' := [_, _, _, _]) dX4_isSuch_25 rfl rfl rfl rfl rfl ?_
        refine s_iinc (n := 29) (v := _ + 1) (ls' := [_, _, _, _]) dX4_isSuch_26 rfl rfl rfl rfl rfl ?_
        refine s_goto (tgt := 4) dX4_isSuch_29 rfl ?_
        refine s_iload_n (n := 5) (i := 3) dX4_isSuch_4 rfl rfl rfl ?_
        refine s_bipush (n := 7) (v := 6) dX4_isSuch_5 rfl (by decide) ?_
        refine s_icmp_ge (n := 10) (tgt := 32) dX4_isSuch_7 rfl rfl (fun b7 => ?_) (fun b7 => ?_)
        · exact absurd b7 (by decide)
        · refine s_iload_n (n := 11) (i := 2) dX4_isSuch_10 rfl rfl rfl ?_
          refine s_iconst (n := 12) (v := (-1)) dX4_isSuch_11 rfl (by decide) ?_
          refine s_icmp_eq (n := 15) (tgt := 32) dX4_isSuch_12 rfl rfl (fun b12 => ?_) (fun b12 => ?_)
          · exact absurd b12 (by decide)
          · refine s_iload_n (n := 16) (i := 2) dX4_isSuch_15 rfl rfl rfl ?_
            refine s_iload_n (n := 17) (i := 1) dX4_isSuch_16 rfl rfl rfl ?_
            refine s_icmp_eq (n := 20) (tgt := 32) dX4_isSuch_17 rfl rfl (fun b17 => ?_) (fun b17 => ?_)
            · exact absurd b17 (by decide)
            · refine s_gets1 (n := 23) dX4_isSuch_20 rfl wd_X4_286 ?_
              refine s_iload_n (n := 24) (i := 2) dX4_isSuch_23 rfl rfl rfl ?_
              refine s_tald (t := 1) (by omega) (by omega) (n := 25) dX4_isSuch_24 rfl (mj_ixe (j := 0) (by decide) (by omega)) ?_
              refine s_istore_n (n := 26) (i := 2) (ls' := [_, _, _, _]) dX4_isSuch_25 rfl rfl rfl rfl rfl ?_
              refine s_iinc (n := 29) (v := _ + 1) (ls' := [_, _, _, _]) dX4_isSuch_26 rfl rfl rfl rfl rfl ?_
              refine s_goto (tgt := 4) dX4_isSuch_29 rfl ?_
              refine s_iload_n (n := 5) (i := 3) dX4_isSuch_4 rfl rfl rfl ?_
              refine s_bipush (n := 7) (v := 6) dX4_isSuch_5 rfl (by decide) ?_
              refine s_icmp_ge (n := 10) (tgt := 32) dX4_isSuch_7 rfl rfl (fun b7 => ?_) (fun b7 => ?_)
              · exact absurd b7 (by decide)
              · refine s_iload_n (n := 11) (i := 2) dX4_isSuch_10 rfl rfl rfl ?_
                refine s_iconst (n := 12) (v := (-1)) dX4_isSuch_11 rfl (by decide) ?_
                refine s_icmp_eq (n := 15) (tgt := 32) dX4_isSuch_12 rfl rfl (fun b12 => ?_) (fun b12 => ?_)
                · refine s_iload_n (n := 33) (i := 2) dX4_isSuch_32 rfl rfl rfl ?_
                  refine s_iload_n (n := 34) (i := 1) dX4_isSuch_33 rfl rfl rfl ?_
                  refine s_icmp_ne (n := 37) (tgt := 41) dX4_isSuch_34 rfl rfl (fun b34 => ?_) (fun b34 => ?_)
                  · refine s_iconst (n := 42) (v := 0) dX4_isSuch_41 rfl (by decide) ?_
                    refine s_ireturn dX4_isSuch_42 rfl (rfl) (Nat.le_refl _) (Nat.le_refl _) ?_
                    exact ⟨rfl, rfl⟩
                  · exact absurd b34 (by decide)
                · exact absurd b12 (by decide)
set_option maxRecDepth 100000 in
set_option maxHeartbeats 4000000 in
theorem c_such_2_0 {G : mj_G} {h : mj_H} {d : Nat} : mj_con G MX4_isSuch d 0 0 [.int 2, .int 0] h (rI 1 h) := by
  refine mj_conS okX4_isSuch (ls := [some (.int 2), some (.int 0), none, none]) rfl rfl ?_
  refine s_iload_n (n := 1) (i := 0) dX4_isSuch_0 rfl rfl rfl ?_
  refine s_istore_n (n := 2) (i := 2) (ls' := [_, _, _, _]) dX4_isSuch_1 rfl rfl rfl rfl rfl ?_
  refine s_iconst (n := 3) (v := 0) dX4_isSuch_2 rfl (by decide) ?_
  refine s_istore_n (n := 4) (i := 3) (ls' := [_, _, _, _]) dX4_isSuch_3 rfl rfl rfl rfl rfl ?_
  refine s_iload_n (n := 5) (i := 3) dX4_isSuch_4 rfl rfl rfl ?_
  refine s_bipush (n := 7) (v := 6) dX4_isSuch_5 rfl (by decide) ?_
  refine s_icmp_ge (n := 10) (tgt := 32) dX4_isSuch_7 rfl rfl (fun b7 => ?_) (fun b7 => ?_)
  · exact absurd b7 (by decide)
  · refine s_iload_n (n := 11) (i := 2) dX4_isSuch_10 rfl rfl rfl ?_
    refine s_iconst (n := 12) (v := (-1)) dX4_isSuch_11 rfl (by decide) ?_
    refine s_icmp_eq (n := 15) (tgt := 32) dX4_isSuch_12 rfl rfl (fun b12 => ?_) (fun b12 => ?_)
    · exact absurd b12 (by decide)
    · refine s_iload_n (n := 16) (i := 2) dX4_isSuch_15 rfl rfl rfl ?_
      refine s_iload_n (n := 17) (i := 1) dX4_isSuch_16 rfl rfl rfl ?_
      refine s_icmp_eq (n := 20) (tgt := 32) dX4_isSuch_17 rfl rfl (fun b17 => ?_) (fun b17 => ?_)
      · exact absurd b17 (by decide)
      · refine s_gets1 (n := 23) dX4_isSuch_20 rfl wd_X4_286 ?_
        refine s_iload_n (n := 24) (i := 2) dX4_isSuch_23 rfl rfl rfl ?_
        refine s_tald (t := 1) (by omega) (by omega) (n := 25) dX4_isSuch_24 rfl (mj_ixe (j := 2) (by decide) (by omega)) ?_
        refine s_istore_n (n := 26) (i := 2) (ls' := [_, _, _, _]) dX4_isSuch_25 rfl rfl rfl rfl rfl ?_
        refine s_iinc (n := 29) (v := _ + 1) (ls' := [_, _, _, _]) dX4_isSuch_26 rfl rfl rfl rfl rfl ?_
        refine s_goto (tgt := 4) dX4_isSuch_29 rfl ?_
        refine s_iload_n (n := 5) (i := 3) dX4_isSuch_4 rfl rfl rfl ?_
        refine s_bipush (n := 7) (v := 6) dX4_isSuch_5 rfl (by decide) ?_
        refine s_icmp_ge (n := 10) (tgt := 32) dX4_isSuch_7 rfl rfl (fun b7 => ?_) (fun b7 => ?_)
        · exact absurd b7 (by decide)
        · refine s_iload_n (n := 11) (i := 2) dX4_isSuch_10 rfl rfl rfl ?_
          refine s_iconst (n := 12) (v := (-1)) dX4_isSuch_11 rfl (by decide) ?_
          refine s_icmp_eq (n := 15) (tgt := 32) dX4_isSuch_12 rfl rfl (fun b12 => ?_) (fun b12 => ?_)
          · exact absurd b12 (by decide)
          · refine s_iload_n (n := 16) (i := 2) dX4_isSuch_15 rfl rfl rfl ?_
            refine s_iload_n (n := 17) (i := 1) dX4_isSuch_16 rfl rfl rfl ?_
            refine s_icmp_eq (n := 20) (tgt := 32) dX4_isSuch_17 rfl rfl (fun b17 => ?_) (fun b17 => ?_)
            · exact absurd b17 (by decide)
            · refine s_gets1 (n := 23) dX4_isSuch_20 rfl wd_X4_286 ?_
              refine s_iload_n (n := 24) (i := 2) dX4_isSuch_23 rfl rfl rfl ?_
              refine s_tald (t := 1) (by omega) (by omega) (n := 25) dX4_isSuch_24 rfl (mj_ixe (j := 1) (by decide) (by omega)) ?_
              refine s_istore_n (n := 26) (i := 2) (ls' := [_, _, _, _]) dX4_isSuch_25 rfl rfl rfl rfl rfl ?_
              refine s_iinc (n := 29) (v := _ + 1) (ls' := [_, _, _, _]) dX4_isSuch_26 rfl rfl rfl rfl rfl ?_
              refine s_goto (tgt := 4) dX4_isSuch_29 rfl ?_
              refine s_iload_n (n := 5) (i := 3) dX4_isSuch_4 rfl rfl rfl ?_
              refine s_bipush (n := 7) (v := 6) dX4_isSuch_5 rfl (by decide) ?_
              refine s_icmp_ge (n := 10) (tgt := 32) dX4_isSuch_7 rfl rfl (fun b7 => ?_) (fun b7 => ?_)
              · exact absurd b7 (by decide)
              · refine s_iload_n (n := 11) (i := 2) dX4_isSuch_10 rfl rfl rfl ?_
                refine s_iconst (n := 12) (v := (-1)) dX4_isSuch_11 rfl (by decide) ?_
                refine s_icmp_eq (n := 15) (tgt := 32) dX4_isSuch_12 rfl rfl (fun b12 => ?_) (fun b12 => ?_)
                · exact absurd b12 (by decide)
                · refine s_iload_n (n := 16) (i := 2) dX4_isSuch_15 rfl rfl rfl ?_
                  refine s_iload_n (n := 17) (i := 1) dX4_isSuch_16 rfl rfl rfl ?_
                  refine s_icmp_eq (n := 20) (tgt := 32) dX4_isSuch_17 rfl rfl (fun b17 => ?_) (fun b17 => ?_)
                  · refine s_iload_n (n := 33) (i := 2) dX4_isSuch_32 rfl rfl rfl ?_
                    refine s_iload_n (n := 34) (i := 1) dX4_isSuch_33 rfl rfl rfl ?_
                    refine s_icmp_ne (n := 37) (tgt := 41) dX4_isSuch_34 rfl rfl (fun b34 => ?_) (fun b34 => ?_)
                    · exact absurd b34 (by decide)
                    · refine s_iconst (n := 38) (v := 1) dX4_isSuch_37 rfl (by decide) ?_
                      refine s_goto (tgt := 42) dX4_isSuch_38 rfl ?_
                      refine s_ireturn dX4_isSuch_42 rfl (rfl) (Nat.le_refl _) (Nat.le_refl _) ?_
                      exact ⟨rfl, rfl⟩
                  · exact absurd b17 (by decide)
set_option maxRecDepth 100000 in
set_option maxHeartbeats 4000000 in
theorem c_such_2_1 {G : mj_G} {h : mj_H} {d : Nat} : mj_con G MX4_isSuch d 0 0 [.int 2, .int 1] h (rI 1 h) := by
  refine mj_conS okX4_isSuch (ls := [some (.int 2), some (.int 1), none, none]) rfl rfl ?_
  refine s_iload_n (n := 1) (i := 0) dX4_isSuch_0 rfl rfl rfl ?_
  refine s_istore_n (n := 2) (i := 2) (ls' := [_, _, _, _]) dX4_isSuch_1 rfl rfl rfl rfl rfl ?_
  refine s_iconst (n := 3) (v := 0) dX4_isSuch_2 rfl (by decide) ?_
  refine s_istore_n (n := 4) (i := 3) (ls' := [_, _, _, _]) dX4_isSuch_3 rfl rfl rfl rfl rfl ?_
  refine s_iload_n (n := 5) (i := 3) dX4_isSuch_4 rfl rfl rfl ?_
  refine s_bipush (n := 7) (v := 6) dX4_isSuch_5 rfl (by decide) ?_
  refine s_icmp_ge (n := 10) (tgt := 32) dX4_isSuch_7 rfl rfl (fun b7 => ?_) (fun b7 => ?_)
  · exact absurd b7 (by decide)
  · refine s_iload_n (n := 11) (i := 2) dX4_isSuch_10 rfl rfl rfl ?_
    refine s_iconst (n := 12) (v := (-1)) dX4_isSuch_11 rfl (by decide) ?_
    refine s_icmp_eq (n := 15) (tgt := 32) dX4_isSuch_12 rfl rfl (fun b12 => ?_) (fun b12 => ?_)
    · exact absurd b12 (by decide)
    · refine s_iload_n (n := 16) (i := 2) dX4_isSuch_15 rfl rfl rfl ?_
      refine s_iload_n (n := 17) (i := 1) dX4_isSuch_16 rfl rfl rfl ?_
      refine s_icmp_eq (n := 20) (tgt := 32) dX4_isSuch_17 rfl rfl (fun b17 => ?_) (fun b17 => ?_)
      · exact absurd b17 (by decide)
      · refine s_gets1 (n := 23) dX4_isSuch_20 rfl wd_X4_286 ?_
        refine s_iload_n (n := 24) (i := 2) dX4_isSuch_23 rfl rfl rfl ?_
        refine s_tald (t := 1) (by omega) (by omega) (n := 25) dX4_isSuch_24 rfl (mj_ixe (j := 2) (by decide) (by omega)) ?_
        refine s_istore_n (n := 26) (i := 2) (ls' := [_, _, _, _]) dX4_isSuch_25 rfl rfl rfl rfl rfl ?_
        refine s_iinc (n := 29) (v := _ + 1) (ls' := [_, _, _, _]) dX4_isSuch_26 rfl rfl rfl rfl rfl ?_
        refine s_goto (tgt := 4) dX4_isSuch_29 rfl ?_
        refine s_iload_n (n := 5) (i := 3) dX4_isSuch_4 rfl rfl rfl ?_
        refine s_bipush (n := 7) (v := 6) dX4_isSuch_5 rfl (by decide) ?_
        refine s_icmp_ge (n := 10) (tgt := 32) dX4_isSuch_7 rfl rfl (fun b7 => ?_) (fun b7 => ?_)
        · exact absurd b7 (by decide)
        · refine s_iload_n (n := 11) (i := 2) dX4_isSuch_10 rfl rfl rfl ?_
          refine s_iconst (n := 12) (v := (-1)) dX4_isSuch_11 rfl (by decide) ?_
          refine s_icmp_eq (n := 15) (tgt := 32) dX4_isSuch_12 rfl rfl (fun b12 => ?_) (fun b12 => ?_)
          · exact absurd b12 (by decide)
          · refine s_iload_n (n := 16) (i := 2) dX4_isSuch_15 rfl rfl rfl ?_
            refine s_iload_n (n := 17) (i := 1) dX4_isSuch_16 rfl rfl rfl ?_
            refine s_icmp_eq (n := 20) (tgt := 32) dX4_isSuch_17 rfl rfl (fun b17 => ?_) (fun b17 => ?_)
            · refine s_iload_n (n := 33) (i := 2) dX4_isSuch_32 rfl rfl rfl ?_
              refine s_iload_n (n := 34) (i := 1) dX4_isSuch_33 rfl rfl rfl ?_
              refine s_icmp_ne (n := 37) (tgt := 41) dX4_isSuch_34 rfl rfl (fun b34 => ?_) (fun b34 => ?_)
              · exact absurd b34 (by decide)
              · refine s_iconst (n := 38) (v := 1) dX4_isSuch_37 rfl (by decide) ?_
                refine s_goto (tgt := 42) dX4_isSuch_38 rfl ?_
                refine s_ireturn dX4_isSuch_42 rfl (rfl) (Nat.le_refl _) (Nat.le_refl _) ?_
                exact ⟨rfl, rfl⟩
            · exact absurd b17 (by decide)
set_option maxRecDepth 100000 in
set_option maxHeartbeats 4000000 in
theorem c_such_2_2 {G : mj_G} {h : mj_H} {d : Nat} : mj_con G MX4_isSuch d 0 0 [.int 2, .int 2] h (rI 1 h) := by
  refine mj_conS okX4_isSuch (ls := [some (.int 2), some (.int 2), none, none]) rfl rfl ?_
  refine s_iload_n (n := 1) (i := 0) dX4_isSuch_0 rfl rfl rfl ?_
  refine s_istore_n (n := 2) (i := 2) (ls' := [_, _, _, _]) dX4_isSuch_1 rfl rfl rfl rfl rfl ?_
  refine s_iconst (n := 3) (v := 0) dX4_isSuch_2 rfl (by decide) ?_
  refine s_istore_n (n := 4) (i := 3) (ls' := [_, _, _, _]) dX4_isSuch_3 rfl rfl rfl rfl rfl ?_
  refine s_iload_n (n := 5) (i := 3) dX4_isSuch_4 rfl rfl rfl ?_
  refine s_bipush (n := 7) (v := 6) dX4_isSuch_5 rfl (by decide) ?_
  refine s_icmp_ge (n := 10) (tgt := 32) dX4_isSuch_7 rfl rfl (fun b7 => ?_) (fun b7 => ?_)
  · exact absurd b7 (by decide)
  · refine s_iload_n (n := 11) (i := 2) dX4_isSuch_10 rfl rfl rfl ?_
    refine s_iconst (n := 12) (v := (-1)) dX4_isSuch_11 rfl (by decide) ?_
    refine s_icmp_eq (n := 15) (tgt := 32) dX4_isSuch_12 rfl rfl (fun b12 => ?_) (fun b12 => ?_)
    · exact absurd b12 (by decide)
    · refine s_iload_n (n := 16) (i := 2) dX4_isSuch_15 rfl rfl rfl ?_
      refine s_iload_n (n := 17) (i := 1) dX4_isSuch_16 rfl rfl rfl ?_
      refine s_icmp_eq (n := 20) (tgt := 32) dX4_isSuch_17 rfl rfl (fun b17 => ?_) (fun b17 => ?_)
      · refine s_iload_n (n := 33) (i := 2) dX4_isSuch_32 rfl rfl rfl ?_
        refine s_iload_n (n := 34) (i := 1) dX4_isSuch_33 rfl rfl rfl ?_
        refine s_icmp_ne (n := 37) (tgt := 41) dX4_isSuch_34 rfl rfl (fun b34 => ?_) (fun b34 => ?_)
        · exact absurd b34 (by decide)
        · refine s_iconst (n := 38) (v := 1) dX4_isSuch_37 rfl (by decide) ?_
          refine s_goto (tgt := 42) dX4_isSuch_38 rfl ?_
          refine s_ireturn dX4_isSuch_42 rfl (rfl) (Nat.le_refl _) (Nat.le_refl _) ?_
          exact ⟨rfl, rfl⟩
      · exact absurd b17 (by decide)
set_option maxRecDepth 100000 in
set_option maxHeartbeats 4000000 in
theorem c_such_2_3 {G : mj_G} {h : mj_H} {d : Nat} : mj_con G MX4_isSuch d 0 0 [.int 2, .int 3] h (rI 0 h) := by
  refine mj_conS okX4_isSuch (ls := [some (.int 2), some (.int 3), none, none]) rfl rfl ?_
  refine s_iload_n (n := 1) (i := 0) dX4_isSuch_0 rfl rfl rfl ?_
  refine s_istore_n (n := 2) (i := 2) (ls' := [_, _, _, _]) dX4_isSuch_1 rfl rfl rfl rfl rfl ?_
  refine s_iconst (n := 3) (v := 0) dX4_isSuch_2 rfl (by decide) ?_
  refine s_istore_n (n := 4) (i := 3) (ls' := [_, _, _, _]) dX4_isSuch_3 rfl rfl rfl rfl rfl ?_
  refine s_iload_n (n := 5) (i := 3) dX4_isSuch_4 rfl rfl rfl ?_
  refine s_bipush (n := 7) (v := 6) dX4_isSuch_5 rfl (by decide) ?_
  refine s_icmp_ge (n := 10) (tgt := 32) dX4_isSuch_7 rfl rfl (fun b7 => ?_) (fun b7 => ?_)
  · exact absurd b7 (by decide)
  · refine s_iload_n (n := 11) (i := 2) dX4_isSuch_10 rfl rfl rfl ?_
    refine s_iconst (n := 12) (v := (-1)) dX4_isSuch_11 rfl (by decide) ?_
    refine s_icmp_eq (n := 15) (tgt := 32) dX4_isSuch_12 rfl rfl (fun b12 => ?_) (fun b12 => ?_)
    · exact absurd b12 (by decide)
    · refine s_iload_n (n := 16) (i := 2) dX4_isSuch_15 rfl rfl rfl ?_
      refine s_iload_n (n := 17) (i := 1) dX4_isSuch_16 rfl rfl rfl ?_
      refine s_icmp_eq (n := 20) (tgt := 32) dX4_isSuch_17 rfl rfl (fun b17 => ?_) (fun b17 => ?_)
      · exact absurd b17 (by decide)
      · refine s_gets1 (n := 23) dX4_isSuch_20 rfl wd_X4_286 ?_
        refine s_iload_n (n := 24) (i := 2) dX4_isSuch_23 rfl rfl rfl ?_
        refine s_tald (t := 1) (by omega) (by omega) (n := 25) dX4_isSuch_24 rfl (mj_ixe (j := 2) (by decide) (by omega)) ?_
        refine s_istore_n (n := 26) (i := 2) (ls' := [_, _, _, _]) dX4_isSuch_25 rfl rfl rfl rfl rfl ?_
        refine s_iinc (n := 29) (v := _ + 1) (ls' := [_, _, _, _]) dX4_isSuch_26 rfl rfl rfl rfl rfl ?_
        refine s_goto (tgt := 4) dX4_isSuch_29 rfl ?_
        refine s_iload_n (n := 5) (i := 3) dX4_isSuch_4 rfl rfl rfl ?_
        refine s_bipush (n := 7) (v := 6) dX4_isSuch_5 rfl (by decide) ?_
        refine s_icmp_ge (n := 10) (tgt := 32) dX4_isSuch_7 rfl rfl (fun b7 => ?_) (fun b7 => ?_)
        · exact absurd b7 (by decide)
        · refine s_iload_n (n := 11) (i := 2) dX4_isSuch_10 rfl rfl rfl ?_
          refine s_iconst (n := 12) (v := (-1)) dX4_isSuch_11 rfl (by decide) ?_
          refine s_icmp_eq (n := 15) (tgt := 32) dX4_isSuch_12 rfl rfl (fun b12 => ?_) (fun b12 => ?_)
          · exact absurd b12 (by decide)
          · refine s_iload_n (n := 16) (i := 2) dX4_isSuch_15 rfl rfl rfl ?_
            refine s_iload_n (n := 17) (i := 1) dX4_isSuch_16 rfl rfl rfl ?_
            refine s_icmp_eq (n := 20) (tgt := 32) dX4_isSuch_17 rfl rfl (fun b17 => ?_) (fun b17 => ?_)
            · exact absurd b17 (by decide)
            · refine s_gets1 (n := 23) dX4_isSuch_20 rfl wd_X4_286 ?_
              refine s_iload_n (n := 24) (i := 2) dX4_isSuch_23 rfl rfl rfl ?_
              refine s_tald (t := 1) (by omega) (by omega) (n := 25) dX4_isSuch_24 rfl (mj_ixe (j := 1) (by decide) (by omega)) ?_
              refine s_istore_n (n := 26) (i := 2) (ls' := [_, _, _, _]) dX4_isSuch_25 rfl rfl rfl rfl rfl ?_
              refine s_iinc (n := 29) (v := _ + 1) (ls' := [_, _, _, _]) dX4_isSuch_26 rfl rfl rfl rfl rfl ?_
              refine s_goto (tgt := 4) dX4_isSuch_29 rfl ?_
              refine s_iload_n (n := 5) (i := 3) dX4_isSuch_4 rfl rfl rfl ?_
              refine s_bipush (n := 7) (v := 6) dX4_isSuch_5 rfl (by decide) ?_
              refine s_icmp_ge (n := 10) (tgt := 32) dX4_isSuch_7 rfl rfl (fun b7 => ?_) (fun b7 => ?_)
              · exact absurd b7 (by decide)
              · refine s_iload_n (n := 11) (i := 2) dX4_isSuch_10 rfl rfl rfl ?_
                refine s_iconst (n := 12) (v := (-1)) dX4_isSuch_11 rfl (by decide) ?_
                refine s_icmp_eq (n := 15) (tgt := 32) dX4_isSuch_12 rfl rfl (fun b12 => ?_) (fun b12 => ?_)
                · exact absurd b12 (by decide)
                · refine s_iload_n (n := 16) (i := 2) dX4_isSuch_15 rfl rfl rfl ?_
                  refine s_iload_n (n := 17) (i := 1) dX4_isSuch_16 rfl rfl rfl ?_
                  refine s_icmp_eq (n := 20) (tgt := 32) dX4_isSuch_17 rfl rfl (fun b17 => ?_) (fun b17 => ?_)
                  · exact absurd b17 (by decide)
                  · refine s_gets1 (n := 23) dX4_isSuch_20 rfl wd_X4_286 ?_
                    refine s_iload_n (n := 24) (i := 2) dX4_isSuch_23 rfl rfl rfl ?_
                    refine s_tald (t := 1) (by omega) (by omega) (n := 25) dX4_isSuch_24 rfl (mj_ixe (j := 0) (by decide) (by omega)) ?_
                    refine s_istore_n (n := 26) (i := 2) (ls' := [_, _, _, _]) dX4_isSuch_25 rfl rfl rfl rfl rfl ?_
                    refine s_iinc (n := 29) (v := _ + 1) (ls' := [_, _, _, _]) dX4_isSuch_26 rfl rfl rfl rfl rfl ?_
                    refine s_goto (tgt := 4) dX4_isSuch_29 rfl ?_
                    refine s_iload_n (n := 5) (i := 3) dX4_isSuch_4 rfl rfl rfl ?_
                    refine s_bipush (n := 7) (v := 6) dX4_isSuch_5 rfl (by decide) ?_
                    refine s_icmp_ge (n := 10) (tgt := 32) dX4_isSuch_7 rfl rfl (fun b7 => ?_) (fun b7 => ?_)
                    · exact absurd b7 (by decide)
                    · refine s_iload_n (n := 11) (i := 2) dX4_isSuch_10 rfl rfl rfl ?_
                      refine s_iconst (n := 12) (v := (-1)) dX4_isSuch_11 rfl (by decide) ?_
                      refine s_icmp_eq (n := 15) (tgt := 32) dX4_isSuch_12 rfl rfl (fun b12 => ?_) (fun b12 => ?_)
                      · refine s_iload_n (n := 33) (i := 2) dX4_isSuch_32 rfl rfl rfl ?_
                        refine s_iload_n (n := 34) (i := 1) dX4_isSuch_33 rfl rfl rfl ?_
                        refine s_icmp_ne (n := 37) (tgt := 41) dX4_isSuch_34 rfl rfl (fun b34 => ?_) (fun b34 => ?_)
                        · refine s_iconst (n := 42) (v := 0) dX4_isSuch_41 rfl (by decide) ?_
                          refine s_ireturn dX4_isSuch_42 rfl (rfl) (Nat.le_refl _) (Nat.le_refl _) ?_
                          exact ⟨rfl, rfl⟩
                        · exact absurd b34 (by decide)
                      · exact absurd b12 (by decide)
set_option maxRecDepth 100000 in
set_option maxHeartbeats 4000000 in
theorem c_such_2_4 {G : mj_G} {h : mj_H} {d : Nat} : mj_con G MX4_isSuch d 0 0 [.int 2, .int 4] h (rI 0 h) := by
  refine mj_conS okX4_isSuch (ls := [some (.int 2), some (.int 4), none, none]) rfl rfl ?_
  refine s_iload_n (n := 1) (i := 0) dX4_isSuch_0 rfl rfl rfl ?_
  refine s_istore_n (n := 2) (i := 2) (ls' := [_, _, _, _]) dX4_isSuch_1 rfl rfl rfl rfl rfl ?_
  refine s_iconst (n := 3) (v := 0) dX4_isSuch_2 rfl (by decide) ?_
  refine s_istore_n (n := 4) (i := 3) (ls' := [_, _, _, _]) dX4_isSuch_3 rfl rfl rfl rfl rfl ?_
  refine s_iload_n (n := 5) (i := 3) dX4_isSuch_4 rfl rfl rfl ?_
  refine s_bipush (n := 7) (v := 6) dX4_isSuch_5 rfl (by decide) ?_
  refine s_icmp_ge (n := 10) (tgt := 32) dX4_isSuch_7 rfl rfl (fun b7 => ?_) (fun b7 => ?_)
  · exact absurd b7 (by decide)
  · refine s_iload_n (n := 11) (i := 2) dX4_isSuch_10 rfl rfl rfl ?_
    refine s_iconst (n := 12) (v := (-1)) dX4_isSuch_11 rfl (by decide) ?_
    refine s_icmp_eq (n := 15) (tgt := 32) dX4_isSuch_12 rfl rfl (fun b12 => ?_) (fun b12 => ?_)
    · exact absurd b12 (by decide)
    · refine s_iload_n (n := 16) (i := 2) dX4_isSuch_15 rfl rfl rfl ?_
      refine s_iload_n (n := 17) (i := 1) dX4_isSuch_16 rfl rfl rfl ?_
      refine s_icmp_eq (n := 20) (tgt := 32) dX4_isSuch_17 rfl rfl (fun b17 => ?_) (fun b17 => ?_)
      · exact absurd b17 (by decide)
      · refine s_gets1 (n := 23) dX4_isSuch_20 rfl wd_X4_286 ?_
        refine s_iload_n (n := 24) (i := 2) dX4_isSuch_23 rfl rfl rfl ?_
        refine s_tald (t := 1) (by omega) (by omega) (n := 25) dX4_isSuch_24 rfl (mj_ixe (j := 2) (by decide) (by omega)) ?_
        refine s_istore_n (n := 26) (i := 2) (ls' := [_, _, _, _]) dX4_isSuch_25 rfl rfl rfl rfl rfl ?_
        refine s_iinc (n := 29) (v := _ + 1) (ls' := [_, _, _, _]) dX4_isSuch_26 rfl rfl rfl rfl rfl ?_
        refine s_goto (tgt := 4) dX4_isSuch_29 rfl ?_
        refine s_iload_n (n := 5) (i := 3) dX4_isSuch_4 rfl rfl rfl ?_
        refine s_bipush (n := 7) (v := 6) dX4_isSuch_5 rfl (by decide) ?_
        refine s_icmp_ge (n := 10) (tgt := 32) dX4_isSuch_7 rfl rfl (fun b7 => ?_) (fun b7 => ?_)
        · exact absurd b7 (by decide)
        · refine s_iload_n (n := 11) (i := 2) dX4_isSuch_10 rfl rfl rfl ?_
          refine s_iconst (n := 12) (v := (-1)) dX4_isSuch_11 rfl (by decide) ?_
          refine s_icmp_eq (n := 15) (tgt := 32) dX4_isSuch_12 rfl rfl (fun b12 => ?_) (fun b12 => ?_)
          · exact absurd b12 (by decide)
          · refine s_iload_n (n := 16) (i := 2) dX4_isSuch_15 rfl rfl rfl ?_
            refine s_iload_n (n := 17) (i := 1) dX4_isSuch_16 rfl rfl rfl ?_
            refine s_icmp_eq (n := 20) (tgt := 32) dX4_isSuch_17 rfl rfl (fun b17 => ?_) (fun b17 => ?_)
            · exact absurd b17 (by decide)
            · refine s_gets1 (n := 23) dX4_isSuch_20 rfl wd_X4_286 ?_
              refine s_iload_n (n := 24) (i := 2) dX4_isSuch_23 rfl rfl rfl ?_
              refine s_tald (t := 1) (by omega) (by omega) (n := 25) dX4_isSuch_24 rfl (mj_ixe (j := 1) (by decide) (by omega)) ?_
              refine s_istore_n (n := 26) (i := 2) (ls' := [_, _, _, _]) dX4_isSuch_25 rfl rfl rfl rfl rfl ?_
              refine s_iinc (n := 29) (v := _ + 1) (ls' := [_, _, _, _]) dX4_isSuch_26 rfl rfl rfl rfl rfl ?_
              refine s_goto (tgt := 4) dX4_isSuch_29 rfl ?_
              refine s_iload_n (n := 5) (i := 3) dX4_isSuch_4 rfl rfl rfl ?_
              refine s_bipush (n := 7) (v := 6) dX4_isSuch_5 rfl (by decide) ?_
              refine s_icmp_ge (n := 10) (tgt := 32) dX4_isSuch_7 rfl rfl (fun b7 => ?_) (fun b7 => ?_)
              · exact absurd b7 (by decide)
              · refine s_iload_n (n := 11) (i := 2) dX4_isSuch_10 rfl rfl rfl ?_
                refine s_iconst (n := 12) (v := (-1)) dX4_isSuch_11 rfl (by decide) ?_
                refine s_icmp_eq (n := 15) (tgt := 32) dX4_isSuch_12 rfl rfl (fun b12 => ?_) (fun b12 => ?_)
                · exact absurd b12 (by decide)
                · refine s_iload_n (n := 16) (i := 2) dX4_isSuch_15 rfl rfl rfl ?_
                  refine s_iload_n (n := 17) (i := 1) dX4_isSuch_16 rfl rfl rfl ?_
                  refine s_icmp_eq (n := 20) (tgt := 32) dX4_isSuch_17 rfl rfl (fun b17 => ?_) (fun b17 => ?_)
                  · exact absurd b17 (by decide)
                  · refine s_gets1 (n := 23) dX4_isSuch_20 rfl wd_X4_286 ?_
                    refine s_iload_n (n := 24) (i := 2) dX4_isSuch_23 rfl rfl rfl ?_
                    refine s_tald (t := 1) (by omega) (by omega) (n := 25) dX4_isSuch_24 rfl (mj_ixe (j := 0) (by decide) (by omega)) ?_
                    refine s_istore_n (n := 26) (i := 2) (ls' := [_, _, _, _]) dX4_isSuch_25 rfl rfl rfl rfl rfl ?_
                    refine s_iinc (n := 29) (v := _ + 1) (ls' := [_, _, _, _]) dX4_isSuch_26 rfl rfl rfl rfl rfl ?_
                    refine s_goto (tgt := 4) dX4_isSuch_29 rfl ?_
                    refine s_iload_n (n := 5) (i := 3) dX4_isSuch_4 rfl rfl rfl ?_
                    refine s_bipush (n := 7) (v := 6) dX4_isSuch_5 rfl (by decide) ?_
                    refine s_icmp_ge (n := 10) (tgt := 32) dX4_isSuch_7 rfl rfl (fun b7 => ?_) (fun b7 => ?_)
                    · exact absurd b7 (by decide)
                    · refine s_iload_n (n := 11) (i := 2) dX4_isSuch_10 rfl rfl rfl ?_
                      refine s_iconst (n := 12) (v := (-1)) dX4_isSuch_11 rfl (by decide) ?_
                      refine s_icmp_eq (n := 15) (tgt := 32) dX4_isSuch_12 rfl rfl (fun b12 => ?_) (fun b12 => ?_)
                      · refine s_iload_n (n := 33) (i := 2) dX4_isSuch_32 rfl rfl rfl ?_
                        refine s_iload_n (n := 34) (i := 1) dX4_isSuch_33 rfl rfl rfl ?_
                        refine s_icmp_ne (n := 37) (tgt := 41) dX4_isSuch_34 rfl rfl (fun b34 => ?_) (fun b34 => ?_)
                        · refine s_iconst (n := 42) (v := 0) dX4_isSuch_41 rfl (by decide) ?_
                          refine s_ireturn dX4_isSuch_42 rfl (rfl) (Nat.le_refl _) (Nat.le_refl _) ?_
                          exact ⟨rfl, rfl⟩
                        · exact absurd b34 (by decide)
                      · exact absurd b12 (by decide)
set_option maxRecDepth 100000 in
set_option maxHeartbeats 4000000 in
theorem c_such_2_5 {G : mj_G} {h : mj_H} {d : Nat} : mj_con G MX4_isSuch d 0 0 [.int 2, .int 5] h (rI 0 h) := by
  refine mj_conS okX4_isSuch (ls := [some (.int 2), some (.int 5), none, none]) rfl rfl ?_
  refine s_iload_n (n := 1) (i := 0) dX4_isSuch_0 rfl rfl rfl ?_
  refine s_istore_n (n := 2) (i := 2) (ls' := [_, _, _, _]) dX4_isSuch_1 rfl rfl rfl rfl rfl ?_
  refine s_iconst (n := 3) (v := 0) dX4_isSuch_2 rfl (by decide) ?_
  refine s_istore_n (n := 4) (i := 3) (ls' := [_, _, _, _]) dX4_isSuch_3 rfl rfl rfl rfl rfl ?_
  refine s_iload_n (n := 5) (i := 3) dX4_isSuch_4 rfl rfl rfl ?_
  refine s_bipush (n := 7) (v := 6) dX4_isSuch_5 rfl (by decide) ?_
  refine s_icmp_ge (n := 10) (tgt := 32) dX4_isSuch_7 rfl rfl (fun b7 => ?_) (fun b7 => ?_)
  · exact absurd b7 (by decide)
  · refine s_iload_n (n := 11) (i := 2) dX4_isSuch_10 rfl rfl rfl ?_
    refine s_iconst (n := 12) (v := (-1)) dX4_isSuch_11 rfl (by decide) ?_
    refine s_icmp_eq (n := 15) (tgt := 32) dX4_isSuch_12 rfl rfl (fun b12 => ?_) (fun b12 => ?_)
    · exact absurd b12 (by decide)
    · refine s_iload_n (n := 16) (i := 2) dX4_isSuch_15 rfl rfl rfl ?_
      refine s_iload_n (n := 17) (i := 1) dX4_isSuch_16 rfl rfl rfl ?_
      refine s_icmp_eq (n := 20) (tgt := 32) dX4_isSuch_17 rfl rfl (fun b17 => ?_) (fun b17 => ?_)
      · exact absurd b17 (by decide)
      · refine s_gets1 (n := 23) dX4_isSuch_20 rfl wd_X4_286 ?_
        refine s_iload_n (n := 24) (i := 2) dX4_isSuch_23 rfl rfl rfl ?_
        refine s_tald (t := 1) (by omega) (by omega) (n := 25) dX4_isSuch_24 rfl (mj_ixe (j := 2) (by decide) (by omega)) ?_
        refine s_istore_n (n := 26) (i := 2) (ls' := [_, _, _, _]) dX4_isSuch_25 rfl rfl rfl rfl rfl ?_
        refine s_iinc (n := 29) (v := _ + 1) (ls' := [_, _, _, _]) dX4_isSuch_26 rfl rfl rfl rfl rfl ?_
        refine s_goto (tgt := 4) dX4_isSuch_29 rfl ?_
        refine s_iload_n (n := 5) (i := 3) dX4_isSuch_4 rfl rfl rfl ?_
        refine s_bipush (n := 7) (v := 6) dX4_isSuch_5 rfl (by decide) ?_
        refine s_icmp_ge (n := 10) (tgt := 32) dX4_isSuch_7 rfl rfl (fun b7 => ?_) (fun b7 => ?_)
        · exact absurd b7 (by decide)
        · refine s_iload_n (n := 11) (i := 2) dX4_isSuch_10 rfl rfl rfl ?_
          refine s_iconst (n := 12) (v := (-1)) dX4_isSuch_11 rfl (by decide) ?_
          refine s_icmp_eq (n := 15) (tgt := 32) dX4_isSuch_12 rfl rfl (fun b12 => ?_) (fun b12 => ?_)
          · exact absurd b12 (by decide)
          · refine s_iload_n (n := 16) (i := 2) dX4_isSuch_15 rfl rfl rfl ?_
            refine s_iload_n (n := 17) (i := 1) dX4_isSuch_16 rfl rfl rfl ?_
            refine s_icmp_eq (n := 20) (tgt := 32) dX4_isSuch_17 rfl rfl (fun b17 => ?_) (fun b17 => ?_)
            · exact absurd b17 (by decide)
            · refine s_gets1 (n := 23) dX4_isSuch_20 rfl wd_X4_286 ?_
              refine s_iload_n (n := 24) (i := 2) dX4_isSuch_23 rfl rfl rfl ?_
              refine s_tald (t := 1) (by omega) (by omega) (n := 25) dX4_isSuch_24 rfl (mj_ixe (j := 1) (by decide) (by omega)) ?_
              refine s_istore_n (n := 26) (i := 2) (ls' := [_, _, _, _]) dX4_isSuch_25 rfl rfl rfl rfl rfl ?_
              refine s_iinc (n := 29) (v := _ + 1) (ls' := [_, _, _, _]) dX4_isSuch_26 rfl rfl rfl rfl rfl ?_
              refine s_goto (tgt := 4) dX4_isSuch_29 rfl ?_
              refine s_iload_n (n := 5) (i := 3) dX4_isSuch_4 rfl rfl rfl ?_
              refine s_bipush (n := 7) (v := 6) dX4_isSuch_5 rfl (by decide) ?_
              refine s_icmp_ge (n := 10) (tgt := 32) dX4_isSuch_7 rfl rfl (fun b7 => ?_) (fun b7 => ?_)
              · exact absurd b7 (by decide)
              · refine s_iload_n (n := 11) (i := 2) dX4_isSuch_10 rfl rfl rfl ?_
                refine s_iconst (n := 12) (v := (-1)) dX4_isSuch_11 rfl (by decide) ?_
                refine s_icmp_eq (n := 15) (tgt := 32) dX4_isSuch_12 rfl rfl (fun b12 => ?_) (fun b12 => ?_)
                · exact absurd b12 (by decide)
                · refine s_iload_n (n := 16) (i := 2) dX4_isSuch_15 rfl rfl rfl ?_
                  refine s_iload_n (n := 17) (i := 1) dX4_isSuch_16 rfl rfl rfl ?_
                  refine s_icmp_eq (n := 20) (tgt := 32) dX4_isSuch_17 rfl rfl (fun b17 => ?_) (fun b17 => ?_)
                  · exact absurd b17 (by decide)
                  · refine s_gets1 (n := 23) dX4_isSuch_20 rfl wd_X4_286 ?_
                    refine s_iload_n (n := 24) (i := 2) dX4_isSuch_23 rfl rfl rfl ?_
                    refine s_tald (t := 1) (by omega) (by omega) (n := 25) dX4_isSuch_24 rfl (mj_ixe (j := 0) (by decide) (by omega)) ?_
                    refine s_istore_n (n := 26) (i := 2) (ls' := [_, _, _, _]) dX4_isSuch_25 rfl rfl rfl rfl rfl ?_
                    refine s_iinc (n := 29) (v := _ + 1) (ls' := [_, _, _, _]) dX4_isSuch_26 rfl rfl rfl rfl rfl ?_
                    refine s_goto (tgt := 4) dX4_isSuch_29 rfl ?_
                    refine s_iload_n (n := 5) (i := 3) dX4_isSuch_4 rfl rfl rfl ?_
                    refine s_bipush (n := 7) (v := 6) dX4_isSuch_5 rfl (by decide) ?_
                    refine s_icmp_ge (n := 10) (tgt := 32) dX4_isSuch_7 rfl rfl (fun b7 => ?_) (fun b7 => ?_)
                    · exact absurd b7 (by decide)
                    · refine s_iload_n (n := 11) (i := 2) dX4_isSuch_10 rfl rfl rfl ?_
                      refine s_iconst (n := 12) (v := (-1)) dX4_isSuch_11 rfl (by decide) ?_
                      refine s_icmp_eq (n := 15) (tgt := 32) dX4_isSuch_12 rfl rfl (fun b12 => ?_) (fun b12 => ?_)
                      · refine s_iload_n (n := 33) (i := 2) dX4_isSuch_32 rfl rfl rfl ?_
                        refine s_iload_n (n := 34) (i := 1) dX4_isSuch_33 rfl rfl rfl ?_
                        refine s_icmp_ne (n := 37) (tgt := 41) dX4_isSuch_34 rfl rfl (fun b34 => ?_) (fun b34 => ?_)
                        · refine s_iconst (n := 42) (v := 0) dX4_isSuch_41 rfl (by decide) ?_
                          refine s_ireturn dX4_isSuch_42 rfl (rfl) (Nat.le_refl _) (Nat.le_refl _) ?_
                          exact ⟨rfl, rfl⟩
                        · exact absurd b34 (by decide)
                      · exact absurd b12 (by decide)
set_option maxRecDepth 100000 in
set_option maxHeartbeats 4000000 in
theorem c_such_3_0 {G : mj_G} {h : mj_H} {d : Nat} : mj_con G MX4_isSuch d 0 0 [.int 3, .int 0] h (rI 1 h) := by
  refine mj_conS okX4_isSuch (ls := [some (.int 3), some (.int 0), none, none]) rfl rfl ?_
  refine s_iload_n (n := 1) (i := 0) dX4_isSuch_0 rfl rfl rfl ?_
  refine s_istore_n (n := 2) (i := 2) (ls' := [_, _, _, _]) dX4_isSuch_1 rfl rfl rfl rfl rfl ?_
  refine s_iconst (n := 3) (v := 0) dX4_isSuch_2 rfl (by decide) ?_
  refine s_istore_n (n := 4) (i := 3) (ls' := [_, _, _, _]) dX4_isSuch_3 rfl rfl rfl rfl rfl ?_
  refine s_iload_n (n := 5) (i := 3) dX4_isSuch_4 rfl rfl rfl ?_
  refine s_bipush (n := 7) (v := 6) dX4_isSuch_5 rfl (by decide) ?_
  refine s_icmp_ge (n := 10) (tgt := 32) dX4_isSuch_7 rfl rfl (fun b7 => ?_) (fun b7 => ?_)
  · exact absurd b7 (by decide)
  · refine s_iload_n (n := 11) (i := 2) dX4_isSuch_10 rfl rfl rfl ?_
    refine s_iconst (n := 12) (v := (-1)) dX4_isSuch_11 rfl (by decide) ?_
    refine s_icmp_eq (n := 15) (tgt := 32) dX4_isSuch_12 rfl rfl (fun b12 => ?_) (fun b12 => ?_)
    · exact absurd b12 (by decide)
    · refine s_iload_n (n := 16) (i := 2) dX4_isSuch_15 rfl rfl rfl ?_
      refine s_iload_n (n := 17) (i := 1) dX4_isSuch_16 rfl rfl rfl ?_
      refine s_icmp_eq (n := 20) (tgt := 32) dX4_isSuch_17 rfl rfl (fun b17 => ?_) (fun b17 => ?_)
      · exact absurd b17 (by decide)
      · refine s_gets1 (n := 23) dX4_isSuch_20 rfl wd_X4_286 ?_
        refine s_iload_n (n := 24) (i := 2) dX4_isSuch_23 rfl rfl rfl ?_
        refine s_tald (t := 1) (by omega) (by omega) (n := 25) dX4_isSuch_24 rfl (mj_ixe (j := 3) (by decide) (by omega)) ?_
        refine s_istore_n (n := 26) (i := 2) (ls' := [_, _, _, _]) dX4_isSuch_25 rfl rfl rfl rfl rfl ?_
        refine s_iinc (n := 29) (v := _ + 1) (ls' := [_, _, _, _]) dX4_isSuch_26 rfl rfl rfl rfl rfl ?_
        refine s_goto (tgt := 4) dX4_isSuch_29 rfl ?_
        refine s_iload_n (n := 5) (i := 3) dX4_isSuch_4 rfl rfl rfl ?_
        refine s_bipush (n := 7) (v := 6) dX4_isSuch_5 rfl (by decide) ?_
        refine s_icmp_ge (n := 10) (tgt := 32) dX4_isSuch_7 rfl rfl (fun b7 => ?_) (fun b7 => ?_)
        · exact absurd b7 (by decide)
        · refine s_iload_n (n := 11) (i := 2) dX4_isSuch_10 rfl rfl rfl ?_
          refine s_iconst (n := 12) (v := (-1)) dX4_isSuch_11 rfl (by decide) ?_
          refine s_icmp_eq (n := 15) (tgt := 32) dX4_isSuch_12 rfl rfl (fun b12 => ?_) (fun b12 => ?_)
          · exact absurd b12 (by decide)
          · refine s_iload_n (n := 16) (i := 2) dX4_isSuch_15 rfl rfl rfl ?_
            refine s_iload_n (n := 17) (i := 1) dX4_isSuch_16 rfl rfl rfl ?_
            refine s_icmp_eq (n := 20) (tgt := 32) dX4_isSuch_17 rfl rfl (fun b17 => ?_) (fun b17 => ?_)
            · exact absurd b17 (by decide)
            · refine s_gets1 (n := 23) dX4_isSuch_20 rfl wd_X4_286 ?_
              refine s_iload_n (n := 24) (i := 2) dX4_isSuch_23 rfl rfl rfl ?_
              refine s_tald (t := 1) (by omega) (by omega) (n := 25) dX4_isSuch_24 rfl (mj_ixe (j := 1) (by decide) (by omega)) ?_
              refine s_istore_n (n := 26) (i := 2) (ls' := [_, _, _, _]) dX4_isSuch_25 rfl rfl rfl rfl rfl ?_
              refine s_iinc (n := 29) (v := _ + 1) (ls' := [_, _, _, _]) dX4_isSuch_26 rfl rfl rfl rfl rfl ?_
              refine s_goto (tgt := 4) dX4_isSuch_29 rfl ?_
              refine s_iload_n (n := 5) (i := 3) dX4_isSuch_4 rfl rfl rfl ?_
              refine s_bipush (n := 7) (v := 6) dX4_isSuch_5 rfl (by decide) ?_
              refine s_icmp_ge (n := 10) (tgt := 32) dX4_isSuch_7 rfl rfl (fun b7 => ?_) (fun b7 => ?_)
              · exact absurd b7 (by decide)
              · refine s_iload_n (n := 11) (i := 2) dX4_isSuch_10 rfl rfl rfl ?_
                refine s_iconst (n := 12) (v := (-1)) dX4_isSuch_11 rfl (by decide) ?_
                refine s_icmp_eq (n := 15) (tgt := 32) dX4_isSuch_12 rfl rfl (fun b12 => ?_) (fun b12 => ?_)
                · exact absurd b12 (by decide)
                · refine s_iload_n (n := 16) (i := 2) dX4_isSuch_15 rfl rfl rfl ?_
                  refine s_iload_n (n := 17) (i := 1) dX4_isSuch_16 rfl rfl rfl ?_
                  refine s_icmp_eq (n := 20) (tgt := 32) dX4_isSuch_17 rfl rfl (fun b17 => ?_) (fun b17 => ?_)
                  · refine s_iload_n (n := 33) (i := 2) dX4_isSuch_32 rfl rfl rfl ?_
                    refine s_iload_n (n := 34) (i := 1) dX4_isSuch_33 rfl rfl rfl ?_
                    refine s_icmp_ne (n := 37) (tgt := 41) dX4_isSuch_34 rfl rfl (fun b34 => ?_) (fun b34 => ?_)
                    · exact absurd b34 (by decide)
                    · refine s_iconst (n := 38) (v := 1) dX4_isSuch_37 rfl (by decide) ?_
                      refine s_goto (tgt := 42) dX4_isSuch_38 rfl ?_
                      refine s_ireturn dX4_isSuch_42 rfl (rfl) (Nat.le_refl _) (Nat.le_refl _) ?_
                      exact ⟨rfl, rfl⟩
                  · exact absurd b17 (by decide)
set_option maxRecDepth 100000 in
set_option maxHeartbeats 4000000 in
theorem c_such_3_1 {G : mj_G} {h : mj_H} {d : Nat} : mj_con G MX4_isSuch d 0 0 [.int 3, .int 1] h (rI 1 h) := by
  refine mj_conS okX4_isSuch (ls := [some (.int 3), some (.int 1), none, none]) rfl rfl ?_
  refine s_iload_n (n := 1) (i := 0) dX4_isSuch_0 rfl rfl rfl ?_
  refine s_istore_n (n := 2) (i := 2) (ls' := [_, _, _, _]) dX4_isSuch_1 rfl rfl rfl rfl rfl ?_
  refine s_iconst (n := 3) (v := 0) dX4_isSuch_2 rfl (by decide) ?_
  refine s_istore_n (n := 4) (i := 3) (ls' := [_, _, _, _]) dX4_isSuch_3 rfl rfl rfl rfl rfl ?_
  refine s_iload_n (n := 5) (i := 3) dX4_isSuch_4 rfl rfl rfl ?_
  refine s_bipush (n := 7) (v := 6) dX4_isSuch_5 rfl (by decide) ?_
  refine s_icmp_ge (n := 10) (tgt := 32) dX4_isSuch_7 rfl rfl (fun b7 => ?_) (fun b7 => ?_)
  · exact absurd b7 (by decide)
  · refine s_iload_n (n := 11) (i := 2) dX4_isSuch_10 rfl rfl rfl ?_
    refine s_iconst (n := 12) (v := (-1)) dX4_isSuch_11 rfl (by decide) ?_
    refine s_icmp_eq (n := 15) (tgt := 32) dX4_isSuch_12 rfl rfl (fun b12 => ?_) (fun b12 => ?_)
    · exact absurd b12 (by decide)
    · refine s_iload_n (n := 16) (i := 2) dX4_isSuch_15 rfl rfl rfl ?_
      refine s_iload_n (n := 17) (i := 1) dX4_isSuch_16 rfl rfl rfl ?_
      refine s_icmp_eq (n := 20) (tgt := 32) dX4_isSuch_17 rfl rfl (fun b17 => ?_) (fun b17 => ?_)
      · exact absurd b17 (by decide)
      · refine s_gets1 (n := 23) dX4_isSuch_20 rfl wd_X4_286 ?_
        refine s_iload_n (n := 24) (i := 2) dX4_isSuch_23 rfl rfl rfl ?_
        refine s_tald (t := 1) (by omega) (by omega) (n := 25) dX4_isSuch_24 rfl (mj_ixe (j := 3) (by decide) (by omega)) ?_
        refine s_istore_n (n := 26) (i := 2) (ls' := [_, _, _, _]) dX4_isSuch_25 rfl rfl rfl rfl rfl ?_
        refine s_iinc (n := 29) (v := _ + 1) (ls' := [_, _, _, _]) dX4_isSuch_26 rfl rfl rfl rfl rfl ?_
        refine s_goto (tgt := 4) dX4_isSuch_29 rfl ?_
        refine s_iload_n (n := 5) (i := 3) dX4_isSuch_4 rfl rfl rfl ?_
        refine s_bipush (n := 7) (v := 6) dX4_isSuch_5 rfl (by decide) ?_
        refine s_icmp_ge (n := 10) (tgt := 32) dX4_isSuch_7 rfl rfl (fun b7 => ?_) (fun b7 => ?_)
        · exact absurd b7 (by decide)
        · refine s_iload_n (n := 11) (i := 2) dX4_isSuch_10 rfl rfl rfl ?_
          refine s_iconst (n := 12) (v := (-1)) dX4_isSuch_11 rfl (by decide) ?_
          refine s_icmp_eq (n := 15) (tgt := 32) dX4_isSuch_12 rfl rfl (fun b12 => ?_) (fun b12 => ?_)
          · exact absurd b12 (by decide)
          · refine s_iload_n (n := 16) (i := 2) dX4_isSuch_15 rfl rfl rfl ?_
            refine s_iload_n (n := 17) (i := 1) dX4_isSuch_16 rfl rfl rfl ?_
            refine s_icmp_eq (n := 20) (tgt := 32) dX4_isSuch_17 rfl rfl (fun b17 => ?_) (fun b17 => ?_)
            · refine s_iload_n (n := 33) (i := 2) dX4_isSuch_32 rfl rfl rfl ?_
              refine s_iload_n (n := 34) (i := 1) dX4_isSuch_33 rfl rfl rfl ?_
              refine s_icmp_ne (n := 37) (tgt := 41) dX4_isSuch_34 rfl rfl (fun b34 => ?_) (fun b34 => ?_)
              · exact absurd b34 (by decide)
              · refine s_iconst (n := 38) (v := 1) dX4_isSuch_37 rfl (by decide) ?_
                refine s_goto (tgt := 42) dX4_isSuch_38 rfl ?_
                refine s_ireturn dX4_isSuch_42 rfl (rfl) (Nat.le_refl _) (Nat.le_refl _) ?_
                exact ⟨rfl, rfl⟩
            · exact absurd b17 (by decide)
set_option maxRecDepth 100000 in
set_option maxHeartbeats 4000000 in
theorem c_such_3_2 {G : mj_G} {h : mj_H} {d : Nat} : mj_con G MX4_isSuch d 0 0 [.int 3, .int 2] h (rI 0 h) := by
  refine mj_conS okX4_isSuch (ls := [some (.int 3), some (.int 2), none, none]) rfl rfl ?_
  refine s_iload_n (n := 1) (i := 0) dX4_isSuch_0 rfl rfl rfl ?_
  refine s_istore_n (n := 2) (i := 2) (ls' := [_, _, _, _]) dX4_isSuch_1 rfl rfl rfl rfl rfl ?_
  refine s_iconst (n := 3) (v := 0) dX4_isSuch_2 rfl (by decide) ?_
  refine s_istore_n (n := 4) (i := 3) (ls' := [_, _, _, _]) dX4_isSuch_3 rfl rfl rfl rfl rfl ?_
  refine s_iload_n (n := 5) (i := 3) dX4_isSuch_4 rfl rfl rfl ?_
  refine s_bipush (n := 7) (v := 6) dX4_isSuch_5 rfl (by decide) ?_
  refine s_icmp_ge (n := 10) (tgt := 32) dX4_isSuch_7 rfl rfl (fun b7 => ?_) (fun b7 => ?_)
  · exact absurd b7 (by decide)
  · refine s_iload_n (n := 11) (i := 2) dX4_isSuch_10 rfl rfl rfl ?_
    refine s_iconst (n := 12) (v := (-1)) dX4_isSuch_11 rfl (by decide) ?_
    refine s_icmp_eq (n := 15) (tgt := 32) dX4_isSuch_12 rfl rfl (fun b12 => ?_) (fun b12 => ?_)
    · exact absurd b12 (by decide)
    · refine s_iload_n (n := 16) (i := 2) dX4_isSuch_15 rfl rfl rfl ?_
      refine s_iload_n (n := 17) (i := 1) dX4_isSuch_16 rfl rfl rfl ?_
      refine s_icmp_eq (n := 20) (tgt := 32) dX4_isSuch_17 rfl rfl (fun b17 => ?_) (fun b17 => ?_)
      · exact absurd b17 (by decide)
      · refine s_gets1 (n := 23) dX4_isSuch_20 rfl wd_X4_286 ?_
        refine s_iload_n (n := 24) (i := 2) dX4_isSuch_23 rfl rfl rfl ?_
        refine s_tald (t := 1) (by omega) (by omega) (n := 25) dX4_isSuch_24 rfl (mj_ixe (j := 3) (by decide) (by omega)) ?_
        refine s_istore_n (n := 26) (i := 2) (ls' := [_, _, _, _]) dX4_isSuch_25 rfl rfl rfl rfl rfl ?_
        refine s_iinc (n := 29) (v := _ + 1) (ls' := [_, _, _, _]) dX4_isSuch_26 rfl rfl rfl rfl rfl ?_
        refine s_goto (tgt := 4) dX4_isSuch_29 rfl ?_
        refine s_iload_n (n := 5) (i := 3) dX4_isSuch_4 rfl rfl rfl ?_
        refine s_bipush (n := 7) (v := 6) dX4_isSuch_5 rfl (by decide) ?_
        refine s_icmp_ge (n := 10) (tgt := 32) dX4_isSuch_7 rfl rfl (fun b7 => ?_) (fun b7 => ?_)
        · exact absurd b7 (by decide)
        · refine s_iload_n (n := 11) (i := 2) dX4_isSuch_10 rfl rfl rfl ?_
          refine s_iconst (n := 12) (v := (-1)) dX4_isSuch_11 rfl (by decide) ?_
          refine s_icmp_eq (n := 15) (tgt := 32) dX4_isSuch_12 rfl rfl (fun b12 => ?_) (fun b12 => ?_)
          · exact absurd b12 (by decide)
          · refine s_iload_n (n := 16) (i := 2) dX4_isSuch_15 rfl rfl rfl ?_
            refine s_iload_n (n := 17) (i := 1) dX4_isSuch_16 rfl rfl rfl ?_
            refine s_icmp_eq (n := 20) (tgt := 32) dX4_isSuch_17 rfl rfl (fun b17 => ?_) (fun b17 => ?_)
            · exact absurd b17 (by decide)
            · refine s_gets1 (n := 23) dX4_isSuch_20 rfl wd_X4_286 ?_
              refine s_iload_n (n := 24) (i := 2) dX4_isSuch_23 rfl rfl rfl ?_
              refine s_tald (t := 1) (by omega) (by omega) (n := 25) dX4_isSuch_24 rfl (mj_ixe (j := 1) (by decide) (by omega)) ?_
              refine s_istore_n (n := 26) (i := 2) (ls' := [_, _, _, _]) dX4_isSuch_25 rfl rfl rfl rfl rfl ?_
              refine s_iinc (n := 29) (v := _ + 1) (ls' := [_, _, _, _]) dX4_isSuch_26 rfl rfl rfl rfl rfl ?_
              refine s_goto (tgt := 4) dX4_isSuch_29 rfl ?_
              refine s_iload_n (n := 5) (i := 3) dX4_isSuch_4 rfl rfl rfl ?_
              refine s_bipush (n := 7) (v := 6) dX4_isSuch_5 rfl (by decide) ?_
              refine s_icmp_ge (n := 10) (tgt := 32) dX4_isSuch_7 rfl rfl (fun b7 => ?_) (fun b7 => ?_)
              · exact absurd b7 (by decide)
              · refine s_iload_n (n := 11) (i := 2) dX4_isSuch_10 rfl rfl rfl ?_
                refine s_iconst (n := 12) (v := (-1)) dX4_isSuch_11 rfl (by decide) ?_
                refine s_icmp_eq (n := 15) (tgt := 32) dX4_isSuch_12 rfl rfl (fun b12 => ?_) (fun b12 => ?_)
                · exact absurd b12 (by decide)
                · refine s_iload_n (n := 16) (i := 2) dX4_isSuch_15 rfl rfl rfl ?_
                  refine s_iload_n (n := 17) (i := 1) dX4_isSuch_16 rfl rfl rfl ?_
                  refine s_icmp_eq (n := 20) (tgt := 32) dX4_isSuch_17 rfl rfl (fun b17 => ?_) (fun b17 => ?_)
                  · exact absurd b17 (by decide)
                  · refine s_gets1 (n := 23) dX4_isSuch_20 rfl wd_X4_286 ?_
                    refine s_iload_n (n := 24) (i := 2) dX4_isSuch_23 rfl rfl rfl ?_
                    refine s_tald (t := 1) (by omega) (by omega) (n := 25) dX4_isSuch_24 rfl (mj_ixe (j := 0) (by decide) (by omega)) ?_
                    refine s_istore_n (n := 26) (i := 2) (ls' := [_, _, _, _]) dX4_isSuch_25 rfl rfl rfl rfl rfl ?_
                    refine s_iinc (n := 29) (v := _ + 1) (ls' := [_, _, _, _]) dX4_isSuch_26 rfl rfl rfl rfl rfl ?_
                    refine s_goto (tgt := 4) dX4_isSuch_29 rfl ?_
                    refine s_iload_n (n := 5) (i := 3) dX4_isSuch_4 rfl rfl rfl ?_
                    refine s_bipush (n := 7) (v := 6) dX4_isSuch_5 rfl (by decide) ?_
                    refine s_icmp_ge (n := 10) (tgt := 32) dX4_isSuch_7 rfl rfl (fun b7 => ?_) (fun b7 => ?_)
                    · exact absurd b7 (by decide)
                    · refine s_iload_n (n := 11) (i := 2) dX4_isSuch_10 rfl rfl rfl ?_
                      refine s_iconst (n := 12) (v := (-1)) dX4_isSuch_11 rfl (by decide) ?_
                      refine s_icmp_eq (n := 15) (tgt := 32) dX4_isSuch_12 rfl rfl (fun b12 => ?_) (fun b12 => ?_)
                      · refine s_iload_n (n := 33) (i := 2) dX4_isSuch_32 rfl rfl rfl ?_
                        refine s_iload_n (n := 34) (i := 1) dX4_isSuch_33 rfl rfl rfl ?_
                        refine s_icmp_ne (n := 37) (tgt := 41) dX4_isSuch_34 rfl rfl (fun b34 => ?_) (fun b34 => ?_)
                        · refine s_iconst (n := 42) (v := 0) dX4_isSuch_41 rfl (by decide) ?_
                          refine s_ireturn dX4_isSuch_42 rfl (rfl) (Nat.le_refl _) (Nat.le_refl _) ?_
                          exact ⟨rfl, rfl⟩
                        · exact absurd b34 (by decide)
                      · exact absurd b12 (by decide)
set_option maxRecDepth 100000 in
set_option maxHeartbeats 4000000 in
theorem c_such_3_3 {G : mj_G} {h : mj_H} {d : Nat} : mj_con G MX4_isSuch d 0 0 [.int 3, .int 3] h (rI 1 h) := by
  refine mj_conS okX4_isSuch (ls := [some (.int 3), some (.int 3), none, none]) rfl rfl ?_
  refine s_iload_n (n := 1) (i := 0) dX4_isSuch_0 rfl rfl rfl ?_
  refine s_istore_n (n := 2) (i := 2) (ls' := [_, _, _, _]) dX4_isSuch_1 rfl rfl rfl rfl rfl ?_
  refine s_iconst (n := 3) (v := 0) dX4_isSuch_2 rfl (by decide) ?_
  refine s_istore_n (n := 4) (i := 3) (ls' := [_, _, _, _]) dX4_isSuch_3 rfl rfl rfl rfl rfl ?_
  refine s_iload_n (n := 5) (i := 3) dX4_isSuch_4 rfl rfl rfl ?_
  refine s_bipush (n := 7) (v := 6) dX4_isSuch_5 rfl (by decide) ?_
  refine s_icmp_ge (n := 10) (tgt := 32) dX4_isSuch_7 rfl rfl (fun b7 => ?_) (fun b7 => ?_)
  · exact absurd b7 (by decide)
  · refine s_iload_n (n := 11) (i := 2) dX4_isSuch_10 rfl rfl rfl ?_
    refine s_iconst (n := 12) (v := (-1)) dX4_isSuch_11 rfl (by decide) ?_
    refine s_icmp_eq (n := 15) (tgt := 32) dX4_isSuch_12 rfl rfl (fun b12 => ?_) (fun b12 => ?_)
    · exact absurd b12 (by decide)
    · refine s_iload_n (n := 16) (i := 2) dX4_isSuch_15 rfl rfl rfl ?_
      refine s_iload_n (n := 17) (i := 1) dX4_isSuch_16 rfl rfl rfl ?_
      refine s_icmp_eq (n := 20) (tgt := 32) dX4_isSuch_17 rfl rfl (fun b17 => ?_) (fun b17 => ?_)
      · refine s_iload_n (n := 33) (i := 2) dX4_isSuch_32 rfl rfl rfl ?_
        refine s_iload_n (n := 34) (i := 1) dX4_isSuch_33 rfl rfl rfl ?_
        refine s_icmp_ne (n := 37) (tgt := 41) dX4_isSuch_34 rfl rfl (fun b34 => ?_) (fun b34 => ?_)
        · exact absurd b34 (by decide)
        · refine s_iconst (n := 38) (v := 1) dX4_isSuch_37 rfl (by decide) ?_
          refine s_goto (tgt := 42) dX4_isSuch_38 rfl ?_
          refine s_ireturn dX4_isSuch_42 rfl (rfl) (Nat.le_refl _) (Nat.le_refl _) ?_
          exact ⟨rfl, rfl⟩
      · exact absurd b17 (by decide)
set_option maxRecDepth 100000 in
set_option maxHeartbeats 4000000 in
theorem c_such_3_4 {G : mj_G} {h : mj_H} {d : Nat} : mj_con G MX4_isSuch d 0 0 [.int 3, .int 4] h (rI 0 h) := by
  refine mj_conS okX4_isSuch (ls := [some (.int 3), some (.int 4), none, none]) rfl rfl ?_
  refine s_iload_n (n := 1) (i := 0) dX4_isSuch_0 rfl rfl rfl ?_
  refine s_istore_n (n := 2) (i := 2) (ls' := [_, _, _, _]) dX4_isSuch_1 rfl rfl rfl rfl rfl ?_
  refine s_iconst (n := 3) (v := 0) dX4_isSuch_2 rfl (by decide) ?_
  refine s_istore_n (n := 4) (i := 3) (ls' := [_, _, _, _]) dX4_isSuch_3 rfl rfl rfl rfl rfl ?_
  refine s_iload_n (n := 5) (i := 3) dX4_isSuch_4 rfl rfl rfl ?_
  refine s_bipush (n := 7) (v := 6) dX4_isSuch_5 rfl (by decide) ?_
  refine s_icmp_ge (n := 10) (tgt := 32) dX4_isSuch_7 rfl rfl (fun b7 => ?_) (fun b7 => ?_)
  · exact absurd b7 (by decide)
  · refine s_iload_n (n := 11) (i := 2) dX4_isSuch_10 rfl rfl rfl ?_
    refine s_iconst (n := 12) (v := (-1)) dX4_isSuch_11 rfl (by decide) ?_
    refine s_icmp_eq (n := 15) (tgt := 32) dX4_isSuch_12 rfl rfl (fun b12 => ?_) (fun b12 => ?_)
    · exact absurd b12 (by decide)
    · refine s_iload_n (n := 16) (i := 2) dX4_isSuch_15 rfl rfl rfl ?_
      refine s_iload_n (n := 17) (i := 1) dX4_isSuch_16 rfl rfl rfl ?_
      refine s_icmp_eq (n := 20) (tgt := 32) dX4_isSuch_17 rfl rfl (fun b17 => ?_) (fun b17 => ?_)
      · exact absurd b17 (by decide)
      · refine s_gets1 (n := 23) dX4_isSuch_20 rfl wd_X4_286 ?_
        refine s_iload_n (n := 24) (i := 2) dX4_isSuch_23 rfl rfl rfl ?_
        refine s_tald (t := 1) (by omega) (by omega) (n := 25) dX4_isSuch_24 rfl (mj_ixe (j := 3) (by decide) (by omega)) ?_
        refine s_istore_n (n := 26) (i := 2) (ls' := [_, _, _, _]) dX4_isSuch_25 rfl rfl rfl rfl rfl ?_
        refine s_iinc (n := 29) (v := _ + 1) (ls' := [_, _, _, _]) dX4_isSuch_26 rfl rfl rfl rfl rfl ?_
        refine s_goto (tgt := 4) dX4_isSuch_29 rfl ?_
        refine s_iload_n (n := 5) (i := 3) dX4_isSuch_4 rfl rfl rfl ?_
        refine s_bipush (n := 7) (v := 6) dX4_isSuch_5 rfl (by decide) ?_
        refine s_icmp_ge (n := 10) (tgt := 32) dX4_isSuch_7 rfl rfl (fun b7 => ?_) (fun b7 => ?_)
        · exact absurd b7 (by decide)
        · refine s_iload_n (n := 11) (i := 2) dX4_isSuch_10 rfl rfl rfl ?_
          refine s_iconst (n := 12) (v := (-1)) dX4_isSuch_11 rfl (by decide) ?_
          refine s_icmp_eq (n := 15) (tgt := 32) dX4_isSuch_12 rfl rfl (fun b12 => ?_) (fun b12 => ?_)
          · exact absurd b12 (by decide)
          · refine s_iload_n (n := 16) (i := 2) dX4_isSuch_15 rfl rfl rfl ?_
            refine s_iload_n (n := 17) (i := 1) dX4_isSuch_16 rfl rfl rfl ?_
            refine s_icmp_eq (n := 20) (tgt := 32) dX4_isSuch_17 rfl rfl (fun b17 => ?_) (fun b17 => ?_)
            · exact absurd b17 (by decide)
            · refine s_gets1 (n := 23) dX4_isSuch_20 rfl wd_X4_286 ?_
              refine s_iload_n (n := 24) (i := 2) dX4_isSuch_23 rfl rfl rfl ?_
              refine s_tald (t := 1) (by omega) (by omega) (n := 25) dX4_isSuch_24 rfl (mj_ixe (j := 1) (by decide) (by omega)) ?_
              refine s_istore_n (n := 26) (i := 2) (ls' := [_, _, _, _]) dX4_isSuch_25 rfl rfl rfl rfl rfl ?_
              refine s_iinc (n := 29) (v := _ + 1) (ls' := [_, _, _, _]) dX4_isSuch_26 rfl rfl rfl rfl rfl ?_
              refine s_goto (tgt := 4) dX4_isSuch_29 rfl ?_
              refine s_iload_n (n := 5) (i := 3) dX4_isSuch_4 rfl rfl rfl ?_
              refine s_bipush (n := 7) (v := 6) dX4_isSuch_5 rfl (by decide) ?_
              refine s_icmp_ge (n := 10) (tgt := 32) dX4_isSuch_7 rfl rfl (fun b7 => ?_) (fun b7 => ?_)
              · exact absurd b7 (by decide)
              · refine s_iload_n (n := 11) (i := 2) dX4_isSuch_10 rfl rfl rfl ?_
                refine s_iconst (n := 12) (v := (-1)) dX4_isSuch_11 rfl (by decide) ?_
                refine s_icmp_eq (n := 15) (tgt := 32) dX4_isSuch_12 rfl rfl (fun b12 => ?_) (fun b12 => ?_)
                · exact absurd b12 (by decide)
                · refine s_iload_n (n := 16) (i := 2) dX4_isSuch_15 rfl rfl rfl ?_
                  refine s_iload_n (n := 17) (i := 1) dX4_isSuch_16 rfl rfl rfl ?_
                  refine s_icmp_eq (n := 20) (tgt := 32) dX4_isSuch_17 rfl rfl (fun b17 => ?_) (fun b17 => ?_)
                  · exact absurd b17 (by decide)
                  · refine s_gets1 (n := 23) dX4_isSuch_20 rfl wd_X4_286 ?_
                    refine s_iload_n (n := 24) (i := 2) dX4_isSuch_23 rfl rfl rfl ?_
                    refine s_tald (t := 1) (by omega) (by omega) (n := 25) dX4_isSuch_24 rfl (mj_ixe (j := 0) (by decide) (by omega)) ?_
                    refine s_istore_n (n := 26) (i := 2) (ls' := [_, _, _, _]) dX4_isSuch_25 rfl rfl rfl rfl rfl ?_
                    refine s_iinc (n := 29) (v := _ + 1) (ls' := [_, _, _, _]) dX4_isSuch_26 rfl rfl rfl rfl rfl ?_
                    refine s_goto (tgt := 4) dX4_isSuch_29 rfl ?_
                    refine s_iload_n (n := 5) (i := 3) dX4_isSuch_4 rfl rfl rfl ?_
                    refine s_bipush (n := 7) (v := 6) dX4_isSuch_5 rfl (by decide) ?_
                    refine s_icmp_ge (n := 10) (tgt := 32) dX4_isSuch_7 rfl rfl (fun b7 => ?_) (fun b7 => ?_)
                    · exact absurd b7 (by decide)
                    · refine s_iload_n (n := 11) (i := 2) dX4_isSuch_10 rfl rfl rfl ?_
                      refine s_iconst (n := 12) (v := (-1)) dX4_isSuch_11 rfl (by decide) ?_
                      refine s_icmp_eq (n := 15) (tgt := 32) dX4_isSuch_12 rfl rfl (fun b12 => ?_) (fun b12 => ?_)
                      · refine s_iload_n (n := 33) (i := 2) dX4_isSuch_32 rfl rfl rfl ?_
                        refine s_iload_n (n := 34) (i := 1) dX4_isSuch_33 rfl rfl rfl ?_
                        refine s_icmp_ne (n := 37) (tgt := 41) dX4_isSuch_34 rfl rfl (fun b34 => ?_) (fun b34 => ?_)
                        · refine s_iconst (n := 42) (v := 0) dX4_isSuch_41 rfl (by decide) ?_
                          refine s_ireturn dX4_isSuch_42 rfl (rfl) (Nat.le_refl _) (Nat.le_refl _) ?_
                          exact ⟨rfl, rfl⟩
                        · exact absurd b34 (by decide)
                      · exact absurd b12 (by decide)
set_option maxRecDepth 100000 in
set_option maxHeartbeats 4000000 in
theorem c_such_3_5 {G : mj_G} {h : mj_H} {d : Nat} : mj_con G MX4_isSuch d 0 0 [.int 3, .int 5] h (rI 0 h) := by
  refine mj_conS okX4_isSuch (ls := [some (.int 3), some (.int 5), none, none]) rfl rfl ?_
  refine s_iload_n (n := 1) (i := 0) dX4_isSuch_0 rfl rfl rfl ?_
  refine s_istore_n (n := 2) (i := 2) (ls' := [_, _, _, _]) dX4_isSuch_1 rfl rfl rfl rfl rfl ?_
  refine s_iconst (n := 3) (v := 0) dX4_isSuch_2 rfl (by decide) ?_
  refine s_istore_n (n := 4) (i := 3) (ls' := [_, _, _, _]) dX4_isSuch_3 rfl rfl rfl rfl rfl ?_
  refine s_iload_n (n := 5) (i := 3) dX4_isSuch_4 rfl rfl rfl ?_
  refine s_bipush (n := 7) (v := 6) dX4_isSuch_5 rfl (by decide) ?_
  refine s_icmp_ge (n := 10) (tgt := 32) dX4_isSuch_7 rfl rfl (fun b7 => ?_) (fun b7 => ?_)
  · exact absurd b7 (by decide)
  · refine s_iload_n (n := 11) (i := 2) dX4_isSuch_10 rfl rfl rfl ?_
    refine s_iconst (n := 12) (v := (-1)) dX4_isSuch_11 rfl (by decide) ?_
    refine s_icmp_eq (n := 15) (tgt := 32) dX4_isSuch_12 rfl rfl (fun b12 => ?_) (fun b12 => ?_)
    · exact absurd b12 (by decide)
    · refine s_iload_n (n := 16) (i := 2) dX4_isSuch_15 rfl rfl rfl ?_
      refine s_iload_n (n := 17) (i := 1) dX4_isSuch_16 rfl rfl rfl ?_
      refine s_icmp_eq (n := 20) (tgt := 32) dX4_isSuch_17 rfl rfl (fun b17 => ?_) (fun b17 => ?_)
      · exact absurd b17 (by decide)
      · refine s_gets1 (n := 23) dX4_isSuch_20 rfl wd_X4_286 ?_
        refine s_iload_n (n := 24) (i := 2) dX4_isSuch_23 rfl rfl rfl ?_
        refine s_tald (t := 1) (by omega) (by omega) (n := 25) dX4_isSuch_24 rfl (mj_ixe (j := 3) (by decide) (by omega)) ?_
        refine s_istore_n (n := 26) (i := 2) (ls' := [_, _, _, _]) dX4_isSuch_25 rfl rfl rfl rfl rfl ?_
        refine s_iinc (n := 29) (v := _ + 1) (ls' := [_, _, _, _]) dX4_isSuch_26 rfl rfl rfl rfl rfl ?_
        refine s_goto (tgt := 4) dX4_isSuch_29 rfl ?_
        refine s_iload_n (n := 5) (i := 3) dX4_isSuch_4 rfl rfl rfl ?_
        refine s_bipush (n := 7) (v := 6) dX4_isSuch_5 rfl (by decide) ?_
        refine s_icmp_ge (n := 10) (tgt := 32) dX4_isSuch_7 rfl rfl (fun b7 => ?_) (fun b7 => ?_)
        · exact absurd b7 (by decide)
        · refine s_iload_n (n := 11) (i := 2) dX4_isSuch_10 rfl rfl rfl ?_
          refine s_iconst (n := 12) (v := (-1)) dX4_isSuch_11 rfl (by decide) ?_
          refine s_icmp_eq (n := 15) (tgt := 32) dX4_isSuch_12 rfl rfl (fun b12 => ?_) (fun b12 => ?_)
          · exact absurd b12 (by decide)
          · refine s_iload_n (n := 16) (i := 2) dX4_isSuch_15 rfl rfl rfl ?_
            refine s_iload_n (n := 17) (i := 1) dX4_isSuch_16 rfl rfl rfl ?_
            refine s_icmp_eq (n := 20) (tgt := 32) dX4_isSuch_17 rfl rfl (fun b17 => ?_) (fun b17 => ?_)
            · exact absurd b17 (by decide)
            · refine s_gets1 (n := 23) dX4_isSuch_20 rfl wd_X4_286 ?_
              refine s_iload_n (n := 24) (i := 2) dX4_isSuch_23 rfl rfl rfl ?_
              refine s_tald (t := 1) (by omega) (by omega) (n := 25) dX4_isSuch_24 rfl (mj_ixe (j := 1) (by decide) (by omega)) ?_
              refine s_istore_n (n := 26) (i := 2) (ls' := [_, _, _, _]) dX4_isSuch_25 rfl rfl rfl rfl rfl ?_
              refine s_iinc (n := 29) (v := _ + 1) (ls' := [_, _, _, _]) dX4_isSuch_26 rfl rfl rfl rfl rfl ?_
              refine s_goto (tgt := 4) dX4_isSuch_29 rfl ?_
              refine s_iload_n (n := 5) (i := 3) dX4_isSuch_4 rfl rfl rfl ?_
              refine s_bipush (n := 7) (v := 6) dX4_isSuch_5 rfl (by decide) ?_
              refine s_icmp_ge (n := 10) (tgt := 32) dX4_isSuch_7 rfl rfl (fun b7 => ?_) (fun b7 => ?_)
              · exact absurd b7 (by decide)
              · refine s_iload_n (n := 11) (i := 2) dX4_isSuch_10 rfl rfl rfl ?_
                refine s_iconst (n := 12) (v := (-1)) dX4_isSuch_11 rfl (by decide) ?_
                refine s_icmp_eq (n := 15) (tgt := 32) dX4_isSuch_12 rfl rfl (fun b12 => ?_) (fun b12 => ?_)
                · exact absurd b12 (by decide)
                · refine s_iload_n (n := 16) (i := 2) dX4_isSuch_15 rfl rfl rfl ?_
                  refine s_iload_n (n := 17) (i := 1) dX4_isSuch_16 rfl rfl rfl ?_
                  refine s_icmp_eq (n := 20) (tgt := 32) dX4_isSuch_17 rfl rfl (fun b17 => ?_) (fun b17 => ?_)
                  · exact absurd b17 (by decide)
                  · refine s_gets1 (n := 23) dX4_isSuch_20 rfl wd_X4_286 ?_
                    refine s_iload_n (n := 24) (i := 2) dX4_isSuch_23 rfl rfl rfl ?_
                    refine s_tald (t := 1) (by omega) (by omega) (n := 25) dX4_isSuch_24 rfl (mj_ixe (j := 0) (by decide) (by omega)) ?_
                    refine s_istore_n (n := 26) (i := 2) (ls' := [_, _, _, _]) dX4_isSuch_25 rfl rfl rfl rfl rfl ?_
                    refine s_iinc (n := 29) (v := _ + 1) (ls' := [_, _, _, _]) dX4_isSuch_26 rfl rfl rfl rfl rfl ?_
                    refine s_goto (tgt := 4) dX4_isSuch_29 rfl ?_
                    refine s_iload_n (n := 5) (i := 3) dX4_isSuch_4 rfl rfl rfl ?_
                    refine s_bipush (n := 7) (v := 6) dX4_isSuch_5 rfl (by decide) ?_
                    refine s_icmp_ge (n := 10) (tgt := 32) dX4_isSuch_7 rfl rfl (fun b7 => ?_) (fun b7 => ?_)
                    · exact absurd b7 (by decide)
                    · refine s_iload_n (n := 11) (i := 2) dX4_isSuch_10 rfl rfl rfl ?_
                      refine s_iconst (n := 12) (v := (-1)) dX4_isSuch_11 rfl (by decide) ?_
                      refine s_icmp_eq (n := 15) (tgt := 32) dX4_isSuch_12 rfl rfl (fun b12 => ?_) (fun b12 => ?_)
                      · refine s_iload_n (n := 33) (i := 2) dX4_isSuch_32 rfl rfl rfl ?_
                        refine s_iload_n (n := 34) (i := 1) dX4_isSuch_33 rfl rfl rfl ?_
                        refine s_icmp_ne (n := 37) (tgt := 41) dX4_isSuch_34 rfl rfl (fun b34 => ?_) (fun b34 => ?_)
                        · refine s_iconst (n := 42) (v := 0) dX4_isSuch_41 rfl (by decide) ?_
                          refine s_ireturn dX4_isSuch_42 rfl (rfl) (Nat.le_refl _) (Nat.le_refl _) ?_
                          exact ⟨rfl, rfl⟩
                        · exact absurd b34 (by decide)
                      · exact absurd b12 (by decide)
set_option maxRecDepth 100000 in
set_option maxHeartbeats 4000000 in
theorem c_such_4_0 {G : mj_G} {h : mj_H} {d : Nat} : mj_con G MX4_isSuch d 0 0 [.int 4, .int 0] h (rI 1 h) := by
  refine mj_conS okX4_isSuch (ls := [some (.int 4), some (.int 0), none, none]) rfl rfl ?_
  refine s_iload_n (n := 1) (i := 0) dX4_isSuch_0 rfl rfl rfl ?_
  refine s_istore_n (n := 2) (i := 2) (ls' := [_, _, _, _]) dX4_isSuch_1 rfl rfl rfl rfl rfl ?_
  refine s_iconst (n := 3) (v := 0) dX4_isSuch_2 rfl (by decide) ?_
  refine s_istore_n (n := 4) (i := 3) (ls' := [_, _, _, _]) dX4_isSuch_3 rfl rfl rfl rfl rfl ?_
  refine s_iload_n (n := 5) (i := 3) dX4_isSuch_4 rfl rfl rfl ?_
  refine s_bipush (n := 7) (v := 6) dX4_isSuch_5 rfl (by decide) ?_
  refine s_icmp_ge (n := 10) (tgt := 32) dX4_isSuch_7 rfl rfl (fun b7 => ?_) (fun b7 => ?_)
  · exact absurd b7 (by decide)
  · refine s_iload_n (n := 11) (i := 2) dX4_isSuch_10 rfl rfl rfl ?_
    refine s_iconst (n := 12) (v := (-1)) dX4_isSuch_11 rfl (by decide) ?_
    refine s_icmp_eq (n := 15) (tgt := 32) dX4_isSuch_12 rfl rfl (fun b12 => ?_) (fun b12 => ?_)
    · exact absurd b12 (by decide)
    · refine s_iload_n (n := 16) (i := 2) dX4_isSuch_15 rfl rfl rfl ?_
      refine s_iload_n (n := 17) (i := 1) dX4_isSuch_16 rfl rfl rfl ?_
      refine s_icmp_eq (n := 20) (tgt := 32) dX4_isSuch_17 rfl rfl (fun b17 => ?_) (fun b17 => ?_)
      · exact absurd b17 (by decide)
      · refine s_gets1 (n := 23) dX4_isSuch_20 rfl wd_X4_286 ?_
        refine s_iload_n (n := 24) (i := 2) dX4_isSuch_23 rfl rfl rfl ?_
        refine s_tald (t := 1) (by omega) (by omega) (n := 25) dX4_isSuch_24 rfl (mj_ixe (j := 4) (by decide) (by omega)) ?_
        refine s_istore_n (n := 26) (i := 2) (ls' := [_, _, _, _]) dX4_isSuch_25 rfl rfl rfl rfl rfl ?_
        refine s_iinc (n := 29) (v := _ + 1) (ls' := [_, _, _, _]) dX4_isSuch_26 rfl rfl rfl rfl rfl ?_
        refine s_goto (tgt := 4) dX4_isSuch_29 rfl ?_
        refine s_iload_n (n := 5) (i := 3) dX4_isSuch_4 rfl rfl rfl ?_
        refine s_bipush (n := 7) (v := 6) dX4_isSuch_5 rfl (by decide) ?_
        refine s_icmp_ge (n := 10) (tgt := 32) dX4_isSuch_7 rfl rfl (fun b7 => ?_) (fun b7 => ?_)
        · exact absurd b7 (by decide)
        · refine s_iload_n (n := 11) (i := 2) dX4_isSuch_10 rfl rfl rfl ?_
          refine s_iconst (n := 12) (v := (-1)) dX4_isSuch_11 rfl (by decide) ?_
          refine s_icmp_eq (n := 15) (tgt := 32) dX4_isSuch_12 rfl rfl (fun b12 => ?_) (fun b12 => ?_)
          · exact absurd b12 (by decide)
          · refine s_iload_n (n := 16) (i := 2) dX4_isSuch_15 rfl rfl rfl ?_
            refine s_iload_n (n := 17) (i := 1) dX4_isSuch_16 rfl rfl rfl ?_
            refine s_icmp_eq (n := 20) (tgt := 32) dX4_isSuch_17 rfl rfl (fun b17 => ?_) (fun b17 => ?_)
            · refine s_iload_n (n := 33) (i := 2) dX4_isSuch_32 rfl rfl rfl ?_
              refine s_iload_n (n := 34) (i := 1) dX4_isSuch_33 rfl rfl rfl ?_
              refine s_icmp_ne (n := 37) (tgt := 41) dX4_isSuch_34 rfl rfl (fun b34 => ?_) (fun b34 => ?_)
              · exact absurd b34 (by decide)
              · refine s_iconst (n := 38) (v := 1) dX4_isSuch_37 rfl (by decide) ?_
                refine s_goto (tgt := 42) dX4_isSuch_38 rfl ?_
                refine s_ireturn dX4_isSuch_42 rfl (rfl) (Nat.le_refl _) (Nat.le_refl _) ?_
                exact ⟨rfl, rfl⟩
            · exact absurd b17 (by decide)
set_option maxRecDepth 100000 in
set_option maxHeartbeats 4000000 in
theorem c_such_4_1 {G : mj_G} {h : mj_H} {d : Nat} : mj_con G MX4_isSuch d 0 0 [.int 4, .int 1] h (rI 0 h) := by
  refine mj_conS okX4_isSuch (ls := [some (.int 4), some (.int 1), none, none]) rfl rfl ?_
  refine s_iload_n (n := 1) (i := 0) dX4_isSuch_0 rfl rfl rfl ?_
  refine s_istore_n (n := 2) (i := 2) (ls' := [_, _, _, _]) dX4_isSuch_1 rfl rfl rfl rfl rfl ?_
  refine s_iconst (n := 3) (v := 0) dX4_isSuch_2 rfl (by decide) ?_
  refine s_istore_n (n := 4) (i := 3) (ls' := [_, _, _, _]) dX4_isSuch_3 rfl rfl rfl rfl rfl ?_
  refine s_iload_n (n := 5) (i := 3) dX4_isSuch_4 rfl rfl rfl ?_
  refine s_bipush (n := 7) (v := 6) dX4_isSuch_5 rfl (by decide) ?_
  refine s_icmp_ge (n := 10) (tgt := 32) dX4_isSuch_7 rfl rfl (fun b7 => ?_) (fun b7 => ?_)
  · exact absurd b7 (by decide)
  · refine s_iload_n (n := 11) (i := 2) dX4_isSuch_10 rfl rfl rfl ?_
    refine s_iconst (n := 12) (v := (-1)) dX4_isSuch_11 rfl (by decide) ?_
    refine s_icmp_eq (n := 15) (tgt := 32) dX4_isSuch_12 rfl rfl (fun b12 => ?_) (fun b12 => ?_)
    · exact absurd b12 (by decide)
    · refine s_iload_n (n := 16) (i := 2) dX4_isSuch_15 rfl rfl rfl ?_
      refine s_iload_n (n := 17) (i := 1) dX4_isSuch_16 rfl rfl rfl ?_
      refine s_icmp_eq (n := 20) (tgt := 32) dX4_isSuch_17 rfl rfl (fun b17 => ?_) (fun b17 => ?_)
      · exact absurd b17 (by decide)
      · refine s_gets1 (n := 23) dX4_isSuch_20 rfl wd_X4_286 ?_
        refine s_iload_n (n := 24) (i := 2) dX4_isSuch_23 rfl rfl rfl ?_
        refine s_tald (t := 1) (by omega) (by omega) (n := 25) dX4_isSuch_24 rfl (mj_ixe (j := 4) (by decide) (by omega)) ?_
        refine s_istore_n (n := 26) (i := 2) (ls' := [_, _, _, _]) dX4_isSuch_25 rfl rfl rfl rfl rfl ?_
        refine s_iinc (n := 29) (v := _ + 1) (ls' := [_, _, _, _]) dX4_isSuch_26 rfl rfl rfl rfl rfl ?_
        refine s_goto (tgt := 4) dX4_isSuch_29 rfl ?_
        refine s_iload_n (n := 5) (i := 3) dX4_isSuch_4 rfl rfl rfl ?_
        refine s_bipush (n := 7) (v := 6) dX4_isSuch_5 rfl (by decide) ?_
        refine s_icmp_ge (n := 10) (tgt := 32) dX4_isSuch_7 rfl rfl (fun b7 => ?_) (fun b7 => ?_)
        · exact absurd b7 (by decide)
        · refine s_iload_n (n := 11) (i := 2) dX4_isSuch_10 rfl rfl rfl ?_
          refine s_iconst (n := 12) (v := (-1)) dX4_isSuch_11 rfl (by decide) ?_
          refine s_icmp_eq (n := 15) (tgt := 32) dX4_isSuch_12 rfl rfl (fun b12 => ?_) (fun b12 => ?_)
          · exact absurd b12 (by decide)
          · refine s_iload_n (n := 16) (i := 2) dX4_isSuch_15 rfl rfl rfl ?_
            refine s_iload_n (n := 17) (i := 1) dX4_isSuch_16 rfl rfl rfl ?_
            refine s_icmp_eq (n := 20) (tgt := 32) dX4_isSuch_17 rfl rfl (fun b17 => ?_) (fun b17 => ?_)
            · exact absurd b17 (by decide)
            · refine s_gets1 (n := 23) dX4_isSuch_20 rfl wd_X4_286 ?_
              refine s_iload_n (n := 24) (i := 2) dX4_isSuch_23 rfl rfl rfl ?_
              refine s_tald (t := 1) (by omega) (by omega) (n := 25) dX4_isSuch_24 rfl (mj_ixe (j := 0) (by decide) (by omega)) ?_
              refine s_istore_n (n := 26) (i := 2) (ls' := [_, _, _, _]) dX4_isSuch_25 rfl rfl rfl rfl rfl ?_
              refine s_iinc (n := 29) (v := _ + 1) (ls' := [_, _, _, _]) dX4_isSuch_26 rfl rfl rfl rfl rfl ?_
              refine s_goto (tgt := 4) dX4_isSuch_29 rfl ?_
              refine s_iload_n (n := 5) (i := 3) dX4_isSuch_4 rfl rfl rfl ?_
              refine s_bipush (n := 7) (v := 6) dX4_isSuch_5 rfl (by decide) ?_
              refine s_icmp_ge (n := 10) (tgt := 32) dX4_isSuch_7 rfl rfl (fun b7 => ?_) (fun b7 => ?_)
              · exact absurd b7 (by decide)
              · refine s_iload_n (n := 11) (i := 2) dX4_isSuch_10 rfl rfl rfl ?_
                refine s_iconst (n := 12) (v := (-1)) dX4_isSuch_11 rfl (by decide) ?_
                refine s_icmp_eq (n := 15) (tgt := 32) dX4_isSuch_12 rfl rfl (fun b12 => ?_) (fun b12 => ?_)
                · refine s_iload_n (n := 33) (i := 2) dX4_isSuch_32 rfl rfl rfl ?_
                  refine s_iload_n (n := 34) (i := 1) dX4_isSuch_33 rfl rfl rfl ?_
                  refine s_icmp_ne (n := 37) (tgt := 41) dX4_isSuch_34 rfl rfl (fun b34 => ?_) (fun b34 => ?_)
                  · refine s_iconst (n := 42) (v := 0) dX4_isSuch_41 rfl (by decide) ?_
                    refine s_ireturn dX4_isSuch_42 rfl (rfl) (Nat.le_refl _) (Nat.le_refl _) ?_
                    exact ⟨rfl, rfl⟩
                  · exact absurd b34 (by decide)
                · exact absurd b12 (by decide)
set_option maxRecDepth 100000 in
set_option maxHeartbeats 4000000 in
theorem c_such_4_2 {G : mj_G} {h : mj_H} {d : Nat} : mj_con G MX4_isSuch d 0 0 [.int 4, .int 2] h (rI 0 h) := by
  refine mj_conS okX4_isSuch (ls := [some (.int 4), some (.int 2), none, none]) rfl rfl ?_
  refine s_iload_n (n := 1) (i := 0) dX4_isSuch_0 rfl rfl rfl ?_
  refine s_istore_n (n := 2) (i := 2) (ls' := [_, _, _, _]) dX4_isSuch_1 rfl rfl rfl rfl rfl ?_
  refine s_iconst (n := 3) (v := 0) dX4_isSuch_2 rfl (by decide) ?_
  refine s_istore_n (n := 4) (i := 3) (ls' := [_, _, _, _]) dX4_isSuch_3 rfl rfl rfl rfl rfl ?_
  refine s_iload_n (n := 5) (i := 3) dX4_isSuch_4 rfl rfl rfl ?_
  refine s_bipush (n := 7) (v := 6) dX4_isSuch_5 rfl (by decide) ?_
  refine s_icmp_ge (n := 10) (tgt := 32) dX4_isSuch_7 rfl rfl (fun b7 => ?_) (fun b7 => ?_)
  · exact absurd b7 (by decide)
  · refine s_iload_n (n := 11) (i := 2) dX4_isSuch_10 rfl rfl rfl ?_
    refine s_iconst (n := 12) (v := (-1)) dX4_isSuch_11 rfl (by decide) ?_
    refine s_icmp_eq (n := 15) (tgt := 32) dX4_isSuch_12 rfl rfl (fun b12 => ?_) (fun b12 => ?_)
    · exact absurd b12 (by decide)
    · refine s_iload_n (n := 16) (i := 2) dX4_isSuch_15 rfl rfl rfl ?_
      refine s_iload_n (n := 17) (i := 1) dX4_isSuch_16 rfl rfl rfl ?_
      refine s_icmp_eq (n := 20) (tgt := 32) dX4_isSuch_17 rfl rfl (fun b17 => ?_) (fun b17 => ?_)
      · exact absurd b17 (by decide)
      · refine s_gets1 (n := 23) dX4_isSuch_20 rfl wd_X4_286 ?_
        refine s_iload_n (n := 24) (i := 2) dX4_isSuch_23 rfl rfl rfl ?_
        refine s_tald (t := 1) (by omega) (by omega) (n := 25) dX4_isSuch_24 rfl (mj_ixe (j := 4) (by decide) (by omega)) ?_
        refine s_istore_n (n := 26) (i := 2) (ls' := [_, _, _, _]) dX4_isSuch_25 rfl rfl rfl rfl rfl ?_
        refine s_iinc (n := 29) (v := _ + 1) (ls' := [_, _, _, _]) dX4_isSuch_26 rfl rfl rfl rfl rfl ?_
        refine s_goto (tgt := 4) dX4_isSuch_29 rfl ?_
        refine s_iload_n (n := 5) (i := 3) dX4_isSuch_4 rfl rfl rfl ?_
        refine s_bipush (n := 7) (v := 6) dX4_isSuch_5 rfl (by decide) ?_
        refine s_icmp_ge (n := 10) (tgt := 32) dX4_isSuch_7 rfl rfl (fun b7 => ?_) (fun b7 => ?_)
        · exact absurd b7 (by decide)
        · refine s_iload_n (n := 11) (i := 2) dX4_isSuch_10 rfl rfl rfl ?_
          refine s_iconst (n := 12) (v := (-1)) dX4_isSuch_11 rfl (by decide) ?_
          refine s_icmp_eq (n := 15) (tgt := 32) dX4_isSuch_12 rfl rfl (fun b12 => ?_) (fun b12 => ?_)
          · exact absurd b12 (by decide)
          · refine s_iload_n (n := 16) (i := 2) dX4_isSuch_15 rfl rfl rfl ?_
            refine s_iload_n (n := 17) (i := 1) dX4_isSuch_16 rfl rfl rfl ?_
            refine s_icmp_eq (n := 20) (tgt := 32) dX4_isSuch_17 rfl rfl (fun b17 => ?_) (fun b17 => ?_)
            · exact absurd b17 (by decide)
            · refine s_gets1 (n := 23) dX4_isSuch_20 rfl wd_X4_286 ?_
              refine s_iload_n (n := 24) (i := 2) dX4_isSuch_23 rfl rfl rfl ?_
              refine s_tald (t := 1) (by omega) (by omega) (n := 25) dX4_isSuch_24 rfl (mj_ixe (j := 0) (by decide) (by omega)) ?_
              refine s_istore_n (n := 26) (i := 2) (ls' := [_, _, _, _]) dX4_isSuch_25 rfl rfl rfl rfl rfl ?_
              refine s_iinc (n := 29) (v := _ + 1) (ls' := [_, _, _, _]) dX4_isSuch_26 rfl rfl rfl rfl rfl ?_
              refine s_goto (tgt := 4) dX4_isSuch_29 rfl ?_
              refine s_iload_n (n := 5) (i := 3) dX4_isSuch_4 rfl rfl rfl ?_
              refine s_bipush (n := 7) (v := 6) dX4_isSuch_5 rfl (by decide) ?_
              refine s_icmp_ge (n := 10) (tgt := 32) dX4_isSuch_7 rfl rfl (fun b7 => ?_) (fun b7 => ?_)
              · exact absurd b7 (by decide)
              · refine s_iload_n (n := 11) (i := 2) dX4_isSuch_10 rfl rfl rfl ?_
                refine s_iconst (n := 12) (v := (-1)) dX4_isSuch_11 rfl (by decide) ?_
                refine s_icmp_eq (n := 15) (tgt := 32) dX4_isSuch_12 rfl rfl (fun b12 => ?_) (fun b12 => ?_)
                · refine s_iload_n (n := 33) (i := 2) dX4_isSuch_32 rfl rfl rfl ?_
                  refine s_iload_n (n := 34) (i := 1) dX4_isSuch_33 rfl rfl rfl ?_
                  refine s_icmp_ne (n := 37) (tgt := 41) dX4_isSuch_34 rfl rfl (fun b34 => ?_) (fun b34 => ?_)
                  · refine s_iconst (n := 42) (v := 0) dX4_isSuch_41 rfl (by decide) ?_
                    refine s_ireturn dX4_isSuch_42 rfl (rfl) (Nat.le_refl _) (Nat.le_refl _) ?_
                    exact ⟨rfl, rfl⟩
                  · exact absurd b34 (by decide)
                · exact absurd b12 (by decide)
set_option maxRecDepth 100000 in
set_option maxHeartbeats 4000000 in
theorem c_such_4_3 {G : mj_G} {h : mj_H} {d : Nat} : mj_con G MX4_isSuch d 0 0 [.int 4, .int 3] h (rI 0 h) := by
  refine mj_conS okX4_isSuch (ls := [some (.int 4), some (.int 3), none, none]) rfl rfl ?_
  refine s_iload_n (n := 1) (i := 0) dX4_isSuch_0 rfl rfl rfl ?_
  refine s_istore_n (n := 2) (i := 2) (ls' := [_, _, _, _]) dX4_isSuch_1 rfl rfl rfl rfl rfl ?_
  refine s_iconst (n := 3) (v := 0) dX4_isSuch_2 rfl (by decide) ?_
  refine s_istore_n (n := 4) (i := 3) (ls' := [_, _, _, _]) dX4_isSuch_3 rfl rfl rfl rfl rfl ?_
  refine s_iload_n (n := 5) (i := 3) dX4_isSuch_4 rfl rfl rfl ?_
  refine s_bipush (n := 7) (v := 6) dX4_isSuch_5 rfl (by decide) ?_
  refine s_icmp_ge (n := 10) (tgt := 32) dX4_isSuch_7 rfl rfl (fun b7 => ?_) (fun b7 => ?_)
  · exact absurd b7 (by decide)
  · refine s_iload_n (n := 11) (i := 2) dX4_isSuch_10 rfl rfl rfl ?_
    refine s_iconst (n := 12) (v := (-1)) dX4_isSuch_11 rfl (by decide) ?_
    refine s_icmp_eq (n := 15) (tgt := 32) dX4_isSuch_12 rfl rfl (fun b12 => ?_) (fun b12 => ?_)
    · exact absurd b12 (by decide)
    · refine s_iload_n (n := 16) (i := 2) dX4_isSuch_15 rfl rfl rfl ?_
      refine s_iload_n (n := 17) (i := 1) dX4_isSuch_16 rfl rfl rfl ?_
      refine s_icmp_eq (n := 20) (tgt := 32) dX4_isSuch_17 rfl rfl (fun b17 => ?_) (fun b17 => ?_)
      · exact absurd b17 (by decide)
      · refine s_gets1 (n := 23) dX4_isSuch_20 rfl wd_X4_286 ?_
        refine s_iload_n (n := 24) (i := 2) dX4_isSuch_23 rfl rfl rfl ?_
        refine s_tald (t := 1) (by omega) (by omega) (n := 25) dX4_isSuch_24 rfl (mj_ixe (j := 4) (by decide) (by omega)) ?_
        refine s_istore_n (n := 26) (i := 2) (ls' := [_, _, _, _]) dX4_isSuch_25 rfl rfl rfl rfl rfl ?_
        refine s_iinc (n := 29) (v := _ + 1) (ls' := [_, _, _, _]) dX4_isSuch_26 rfl rfl rfl rfl rfl ?_
        refine s_goto (tgt := 4) dX4_isSuch_29 rfl ?_
        refine s_iload_n (n := 5) (i := 3) dX4_isSuch_4 rfl rfl rfl ?_
        refine s_bipush (n := 7) (v := 6) dX4_isSuch_5 rfl (by decide) ?_
        refine s_icmp_ge (n := 10) (tgt := 32) dX4_isSuch_7 rfl rfl (fun b7 => ?_) (fun b7 => ?_)
        · exact absurd b7 (by decide)
        · refine s_iload_n (n := 11) (i := 2) dX4_isSuch_10 rfl rfl rfl ?_
          refine s_iconst (n := 12) (v := (-1)) dX4_isSuch_11 rfl (by decide) ?_
          refine s_icmp_eq (n := 15) (tgt := 32) dX4_isSuch_12 rfl rfl (fun b12 => ?_) (fun b12 => ?_)
          · exact absurd b12 (by decide)
          · refine s_iload_n (n := 16) (i := 2) dX4_isSuch_15 rfl rfl rfl ?_
            refine s_iload_n (n := 17) (i := 1) dX4_isSuch_16 rfl rfl rfl ?_
            refine s_icmp_eq (n := 20) (tgt := 32) dX4_isSuch_17 rfl rfl (fun b17 => ?_) (fun b17 => ?_)
            · exact absurd b17 (by decide)
            · refine s_gets1 (n := 23) dX4_isSuch_20 rfl wd_X4_286 ?_
              refine s_iload_n (n := 24) (i := 2) dX4_isSuch_23 rfl rfl rfl ?_
              refine s_tald (t := 1) (by omega) (by omega) (n := 25) dX4_isSuch_24 rfl (mj_ixe (j := 0) (by decide) (by omega)) ?_
              refine s_istore_n (n := 26) (i := 2) (ls' := [_, _, _, _]) dX4_isSuch_25 rfl rfl rfl rfl rfl ?_
              refine s_iinc (n := 29) (v := _ + 1) (ls' := [_, _, _, _]) dX4_isSuch_26 rfl rfl rfl rfl rfl ?_
              refine s_goto (tgt := 4) dX4_isSuch_29 rfl ?_
              refine s_iload_n (n := 5) (i := 3) dX4_isSuch_4 rfl rfl rfl ?_
              refine s_bipush (n := 7) (v := 6) dX4_isSuch_5 rfl (by decide) ?_
              refine s_icmp_ge (n := 10) (tgt := 32) dX4_isSuch_7 rfl rfl (fun b7 => ?_) (fun b7 => ?_)
              · exact absurd b7 (by decide)
              · refine s_iload_n (n := 11) (i := 2) dX4_isSuch_10 rfl rfl rfl ?_
                refine s_iconst (n := 12) (v := (-1)) dX4_isSuch_11 rfl (by decide) ?_
                refine s_icmp_eq (n := 15) (tgt := 32) dX4_isSuch_12 rfl rfl (fun b12 => ?_) (fun b12 => ?_)
                · refine s_iload_n (n := 33) (i := 2) dX4_isSuch_32 rfl rfl rfl ?_
                  refine s_iload_n (n := 34) (i := 1) dX4_isSuch_33 rfl rfl rfl ?_
                  refine s_icmp_ne (n := 37) (tgt := 41) dX4_isSuch_34 rfl rfl (fun b34 => ?_) (fun b34 => ?_)
                  · refine s_iconst (n := 42) (v := 0) dX4_isSuch_41 rfl (by decide) ?_
                    refine s_ireturn dX4_isSuch_42 rfl (rfl) (Nat.le_refl _) (Nat.le_refl _) ?_
                    exact ⟨rfl, rfl⟩
                  · exact absurd b34 (by decide)
                · exact absurd b12 (by decide)
set_option maxRecDepth 100000 in
set_option maxHeartbeats 4000000 in
theorem c_such_4_4 {G : mj_G} {h : mj_H} {d : Nat} : mj_con G MX4_isSuch d 0 0 [.int 4, .int 4] h (rI 1 h) := by
  refine mj_conS okX4_isSuch (ls := [some (.int 4), some (.int 4), none, none]) rfl rfl ?_
  refine s_iload_n (n := 1) (i := 0) dX4_isSuch_0 rfl rfl rfl ?_
  refine s_istore_n (n := 2) (i := 2) (ls' := [_, _, _, _]) dX4_isSuch_1 rfl rfl rfl rfl rfl ?_
  refine s_iconst (n := 3) (v := 0) dX4_isSuch_2 rfl (by decide) ?_
  refine s_istore_n (n := 4) (i := 3) (ls' := [_, _, _, _]) dX4_isSuch_3 rfl rfl rfl rfl rfl ?_
  refine s_iload_n (n := 5) (i := 3) dX4_isSuch_4 rfl rfl rfl ?_
  refine s_bipush (n := 7) (v := 6) dX4_isSuch_5 rfl (by decide) ?_
  refine s_icmp_ge (n := 10) (tgt := 32) dX4_isSuch_7 rfl rfl (fun b7 => ?_) (fun b7 => ?_)
  · exact absurd b7 (by decide)
  · refine s_iload_n (n := 11) (i := 2) dX4_isSuch_10 rfl rfl rfl ?_
    refine s_iconst (n := 12) (v := (-1)) dX4_isSuch_11 rfl (by decide) ?_
    refine s_icmp_eq (n := 15) (tgt := 32) dX4_isSuch_12 rfl rfl (fun b12 => ?_) (fun b12 => ?_)
    · exact absurd b12 (by decide)
    · refine s_iload_n (n := 16) (i := 2) dX4_isSuch_15 rfl rfl rfl ?_
      refine s_iload_n (n := 17) (i := 1) dX4_isSuch_16 rfl rfl rfl ?_
      refine s_icmp_eq (n := 20) (tgt := 32) dX4_isSuch_17 rfl rfl (fun b17 => ?_) (fun b17 => ?_)
      · refine s_iload_n (n := 33) (i := 2) dX4_isSuch_32 rfl rfl rfl ?_
        refine s_iload_n (n := 34) (i := 1) dX4_isSuch_33 rfl rfl rfl ?_
        refine s_icmp_ne (n := 37) (tgt := 41) dX4_isSuch_34 rfl rfl (fun b34 => ?_) (fun b34 => ?_)
        · exact absurd b34 (by decide)
        · refine s_iconst (n := 38) (v := 1) dX4_isSuch_37 rfl (by decide) ?_
          refine s_goto (tgt := 42) dX4_isSuch_38 rfl ?_
          refine s_ireturn dX4_isSuch_42 rfl (rfl) (Nat.le_refl _) (Nat.le_refl _) ?_
          exact ⟨rfl, rfl⟩
      · exact absurd b17 (by decide)
set_option maxRecDepth 100000 in
set_option maxHeartbeats 4000000 in
theorem c_such_4_5 {G : mj_G} {h : mj_H} {d : Nat} : mj_con G MX4_isSuch d 0 0 [.int 4, .int 5] h (rI 0 h) := by
  refine mj_conS okX4_isSuch (ls := [some (.int 4), some (.int 5), none, none]) rfl rfl ?_
  refine s_iload_n (n := 1) (i := 0) dX4_isSuch_0 rfl rfl rfl ?_
  refine s_istore_n (n := 2) (i := 2) (ls' := [_, _, _, _]) dX4_isSuch_1 rfl rfl rfl rfl rfl ?_
  refine s_iconst (n := 3) (v := 0) dX4_isSuch_2 rfl (by decide) ?_
  refine s_istore_n (n := 4) (i := 3) (ls' := [_, _, _, _]) dX4_isSuch_3 rfl rfl rfl rfl rfl ?_
  refine s_iload_n (n := 5) (i := 3) dX4_isSuch_4 rfl rfl rfl ?_
  refine s_bipush (n := 7) (v := 6) dX4_isSuch_5 rfl (by decide) ?_
  refine s_icmp_ge (n := 10) (tgt := 32) dX4_isSuch_7 rfl rfl (fun b7 => ?_) (fun b7 => ?_)
  · exact absurd b7 (by decide)
  · refine s_iload_n (n := 11) (i := 2) dX4_isSuch_10 rfl rfl rfl ?_
    refine s_iconst (n := 12) (v := (-1)) dX4_isSuch_11 rfl (by decide) ?_
    refine s_icmp_eq (n := 15) (tgt := 32) dX4_isSuch_12 rfl rfl (fun b12 => ?_) (fun b12 => ?_)
    · exact absurd b12 (by decide)
    · refine s_iload_n (n := 16) (i := 2) dX4_isSuch_15 rfl rfl rfl ?_
      refine s_iload_n (n := 17) (i := 1) dX4_isSuch_16 rfl rfl rfl ?_
      refine s_icmp_eq (n := 20) (tgt := 32) dX4_isSuch_17 rfl rfl (fun b17 => ?_) (fun b17 => ?_)
      · exact absurd b17 (by decide)
      · refine s_gets1 (n := 23) dX4_isSuch_20 rfl wd_X4_286 ?_
        refine s_iload_n (n := 24) (i := 2) dX4_isSuch_23 rfl rfl rfl ?_
        refine s_tald (t := 1) (by omega) (by omega) (n := 25) dX4_isSuch_24 rfl (mj_ixe (j := 4) (by decide) (by omega)) ?_
        refine s_istore_n (n := 26) (i := 2) (ls' := [_, _, _, _]) dX4_isSuch_25 rfl rfl rfl rfl rfl ?_
        refine s_iinc (n := 29) (v := _ + 1) (ls' := [_, _, _, _]) dX4_isSuch_26 rfl rfl rfl rfl rfl ?_
        refine s_goto (tgt := 4) dX4_isSuch_29 rfl ?_
        refine s_iload_n (n := 5) (i := 3) dX4_isSuch_4 rfl rfl rfl ?_
        refine s_bipush (n := 7) (v := 6) dX4_isSuch_5 rfl (by decide) ?_
        refine s_icmp_ge (n := 10) (tgt := 32) dX4_isSuch_7 rfl rfl (fun b7 => ?_) (fun b7 => ?_)
        · exact absurd b7 (by decide)
        · refine s_iload_n (n := 11) (i := 2) dX4_isSuch_10 rfl rfl rfl ?_
          refine s_iconst (n := 12) (v := (-1)) dX4_isSuch_11 rfl (by decide) ?_
          refine s_icmp_eq (n := 15) (tgt := 32) dX4_isSuch_12 rfl rfl (fun b12 => ?_) (fun b12 => ?_)
          · exact absurd b12 (by decide)
          · refine s_iload_n (n := 16) (i := 2) dX4_isSuch_15 rfl rfl rfl ?_
            refine s_iload_n (n := 17) (i := 1) dX4_isSuch_16 rfl rfl rfl ?_
            refine s_icmp_eq (n := 20) (tgt := 32) dX4_isSuch_17 rfl rfl (fun b17 => ?_) (fun b17 => ?_)
            · exact absurd b17 (by decide)
            · refine s_gets1 (n := 23) dX4_isSuch_20 rfl wd_X4_286 ?_
              refine s_iload_n (n := 24) (i := 2) dX4_isSuch_23 rfl rfl rfl ?_
              refine s_tald (t := 1) (by omega) (by omega) (n := 25) dX4_isSuch_24 rfl (mj_ixe (j := 0) (by decide) (by omega)) ?_
              refine s_istore_n (n := 26) (i := 2) (ls' := [_, _, _, _]) dX4_isSuch_25 rfl rfl rfl rfl rfl ?_
              refine s_iinc (n := 29) (v := _ + 1) (ls' := [_, _, _, _]) dX4_isSuch_26 rfl rfl rfl rfl rfl ?_
              refine s_goto (tgt := 4) dX4_isSuch_29 rfl ?_
              refine s_iload_n (n := 5) (i := 3) dX4_isSuch_4 rfl rfl rfl ?_
              refine s_bipush (n := 7) (v := 6) dX4_isSuch_5 rfl (by decide) ?_
              refine s_icmp_ge (n := 10) (tgt := 32) dX4_isSuch_7 rfl rfl (fun b7 => ?_) (fun b7 => ?_)
              · exact absurd b7 (by decide)
              · refine s_iload_n (n := 11) (i := 2) dX4_isSuch_10 rfl rfl rfl ?_
                refine s_iconst (n := 12) (v := (-1)) dX4_isSuch_11 rfl (by decide) ?_
                refine s_icmp_eq (n := 15) (tgt := 32) dX4_isSuch_12 rfl rfl (fun b12 => ?_) (fun b12 => ?_)
                · refine s_iload_n (n := 33) (i := 2) dX4_isSuch_32 rfl rfl rfl ?_
                  refine s_iload_n (n := 34) (i := 1) dX4_isSuch_33 rfl rfl rfl ?_
                  refine s_icmp_ne (n := 37) (tgt := 41) dX4_isSuch_34 rfl rfl (fun b34 => ?_) (fun b34 => ?_)
                  · refine s_iconst (n := 42) (v := 0) dX4_isSuch_41 rfl (by decide) ?_
                    refine s_ireturn dX4_isSuch_42 rfl (rfl) (Nat.le_refl _) (Nat.le_refl _) ?_
                    exact ⟨rfl, rfl⟩
                  · exact absurd b34 (by decide)
                · exact absurd b12 (by decide)
set_option maxRecDepth 100000 in
set_option maxHeartbeats 4000000 in
theorem c_such_5_0 {G : mj_G} {h : mj_H} {d : Nat} : mj_con G MX4_isSuch d 0 0 [.int 5, .int 0] h (rI 1 h) := by
  refine mj_conS okX4_isSuch (ls := [some (.int 5), some (.int 0), none, none]) rfl rfl ?_
  refine s_iload_n (n := 1) (i := 0) dX4_isSuch_0 rfl rfl rfl ?_
  refine s_istore_n (n := 2) (i := 2) (ls' := [_, _, _, _]) dX4_isSuch_1 rfl rfl rfl rfl rfl ?_
  refine s_iconst (n := 3) (v := 0) dX4_isSuch_2 rfl (by decide) ?_
  refine s_istore_n (n := 4) (i := 3) (ls' := [_, _, _, _]) dX4_isSuch_3 rfl rfl rfl rfl rfl ?_
  refine s_iload_n (n := 5) (i := 3) dX4_isSuch_4 rfl rfl rfl ?_
  refine s_bipush (n := 7) (v := 6) dX4_isSuch_5 rfl (by decide) ?_
  refine s_icmp_ge (n := 10) (tgt := 32) dX4_isSuch_7 rfl rfl (fun b7 => ?_) (fun b7 => ?_)
  · exact absurd b7 (by decide)
  · refine s_iload_n (n := 11) (i := 2) dX4_isSuch_10 rfl rfl rfl ?_
    refine s_iconst (n := 12) (v := (-1)) dX4_isSuch_11 rfl (by decide) ?_
    refine s_icmp_eq (n := 15) (tgt := 32) dX4_isSuch_12 rfl rfl (fun b12 => ?_) (fun b12 => ?_)
    · exact absurd b12 (by decide)
    · refine s_iload_n (n := 16) (i := 2) dX4_isSuch_15 rfl rfl rfl ?_
      refine s_iload_n (n := 17) (i := 1) dX4_isSuch_16 rfl rfl rfl ?_
      refine s_icmp_eq (n := 20) (tgt := 32) dX4_isSuch_17 rfl rfl (fun b17 => ?_) (fun b17 => ?_)
      · exact absurd b17 (by decide)
      · refine s_gets1 (n := 23) dX4_isSuch_20 rfl wd_X4_286 ?_
        refine s_iload_n (n := 24) (i := 2) dX4_isSuch_23 rfl rfl rfl ?_
        refine s_tald (t := 1) (by omega) (by omega) (n := 25) dX4_isSuch_24 rfl (mj_ixe (j := 5) (by decide) (by omega)) ?_
        refine s_istore_n (n := 26) (i := 2) (ls' := [_, _, _, _]) dX4_isSuch_25 rfl rfl rfl rfl rfl ?_
        refine s_iinc (n := 29) (v := _ + 1) (ls' := [_, _, _, _]) dX4_isSuch_26 rfl rfl rfl rfl rfl ?_
        refine s_goto (tgt := 4) dX4_isSuch_29 rfl ?_
        refine s_iload_n (n := 5) (i := 3) dX4_isSuch_4 rfl rfl rfl ?_
        refine s_bipush (n := 7) (v := 6) dX4_isSuch_5 rfl (by decide) ?_
        refine s_icmp_ge (n := 10) (tgt := 32) dX4_isSuch_7 rfl rfl (fun b7 => ?_) (fun b7 => ?_)
        · exact absurd b7 (by decide)
        · refine s_iload_n (n := 11) (i := 2) dX4_isSuch_10 rfl rfl rfl ?_
          refine s_iconst (n := 12) (v := (-1)) dX4_isSuch_11 rfl (by decide) ?_
          refine s_icmp_eq (n := 15) (tgt := 32) dX4_isSuch_12 rfl rfl (fun b12 => ?_) (fun b12 => ?_)
          · exact absurd b12 (by decide)
          · refine s_iload_n (n := 16) (i := 2) dX4_isSuch_15 rfl rfl rfl ?_
            refine s_iload_n (n := 17) (i := 1) dX4_isSuch_16 rfl rfl rfl ?_
            refine s_icmp_eq (n := 20) (tgt := 32) dX4_isSuch_17 rfl rfl (fun b17 => ?_) (fun b17 => ?_)
            · exact absurd b17 (by decide)
            · refine s_gets1 (n := 23) dX4_isSuch_20 rfl wd_X4_286 ?_
              refine s_iload_n (n := 24) (i := 2) dX4_isSuch_23 rfl rfl rfl ?_
              refine s_tald (t := 1) (by omega) (by omega) (n := 25) dX4_isSuch_24 rfl (mj_ixe (j := 4) (by decide) (by omega)) ?_
              refine s_istore_n (n := 26) (i := 2) (ls' := [_, _, _, _]) dX4_isSuch_25 rfl rfl rfl rfl rfl ?_
              refine s_iinc (n := 29) (v := _ + 1) (ls' := [_, _, _, _]) dX4_isSuch_26 rfl rfl rfl rfl rfl ?_
              refine s_goto (tgt := 4) dX4_isSuch_29 rfl ?_
              refine s_iload_n (n := 5) (i := 3) dX4_isSuch_4 rfl rfl rfl ?_
              refine s_bipush (n := 7) (v := 6) dX4_isSuch_5 rfl (by decide) ?_
              refine s_icmp_ge (n := 10) (tgt := 32) dX4_isSuch_7 rfl rfl (fun b7 => ?_) (fun b7 => ?_)
              · exact absurd b7 (by decide)
              · refine s_iload_n (n := 11) (i := 2) dX4_isSuch_10 rfl rfl rfl ?_
                refine s_iconst (n := 12) (v := (-1)) dX4_isSuch_11 rfl (by decide) ?_
                refine s_icmp_eq (n := 15) (tgt := 32) dX4_isSuch_12 rfl rfl (fun b12 => ?_) (fun b12 => ?_)
                · exact absurd b12 (by decide)
                · refine s_iload_n (n := 16) (i := 2) dX4_isSuch_15 rfl rfl rfl ?_
                  refine s_iload_n (n := 17) (i := 1) dX4_isSuch_16 rfl rfl rfl ?_
                  refine s_icmp_eq (n := 20) (tgt := 32) dX4_isSuch_17 rfl rfl (fun b17 => ?_) (fun b17 => ?_)
                  · refine s_iload_n (n := 33) (i := 2) dX4_isSuch_32 rfl rfl rfl ?_
                    refine s_iload_n (n := 34) (i := 1) dX4_isSuch_33 rfl rfl rfl ?_
                    refine s_icmp_ne (n := 37) (tgt := 41) dX4_isSuch_34 rfl rfl (fun b34 => ?_) (fun b34 => ?_)
                    · exact absurd b34 (by decide)
                    · refine s_iconst (n := 38) (v := 1) dX4_isSuch_37 rfl (by decide) ?_
                      refine s_goto (tgt := 42) dX4_isSuch_38 rfl ?_
                      refine s_ireturn dX4_isSuch_42 rfl (rfl) (Nat.le_refl _) (Nat.le_refl _) ?_
                      exact ⟨rfl, rfl⟩
                  · exact absurd b17 (by decide)
set_option maxRecDepth 100000 in
set_option maxHeartbeats 4000000 in
theorem c_such_5_1 {G : mj_G} {h : mj_H} {d : Nat} : mj_con G MX4_isSuch d 0 0 [.int 5, .int 1] h (rI 0 h) := by
  refine mj_conS okX4_isSuch (ls := [some (.int 5), some (.int 1), none, none]) rfl rfl ?_
  refine s_iload_n (n := 1) (i := 0) dX4_isSuch_0 rfl rfl rfl ?_
  refine s_istore_n (n := 2) (i := 2) (ls' := [_, _, _, _]) dX4_isSuch_1 rfl rfl rfl rfl rfl ?_
  refine s_iconst (n := 3) (v := 0) dX4_isSuch_2 rfl (by decide) ?_
  refine s_istore_n (n := 4) (i := 3) (ls' := [_, _, _, _]) dX4_isSuch_3 rfl rfl rfl rfl rfl ?_
  refine s_iload_n (n := 5) (i := 3) dX4_isSuch_4 rfl rfl rfl ?_
  refine s_bipush (n := 7) (v := 6) dX4_isSuch_5 rfl (by decide) ?_
  refine s_icmp_ge (n := 10) (tgt := 32) dX4_isSuch_7 rfl rfl (fun b7 => ?_) (fun b7 => ?_)
  · exact absurd b7 (by decide)
  · refine s_iload_n (n := 11) (i := 2) dX4_isSuch_10 rfl rfl rfl ?_
    refine s_iconst (n := 12) (v := (-1)) dX4_isSuch_11 rfl (by decide) ?_
    refine s_icmp_eq (n := 15) (tgt := 32) dX4_isSuch_12 rfl rfl (fun b12 => ?_) (fun b12 => ?_)
    · exact absurd b12 (by decide)
    · refine s_iload_n (n := 16) (i := 2) dX4_isSuch_15 rfl rfl rfl ?_
      refine s_iload_n (n := 17) (i := 1) dX4_isSuch_16 rfl rfl rfl ?_
      refine s_icmp_eq (n := 20) (tgt := 32) dX4_isSuch_17 rfl rfl (fun b17 => ?_) (fun b17 => ?_)
      · exact absurd b17 (by decide)
      · refine s_gets1 (n := 23) dX4_isSuch_20 rfl wd_X4_286 ?_
        refine s_iload_n (n := 24) (i := 2) dX4_isSuch_23 rfl rfl rfl ?_
        refine s_tald (t := 1) (by omega) (by omega) (n := 25) dX4_isSuch_24 rfl (mj_ixe (j := 5) (by decide) (by omega)) ?_
        refine s_istore_n (n := 26) (i := 2) (ls' := [_, _, _, _]) dX4_isSuch_25 rfl rfl rfl rfl rfl ?_
        refine s_iinc (n := 29) (v := _ + 1) (ls' := [_, _, _, _]) dX4_isSuch_26 rfl rfl rfl rfl rfl ?_
        refine s_goto (tgt := 4) dX4_isSuch_29 rfl ?_
        refine s_iload_n (n := 5) (i := 3) dX4_isSuch_4 rfl rfl rfl ?_
        refine s_bipush (n := 7) (v := 6) dX4_isSuch_5 rfl (by decide) ?_
        refine s_icmp_ge (n := 10) (tgt := 32) dX4_isSuch_7 rfl rfl (fun b7 => ?_) (fun b7 => ?_)
        · exact absurd b7 (by decide)
        · refine s_iload_n (n := 11) (i := 2) dX4_isSuch_10 rfl rfl rfl ?_
          refine s_iconst (n := 12) (v := (-1)) dX4_isSuch_11 rfl (by decide) ?_
          refine s_icmp_eq (n := 15) (tgt := 32) dX4_isSuch_12 rfl rfl (fun b12 => ?_) (fun b12 => ?_)
          · exact absurd b12 (by decide)
          · refine s_iload_n (n := 16) (i := 2) dX4_isSuch_15 rfl rfl rfl ?_
            refine s_iload_n (n := 17) (i := 1) dX4_isSuch_16 rfl rfl rfl ?_
            refine s_icmp_eq (n := 20) (tgt := 32) dX4_isSuch_17 rfl rfl (fun b17 => ?_) (fun b17 => ?_)
            · exact absurd b17 (by decide)
            · refine s_gets1 (n := 23) dX4_isSuch_20 rfl wd_X4_286 ?_
              refine s_iload_n (n := 24) (i := 2) dX4_isSuch_23 rfl rfl rfl ?_
              refine s_tald (t := 1) (by omega) (by omega) (n := 25) dX4_isSuch_24 rfl (mj_ixe (j := 4) (by decide) (by omega)) ?_
              refine s_istore_n (n := 26) (i := 2) (ls' := [_, _, _, _]) dX4_isSuch_25 rfl rfl rfl rfl rfl ?_
              refine s_iinc (n := 29) (v := _ + 1) (ls' := [_, _, _, _]) dX4_isSuch_26 rfl rfl rfl rfl rfl ?_
              refine s_goto (tgt := 4) dX4_isSuch_29 rfl ?_
              refine s_iload_n (n := 5) (i := 3) dX4_isSuch_4 rfl rfl rfl ?_
              refine s_bipush (n := 7) (v := 6) dX4_isSuch_5 rfl (by decide) ?_
              refine s_icmp_ge (n := 10) (tgt := 32) dX4_isSuch_7 rfl rfl (fun b7 => ?_) (fun b7 => ?_)
              · exact absurd b7 (by decide)
              · refine s_iload_n (n := 11) (i := 2) dX4_isSuch_10 rfl rfl rfl ?_
                refine s_iconst (n := 12) (v := (-1)) dX4_isSuch_11 rfl (by decide) ?_
                refine s_icmp_eq (n := 15) (tgt := 32) dX4_isSuch_12 rfl rfl (fun b12 => ?_) (fun b12 => ?_)
                · exact absurd b12 (by decide)
                · refine s_iload_n (n := 16) (i := 2) dX4_isSuch_15 rfl rfl rfl ?_
                  refine s_iload_n (n := 17) (i := 1) dX4_isSuch_16 rfl rfl rfl ?_
                  refine s_icmp_eq (n := 20) (tgt := 32) dX4_isSuch_17 rfl rfl (fun b17 => ?_) (fun b17 => ?_)
                  · exact absurd b17 (by decide)
                  · refine s_gets1 (n := 23) dX4_isSuch_20 rfl wd_X4_286 ?_
                    refine s_iload_n (n := 24) (i := 2) dX4_isSuch_23 rfl rfl rfl ?_
                    refine s_tald (t := 1) (by omega) (by omega) (n := 25) dX4_isSuch_24 rfl (mj_ixe (j := 0) (by decide) (by omega)) ?_
                    refine s_istore_n (n := 26) (i := 2) (ls' := [_, _, _, _]) dX4_isSuch_25 rfl rfl rfl rfl rfl ?_
                    refine s_iinc (n := 29) (v := _ + 1) (ls' := [_, _, _, _]) dX4_isSuch_26 rfl rfl rfl rfl rfl ?_
                    refine s_goto (tgt := 4) dX4_isSuch_29 rfl ?_
                    refine s_iload_n (n := 5) (i := 3) dX4_isSuch_4 rfl rfl rfl ?_
                    refine s_bipush (n := 7) (v := 6) dX4_isSuch_5 rfl (by decide) ?_
                    refine s_icmp_ge (n := 10) (tgt := 32) dX4_isSuch_7 rfl rfl (fun b7 => ?_) (fun b7 => ?_)
                    · exact absurd b7 (by decide)
                    · refine s_iload_n (n := 11) (i := 2) dX4_isSuch_10 rfl rfl rfl ?_
                      refine s_iconst (n := 12) (v := (-1)) dX4_isSuch_11 rfl (by decide) ?_
                      refine s_icmp_eq (n := 15) (tgt := 32) dX4_isSuch_12 rfl rfl (fun b12 => ?_) (fun b12 => ?_)
                      · refine s_iload_n (n := 33) (i := 2) dX4_isSuch_32 rfl rfl rfl ?_
                        refine s_iload_n (n := 34) (i := 1) dX4_isSuch_33 rfl rfl rfl ?_
                        refine s_icmp_ne (n := 37) (tgt := 41) dX4_isSuch_34 rfl rfl (fun b34 => ?_) (fun b34 => ?_)
                        · refine s_iconst (n := 42) (v := 0) dX4_isSuch_41 rfl (by decide) ?_
                          refine s_ireturn dX4_isSuch_42 rfl (rfl) (Nat.le_refl _) (Nat.le_refl _) ?_
                          exact ⟨rfl, rfl⟩
                        · exact absurd b34 (by decide)
                      · exact absurd b12 (by decide)
set_option maxRecDepth 100000 in
set_option maxHeartbeats 4000000 in
theorem c_such_5_2 {G : mj_G} {h : mj_H} {d : Nat} : mj_con G MX4_isSuch d 0 0 [.int 5, .int 2] h (rI 0 h) := by
  refine mj_conS okX4_isSuch (ls := [some (.int 5), some (.int 2), none, none]) rfl rfl ?_
  refine s_iload_n (n := 1) (i := 0) dX4_isSuch_0 rfl rfl rfl ?_
  refine s_istore_n (n := 2) (i := 2) (ls' := [_, _, _, _]) dX4_isSuch_1 rfl rfl rfl rfl rfl ?_
  refine s_iconst (n := 3) (v := 0) dX4_isSuch_2 rfl (by decide) ?_
  refine s_istore_n (n := 4) (i := 3) (ls' := [_, _, _, _]) dX4_isSuch_3 rfl rfl rfl rfl rfl ?_
  refine s_iload_n (n := 5) (i := 3) dX4_isSuch_4 rfl rfl rfl ?_
  refine s_bipush (n := 7) (v := 6) dX4_isSuch_5 rfl (by decide) ?_
  refine s_icmp_ge (n := 10) (tgt := 32) dX4_isSuch_7 rfl rfl (fun b7 => ?_) (fun b7 => ?_)
  · exact absurd b7 (by decide)
  · refine s_iload_n (n := 11) (i := 2) dX4_isSuch_10 rfl rfl rfl ?_
    refine s_iconst (n := 12) (v := (-1)) dX4_isSuch_11 rfl (by decide) ?_
    refine s_icmp_eq (n := 15) (tgt := 32) dX4_isSuch_12 rfl rfl (fun b12 => ?_) (fun b12 => ?_)
    · exact absurd b12 (by decide)
    · refine s_iload_n (n := 16) (i := 2) dX4_isSuch_15 rfl rfl rfl ?_
      refine s_iload_n (n := 17) (i := 1) dX4_isSuch_16 rfl rfl rfl ?_
      refine s_icmp_eq (n := 20) (tgt := 32) dX4_isSuch_17 rfl rfl (fun b17 => ?_) (fun b17 => ?_)
      · exact absurd b17 (by decide)
      · refine s_gets1 (n := 23) dX4_isSuch_20 rfl wd_X4_286 ?_
        refine s_iload_n (n := 24) (i := 2) dX4_isSuch_23 rfl rfl rfl ?_
        refine s_tald (t := 1) (by omega) (by omega) (n := 25) dX4_isSuch_24 rfl (mj_ixe (j := 5) (by decide) (by omega)) ?_
        refine s_istore_n (n := 26) (i := 2) (ls' := [_, _, _, _]) dX4_isSuch_25 rfl rfl rfl rfl rfl ?_
        refine s_iinc (n := 29) (v := _ + 1) (ls' := [_, _, _, _]) dX4_isSuch_26 rfl rfl rfl rfl rfl ?_
        refine s_goto (tgt := 4) dX4_isSuch_29 rfl ?_
        refine s_iload_n (n := 5) (i := 3) dX4_isSuch_4 rfl rfl rfl ?_
        refine s_bipush (n := 7) (v := 6) dX4_isSuch_5 rfl (by decide) ?_
        refine s_icmp_ge (n := 10) (tgt := 32) dX4_isSuch_7 rfl rfl (fun b7 => ?_) (fun b7 => ?_)
        · exact absurd b7 (by decide)
        · refine s_iload_n (n := 11) (i := 2) dX4_isSuch_10 rfl rfl rfl ?_
          refine s_iconst (n := 12) (v := (-1)) dX4_isSuch_11 rfl (by decide) ?_
          refine s_icmp_eq (n := 15) (tgt := 32) dX4_isSuch_12 rfl rfl (fun b12 => ?_) (fun b12 => ?_)
          · exact absurd b12 (by decide)
          · refine s_iload_n (n := 16) (i := 2) dX4_isSuch_15 rfl rfl rfl ?_
            refine s_iload_n (n := 17) (i := 1) dX4_isSuch_16 rfl rfl rfl ?_
            refine s_icmp_eq (n := 20) (tgt := 32) dX4_isSuch_17 rfl rfl (fun b17 => ?_) (fun b17 => ?_)
            · exact absurd b17 (by decide)
            · refine s_gets1 (n := 23) dX4_isSuch_20 rfl wd_X4_286 ?_
              refine s_iload_n (n := 24) (i := 2) dX4_isSuch_23 rfl rfl rfl ?_
              refine s_tald (t := 1) (by omega) (by omega) (n := 25) dX4_isSuch_24 rfl (mj_ixe (j := 4) (by decide) (by omega)) ?_
              refine s_istore_n (n := 26) (i := 2) (ls' := [_, _, _, _]) dX4_isSuch_25 rfl rfl rfl rfl rfl ?_
              refine s_iinc (n := 29) (v := _ + 1) (ls' := [_, _, _, _]) dX4_isSuch_26 rfl rfl rfl rfl rfl ?_
              refine s_goto (tgt := 4) dX4_isSuch_29 rfl ?_
              refine s_iload_n (n := 5) (i := 3) dX4_isSuch_4 rfl rfl rfl ?_
              refine s_bipush (n := 7) (v := 6) dX4_isSuch_5 rfl (by decide) ?_
              refine s_icmp_ge (n := 10) (tgt := 32) dX4_isSuch_7 rfl rfl (fun b7 => ?_) (fun b7 => ?_)
              · exact absurd b7 (by decide)
              · refine s_iload_n (n := 11) (i := 2) dX4_isSuch_10 rfl rfl rfl ?_
                refine s_iconst (n := 12) (v := (-1)) dX4_isSuch_11 rfl (by decide) ?_
                refine s_icmp_eq (n := 15) (tgt := 32) dX4_isSuch_12 rfl rfl (fun b12 => ?_) (fun b12 => ?_)
                · exact absurd b12 (by decide)
                · refine s_iload_n (n := 16) (i := 2) dX4_isSuch_15 rfl rfl rfl ?_
                  refine s_iload_n (n := 17) (i := 1) dX4_isSuch_16 rfl rfl rfl ?_
                  refine s_icmp_eq (n := 20) (tgt := 32) dX4_isSuch_17 rfl rfl (fun b17 => ?_) (fun b17 => ?_)
                  · exact absurd b17 (by decide)
                  · refine s_gets1 (n := 23) dX4_isSuch_20 rfl wd_X4_286 ?_
                    refine s_iload_n (n := 24) (i := 2) dX4_isSuch_23 rfl rfl rfl ?_
                    refine s_tald (t := 1) (by omega) (by omega) (n := 25) dX4_isSuch_24 rfl (mj_ixe (j := 0) (by decide) (by omega)) ?_
                    refine s_istore_n (n := 26) (i := 2) (ls' := [_, _, _, _]) dX4_isSuch_25 rfl rfl rfl rfl rfl ?_
                    refine s_iinc (n := 29) (v := _ + 1) (ls' := [_, _, _, _]) dX4_isSuch_26 rfl rfl rfl rfl rfl ?_
                    refine s_goto (tgt := 4) dX4_isSuch_29 rfl ?_
                    refine s_iload_n (n := 5) (i := 3) dX4_isSuch_4 rfl rfl rfl ?_
                    refine s_bipush (n := 7) (v := 6) dX4_isSuch_5 rfl (by decide) ?_
                    refine s_icmp_ge (n := 10) (tgt := 32) dX4_isSuch_7 rfl rfl (fun b7 => ?_) (fun b7 => ?_)
                    · exact absurd b7 (by decide)
                    · refine s_iload_n (n := 11) (i := 2) dX4_isSuch_10 rfl rfl rfl ?_
                      refine s_iconst (n := 12) (v := (-1)) dX4_isSuch_11 rfl (by decide) ?_
                      refine s_icmp_eq (n := 15) (tgt := 32) dX4_isSuch_12 rfl rfl (fun b12 => ?_) (fun b12 => ?_)
                      · refine s_iload_n (n := 33) (i := 2) dX4_isSuch_32 rfl rfl rfl ?_
                        refine s_iload_n (n := 34) (i := 1) dX4_isSuch_33 rfl rfl rfl ?_
                        refine s_icmp_ne (n := 37) (tgt := 41) dX4_isSuch_34 rfl rfl (fun b34 => ?_) (fun b34 => ?_)
                        · refine s_iconst (n := 42) (v := 0) dX4_isSuch_41 rfl (by decide) ?_
                          refine s_ireturn dX4_isSuch_42 rfl (rfl) (Nat.le_refl _) (Nat.le_refl _) ?_
                          exact ⟨rfl, rfl⟩
                        · exact absurd b34 (by decide)
                      · exact absurd b12 (by decide)
set_option maxRecDepth 100000 in
set_option maxHeartbeats 4000000 in
theorem c_such_5_3 {G : mj_G} {h : mj_H} {d : Nat} : mj_con G MX4_isSuch d 0 0 [.int 5, .int 3] h (rI 0 h) := by
  refine mj_conS okX4_isSuch (ls := [some (.int 5), some (.int 3), none, none]) rfl rfl ?_
  refine s_iload_n (n := 1) (i := 0) dX4_isSuch_0 rfl rfl rfl ?_
  refine s_istore_n (n := 2) (i := 2) (ls' := [_, _, _, _]) dX4_isSuch_1 rfl rfl rfl rfl rfl ?_
  refine s_iconst (n := 3) (v := 0) dX4_isSuch_2 rfl (by decide) ?_
  refine s_istore_n (n := 4) (i := 3) (ls' := [_, _, _, _]) dX4_isSuch_3 rfl rfl rfl rfl rfl ?_
  refine s_iload_n (n := 5) (i := 3) dX4_isSuch_4 rfl rfl rfl ?_
  refine s_bipush (n := 7) (v := 6) dX4_isSuch_5 rfl (by decide) ?_
  refine s_icmp_ge (n := 10) (tgt := 32) dX4_isSuch_7 rfl rfl (fun b7 => ?_) (fun b7 => ?_)
  · exact absurd b7 (by decide)
  · refine s_iload_n (n := 11) (i := 2) dX4_isSuch_10 rfl rfl rfl ?_
    refine s_iconst (n := 12) (v := (-1)) dX4_isSuch_11 rfl (by decide) ?_
    refine s_icmp_eq (n := 15) (tgt := 32) dX4_isSuch_12 rfl rfl (fun b12 => ?_) (fun b12 => ?_)
    · exact absurd b12 (by decide)
    · refine s_iload_n (n := 16) (i := 2) dX4_isSuch_15 rfl rfl rfl ?_
      refine s_iload_n (n := 17) (i := 1) dX4_isSuch_16 rfl rfl rfl ?_
      refine s_icmp_eq (n := 20) (tgt := 32) dX4_isSuch_17 rfl rfl (fun b17 => ?_) (fun b17 => ?_)
      · exact absurd b17 (by decide)
      · refine s_gets1 (n := 23) dX4_isSuch_20 rfl wd_X4_286 ?_
        refine s_iload_n (n := 24) (i := 2) dX4_isSuch_23 rfl rfl rfl ?_
        refine s_tald (t := 1) (by omega) (by omega) (n := 25) dX4_isSuch_24 rfl (mj_ixe (j := 5) (by decide) (by omega)) ?_
        refine s_istore_n (n := 26) (i := 2) (ls' := [_, _, _, _]) dX4_isSuch_25 rfl rfl rfl rfl rfl ?_
        refine s_iinc (n := 29) (v := _ + 1) (ls' := [_, _, _, _]) dX4_isSuch_26 rfl rfl rfl rfl rfl ?_
        refine s_goto (tgt := 4) dX4_isSuch_29 rfl ?_
        refine s_iload_n (n := 5) (i := 3) dX4_isSuch_4 rfl rfl rfl ?_
        refine s_bipush (n := 7) (v := 6) dX4_isSuch_5 rfl (by decide) ?_
        refine s_icmp_ge (n := 10) (tgt := 32) dX4_isSuch_7 rfl rfl (fun b7 => ?_) (fun b7 => ?_)
        · exact absurd b7 (by decide)
        · refine s_iload_n (n := 11) (i := 2) dX4_isSuch_10 rfl rfl rfl ?_
          refine s_iconst (n := 12) (v := (-1)) dX4_isSuch_11 rfl (by decide) ?_
          refine s_icmp_eq (n := 15) (tgt := 32) dX4_isSuch_12 rfl rfl (fun b12 => ?_) (fun b12 => ?_)
          · exact absurd b12 (by decide)
          · refine s_iload_n (n := 16) (i := 2) dX4_isSuch_15 rfl rfl rfl ?_
            refine s_iload_n (n := 17) (i := 1) dX4_isSuch_16 rfl rfl rfl ?_
            refine s_icmp_eq (n := 20) (tgt := 32) dX4_isSuch_17 rfl rfl (fun b17 => ?_) (fun b17 => ?_)
            · exact absurd b17 (by decide)
            · refine s_gets1 (n := 23) dX4_isSuch_20 rfl wd_X4_286 ?_
              refine s_iload_n (n := 24) (i := 2) dX4_isSuch_23 rfl rfl rfl ?_
              refine s_tald (t := 1) (by omega) (by omega) (n := 25) dX4_isSuch_24 rfl (mj_ixe (j := 4) (by decide) (by omega)) ?_
              refine s_istore_n (n := 26) (i := 2) (ls' := [_, _, _, _]) dX4_isSuch_25 rfl rfl rfl rfl rfl ?_
              refine s_iinc (n := 29) (v := _ + 1) (ls' := [_, _, _, _]) dX4_isSuch_26 rfl rfl rfl rfl rfl ?_
              refine s_goto (tgt := 4) dX4_isSuch_29 rfl ?_
              refine s_iload_n (n := 5) (i := 3) dX4_isSuch_4 rfl rfl rfl ?_
              refine s_bipush (n := 7) (v := 6) dX4_isSuch_5 rfl (by decide) ?_
              refine s_icmp_ge (n := 10) (tgt := 32) dX4_isSuch_7 rfl rfl (fun b7 => ?_) (fun b7 => ?_)
              · exact absurd b7 (by decide)
              · refine s_iload_n (n := 11) (i := 2) dX4_isSuch_10 rfl rfl rfl ?_
                refine s_iconst (n := 12) (v := (-1)) dX4_isSuch_11 rfl (by decide) ?_
                refine s_icmp_eq (n := 15) (tgt := 32) dX4_isSuch_12 rfl rfl (fun b12 => ?_) (fun b12 => ?_)
                · exact absurd b12 (by decide)
                · refine s_iload_n (n := 16) (i := 2) dX4_isSuch_15 rfl rfl rfl ?_
                  refine s_iload_n (n := 17) (i := 1) dX4_isSuch_16 rfl rfl rfl ?_
                  refine s_icmp_eq (n := 20) (tgt := 32) dX4_isSuch_17 rfl rfl (fun b17 => ?_) (fun b17 => ?_)
                  · exact absurd b17 (by decide)
                  · refine s_gets1 (n := 23) dX4_isSuch_20 rfl wd_X4_286 ?_
                    refine s_iload_n (n := 24) (i := 2) dX4_isSuch_23 rfl rfl rfl ?_
                    refine s_tald (t := 1) (by omega) (by omega) (n := 25) dX4_isSuch_24 rfl (mj_ixe (j := 0) (by decide) (by omega)) ?_
                    refine s_istore_n (n := 26) (i := 2) (ls' := [_, _, _, _]) dX4_isSuch_25 rfl rfl rfl rfl rfl ?_
                    refine s_iinc (n := 29) (v := _ + 1) (ls' := [_, _, _, _]) dX4_isSuch_26 rfl rfl rfl rfl rfl ?_
                    refine s_goto (tgt := 4) dX4_isSuch_29 rfl ?_
                    refine s_iload_n (n := 5) (i := 3) dX4_isSuch_4 rfl rfl rfl ?_
                    refine s_bipush (n := 7) (v := 6) dX4_isSuch_5 rfl (by decide) ?_
                    refine s_icmp_ge (n := 10) (tgt := 32) dX4_isSuch_7 rfl rfl (fun b7 => ?_) (fun b7 => ?_)
                    · exact absurd b7 (by decide)
                    · refine s_iload_n (n := 11) (i := 2) dX4_isSuch_10 rfl rfl rfl ?_
                      refine s_iconst (n := 12) (v := (-1)) dX4_isSuch_11 rfl (by decide) ?_
                      refine s_icmp_eq (n := 15) (tgt := 32) dX4_isSuch_12 rfl rfl (fun b12 => ?_) (fun b12 => ?_)
                      · refine s_iload_n (n := 33) (i := 2) dX4_isSuch_32 rfl rfl rfl ?_
                        refine s_iload_n (n := 34) (i := 1) dX4_isSuch_33 rfl rfl rfl ?_
                        refine s_icmp_ne (n := 37) (tgt := 41) dX4_isSuch_34 rfl rfl (fun b34 => ?_) (fun b34 => ?_)
                        · refine s_iconst (n := 42) (v := 0) dX4_isSuch_41 rfl (by decide) ?_
                          refine s_ireturn dX4_isSuch_42 rfl (rfl) (Nat.le_refl _) (Nat.le_refl _) ?_
                          exact ⟨rfl, rfl⟩
                        · exact absurd b34 (by decide)
                      · exact absurd b12 (by decide)
set_option maxRecDepth 100000 in
set_option maxHeartbeats 4000000 in
theorem c_such_5_4 {G : mj_G} {h : mj_H} {d : Nat} : mj_con G MX4_isSuch d 0 0 [.int 5, .int 4] h (rI 1 h) := by
  refine mj_conS okX4_isSuch (ls := [some (.int 5), some (.int 4), none, none]) rfl rfl ?_
  refine s_iload_n (n := 1) (i := 0) dX4_isSuch_0 rfl rfl rfl ?_
  refine s_istore_n (n := 2) (i := 2) (ls' := [_, _, _, _]) dX4_isSuch_1 rfl rfl rfl rfl rfl ?_
  refine s_iconst (n := 3) (v := 0) dX4_isSuch_2 rfl (by decide) ?_
  refine s_istore_n (n := 4) (i := 3) (ls' := [_, _, _, _]) dX4_isSuch_3 rfl rfl rfl rfl rfl ?_
  refine s_iload_n (n := 5) (i := 3) dX4_isSuch_4 rfl rfl rfl ?_
  refine s_bipush (n := 7) (v := 6) dX4_isSuch_5 rfl (by decide) ?_
  refine s_icmp_ge (n := 10) (tgt := 32) dX4_isSuch_7 rfl rfl (fun b7 => ?_) (fun b7 => ?_)
  · exact absurd b7 (by decide)
  · refine s_iload_n (n := 11) (i := 2) dX4_isSuch_10 rfl rfl rfl ?_
    refine s_iconst (n := 12) (v := (-1)) dX4_isSuch_11 rfl (by decide) ?_
    refine s_icmp_eq (n := 15) (tgt := 32) dX4_isSuch_12 rfl rfl (fun b12 => ?_) (fun b12 => ?_)
    · exact absurd b12 (by decide)
    · refine s_iload_n (n := 16) (i := 2) dX4_isSuch_15 rfl rfl rfl ?_
      refine s_iload_n (n := 17) (i := 1) dX4_isSuch_16 rfl rfl rfl ?_
      refine s_icmp_eq (n := 20) (tgt := 32) dX4_isSuch_17 rfl rfl (fun b17 => ?_) (fun b17 => ?_)
      · exact absurd b17 (by decide)
      · refine s_gets1 (n := 23) dX4_isSuch_20 rfl wd_X4_286 ?_
        refine s_iload_n (n := 24) (i := 2) dX4_isSuch_23 rfl rfl rfl ?_
        refine s_tald (t := 1) (by omega) (by omega) (n := 25) dX4_isSuch_24 rfl (mj_ixe (j := 5) (by decide) (by omega)) ?_
        refine s_istore_n (n := 26) (i := 2) (ls' := [_, _, _, _]) dX4_isSuch_25 rfl rfl rfl rfl rfl ?_
        refine s_iinc (n := 29) (v := _ + 1) (ls' := [_, _, _, _]) dX4_isSuch_26 rfl rfl rfl rfl rfl ?_
        refine s_goto (tgt := 4) dX4_isSuch_29 rfl ?_
        refine s_iload_n (n := 5) (i := 3) dX4_isSuch_4 rfl rfl rfl ?_
        refine s_bipush (n := 7) (v := 6) dX4_isSuch_5 rfl (by decide) ?_
        refine s_icmp_ge (n := 10) (tgt := 32) dX4_isSuch_7 rfl rfl (fun b7 => ?_) (fun b7 => ?_)
        · exact absurd b7 (by decide)
        · refine s_iload_n (n := 11) (i := 2) dX4_isSuch_10 rfl rfl rfl ?_
          refine s_iconst (n := 12) (v := (-1)) dX4_isSuch_11 rfl (by decide) ?_
          refine s_icmp_eq (n := 15) (tgt := 32) dX4_isSuch_12 rfl rfl (fun b12 => ?_) (fun b12 => ?_)
          · exact absurd b12 (by decide)
          · refine s_iload_n (n := 16) (i := 2) dX4_isSuch_15 rfl rfl rfl ?_
            refine s_iload_n (n := 17) (i := 1) dX4_isSuch_16 rfl rfl rfl ?_
            refine s_icmp_eq (n := 20) (tgt := 32) dX4_isSuch_17 rfl rfl (fun b17 => ?_) (fun b17 => ?_)
            · refine s_iload_n (n := 33) (i := 2) dX4_isSuch_32 rfl rfl rfl ?_
              refine s_iload_n (n := 34) (i := 1) dX4_isSuch_33 rfl rfl rfl ?_
              refine s_icmp_ne (n := 37) (tgt := 41) dX4_isSuch_34 rfl rfl (fun b34 => ?_) (fun b34 => ?_)
              · exact absurd b34 (by decide)
              · refine s_iconst (n := 38) (v := 1) dX4_isSuch_37 rfl (by decide) ?_
                refine s_goto (tgt := 42) dX4_isSuch_38 rfl ?_
                refine s_ireturn dX4_isSuch_42 rfl (rfl) (Nat.le_refl _) (Nat.le_refl _) ?_
                exact ⟨rfl, rfl⟩
            · exact absurd b17 (by decide)
set_option maxRecDepth 100000 in
set_option maxHeartbeats 4000000 in
theorem c_such_5_5 {G : mj_G} {h : mj_H} {d : Nat} : mj_con G MX4_isSuch d 0 0 [.int 5, .int 5] h (rI 1 h) := by
  refine mj_conS okX4_isSuch (ls := [some (.int 5), some (.int 5), none, none]) rfl rfl ?_
  refine s_iload_n (n := 1) (i := 0) dX4_isSuch_0 rfl rfl rfl ?_
  refine s_istore_n (n := 2) (i := 2) (ls' := [_, _, _, _]) dX4_isSuch_1 rfl rfl rfl rfl rfl ?_
  refine s_iconst (n := 3) (v := 0) dX4_isSuch_2 rfl (by decide) ?_
  refine s_istore_n (n := 4) (i := 3) (ls' := [_, _, _, _]) dX4_isSuch_3 rfl rfl rfl rfl rfl ?_
  refine s_iload_n (n := 5) (i := 3) dX4_isSuch_4 rfl rfl rfl ?_
  refine s_bipush (n := 7) (v := 6) dX4_isSuch_5 rfl (by decide) ?_
  refine s_icmp_ge (n := 10) (tgt := 32) dX4_isSuch_7 rfl rfl (fun b7 => ?_) (fun b7 => ?_)
  · exact absurd b7 (by decide)
  · refine s_iload_n (n := 11) (i := 2) dX4_isSuch_10 rfl rfl rfl ?_
    refine s_iconst (n := 12) (v := (-1)) dX4_isSuch_11 rfl (by decide) ?_
    refine s_icmp_eq (n := 15) (tgt := 32) dX4_isSuch_12 rfl rfl (fun b12 => ?_) (fun b12 => ?_)
    · exact absurd b12 (by decide)
    · refine s_iload_n (n := 16) (i := 2) dX4_isSuch_15 rfl rfl rfl ?_
      refine s_iload_n (n := 17) (i := 1) dX4_isSuch_16 rfl rfl rfl ?_
      refine s_icmp_eq (n := 20) (tgt := 32) dX4_isSuch_17 rfl rfl (fun b17 => ?_) (fun b17 => ?_)
      · refine s_iload_n (n := 33) (i := 2) dX4_isSuch_32 rfl rfl rfl ?_
        refine s_iload_n (n := 34) (i := 1) dX4_isSuch_33 rfl rfl rfl ?_
        refine s_icmp_ne (n := 37) (tgt := 41) dX4_isSuch_34 rfl rfl (fun b34 => ?_) (fun b34 => ?_)
        · exact absurd b34 (by decide)
        · refine s_iconst (n := 38) (v := 1) dX4_isSuch_37 rfl (by decide) ?_
          refine s_goto (tgt := 42) dX4_isSuch_38 rfl ?_
          refine s_ireturn dX4_isSuch_42 rfl (rfl) (Nat.le_refl _) (Nat.le_refl _) ?_
          exact ⟨rfl, rfl⟩
      · exact absurd b17 (by decide)
def such (k w : Nat) : Int32 := if w = 0 ∨ k = w ∨ (w = 1 ∧ k < 4) ∨ (w = 4 ∧ k = 5) then 1 else 0
theorem c_isSuch {G : mj_G} {h : mj_H} {d k w : Nat} (h1 : 1 ≤ k) (h5 : k ≤ 5) (hw : w ≤ 5) : mj_con G MX4_isSuch d 0 0 [.int (nI k), .int (nI w)] h (rI (such k w) h) := by
  match k, h1, h5, w, hw with
  | 1, _, _, 0, _ => exact c_such_1_0
  | 1, _, _, 1, _ => exact c_such_1_1
  | 1, _, _, 2, _ => exact c_such_1_2
  | 1, _, _, 3, _ => exact c_such_1_3
  | 1, _, _, 4, _ => exact c_such_1_4
  | 1, _, _, 5, _ => exact c_such_1_5
  | 2, _, _, 0, _ => exact c_such_2_0
  | 2, _, _, 1, _ => exact c_such_2_1
  | 2, _, _, 2, _ => exact c_such_2_2
  | 2, _, _, 3, _ => exact c_such_2_3
  | 2, _, _, 4, _ => exact c_such_2_4
  | 2, _, _, 5, _ => exact c_such_2_5
  | 3, _, _, 0, _ => exact c_such_3_0
  | 3, _, _, 1, _ => exact c_such_3_1
  | 3, _, _, 2, _ => exact c_such_3_2
  | 3, _, _, 3, _ => exact c_such_3_3
  | 3, _, _, 4, _ => exact c_such_3_4
  | 3, _, _, 5, _ => exact c_such_3_5
  | 4, _, _, 0, _ => exact c_such_4_0
  | 4, _, _, 1, _ => exact c_such_4_1
  | 4, _, _, 2, _ => exact c_such_4_2
  | 4, _, _, 3, _ => exact c_such_4_3
  | 4, _, _, 4, _ => exact c_such_4_4
  | 4, _, _, 5, _ => exact c_such_4_5
  | 5, _, _, 0, _ => exact c_such_5_0
  | 5, _, _, 1, _ => exact c_such_5_1
  | 5, _, _, 2, _ => exact c_such_5_2
  | 5, _, _, 3, _ => exact c_such_5_3
  | 5, _, _, 4, _ => exact c_such_5_4
  | 5, _, _, 5, _ => exact c_such_5_5
set_option maxRecDepth 100000 in
set_option maxHeartbeats 4000000 in
theorem c_body_1_0 {G : mj_G} {h : mj_H} {d : Nat} : mj_con G MX4_bodyFor d 0 0 [.int 1, .int 0] h (rI 11 h) := by
  refine mj_conS okX4_bodyFor (ls := [some (.int 1), some (.int 0), none, none, none]) rfl rfl ?_
  refine s_iload_n (n := 1) (i := 0) dX4_bodyFor_0 rfl rfl rfl ?_
  refine s_istore_n (n := 2) (i := 2) (ls' := [_, _, _, _, _]) dX4_bodyFor_1 rfl rfl rfl rfl rfl ?_
  refine s_iconst (n := 3) (v := 0) dX4_bodyFor_2 rfl (by decide) ?_
  refine s_istore_n (n := 4) (i := 3) (ls' := [_, _, _, _, _]) dX4_bodyFor_3 rfl rfl rfl rfl rfl ?_
  refine s_iconst (n := 5) (v := 0) dX4_bodyFor_4 rfl (by decide) ?_
  refine s_istore (n := 7) (i := 4) (ls' := [_, _, _, _, _]) dX4_bodyFor_5 rfl rfl rfl rfl ?_
  refine s_iload (n := 9) dX4_bodyFor_7 rfl rfl ?_
  refine s_bipush (n := 11) (v := 6) dX4_bodyFor_9 rfl (by decide) ?_
  refine s_icmp_ge (n := 14) (tgt := 53) dX4_bodyFor_11 rfl rfl (fun b11 => ?_) (fun b11 => ?_)
  · exact absurd b11 (by decide)
  · refine s_iload_n (n := 15) (i := 2) dX4_bodyFor_14 rfl rfl rfl ?_
    refine s_iconst (n := 16) (v := (-1)) dX4_bodyFor_15 rfl (by decide) ?_
    refine s_icmp_eq (n := 19) (tgt := 53) dX4_bodyFor_16 rfl rfl (fun b16 => ?_) (fun b16 => ?_)
    · exact absurd b16 (by decide)
    · refine s_iload_n (n := 20) (i := 3) dX4_bodyFor_19 rfl rfl rfl ?_
      refine s_if_ne (n := 23) (tgt := 53) dX4_bodyFor_20 rfl rfl (fun b20 => ?_) (fun b20 => ?_)
      · exact absurd b20 (by decide)
      · refine s_iload_n (n := 24) (i := 1) dX4_bodyFor_23 rfl rfl rfl ?_
        refine s_if_ne (n := 27) (tgt := 35) dX4_bodyFor_24 rfl rfl (fun b24 => ?_) (fun b24 => ?_)
        · exact absurd b24 (by decide)
        · refine s_gets2 (n := 30) dX4_bodyFor_27 rfl wd_X4_289 ?_
          refine s_iload_n (n := 31) (i := 2) dX4_bodyFor_30 rfl rfl rfl ?_
          refine s_tald (t := 2) (by omega) (by omega) (n := 32) dX4_bodyFor_31 rfl (mj_ixe (j := 1) (by decide) (by omega)) ?_
          refine s_goto (tgt := 40) dX4_bodyFor_32 rfl ?_
          refine s_istore_n (n := 41) (i := 3) (ls' := [_, _, _, _, _]) dX4_bodyFor_40 rfl rfl rfl rfl rfl ?_
          refine s_gets1 (n := 44) dX4_bodyFor_41 rfl wd_X4_286 ?_
          refine s_iload_n (n := 45) (i := 2) dX4_bodyFor_44 rfl rfl rfl ?_
          refine s_tald (t := 1) (by omega) (by omega) (n := 46) dX4_bodyFor_45 rfl (mj_ixe (j := 1) (by decide) (by omega)) ?_
          refine s_istore_n (n := 47) (i := 2) (ls' := [_, _, _, _, _]) dX4_bodyFor_46 rfl rfl rfl rfl rfl ?_
          refine s_iinc (n := 50) (v := _ + 1) (ls' := [_, _, _, _, _]) dX4_bodyFor_47 rfl rfl rfl rfl rfl ?_
          refine s_goto (tgt := 7) dX4_bodyFor_50 rfl ?_
          refine s_iload (n := 9) dX4_bodyFor_7 rfl rfl ?_
          refine s_bipush (n := 11) (v := 6) dX4_bodyFor_9 rfl (by decide) ?_
          refine s_icmp_ge (n := 14) (tgt := 53) dX4_bodyFor_11 rfl rfl (fun b11 => ?_) (fun b11 => ?_)
          · exact absurd b11 (by decide)
          · refine s_iload_n (n := 15) (i := 2) dX4_bodyFor_14 rfl rfl rfl ?_
            refine s_iconst (n := 16) (v := (-1)) dX4_bodyFor_15 rfl (by decide) ?_
            refine s_icmp_eq (n := 19) (tgt := 53) dX4_bodyFor_16 rfl rfl (fun b16 => ?_) (fun b16 => ?_)
            · exact absurd b16 (by decide)
            · refine s_iload_n (n := 20) (i := 3) dX4_bodyFor_19 rfl rfl rfl ?_
              refine s_if_ne (n := 23) (tgt := 53) dX4_bodyFor_20 rfl rfl (fun b20 => ?_) (fun b20 => ?_)
              · refine s_iload_n (n := 54) (i := 3) dX4_bodyFor_53 rfl rfl rfl ?_
                refine s_ireturn dX4_bodyFor_54 rfl (rfl) (Nat.le_refl _) (Nat.le_refl _) ?_
                exact ⟨rfl, rfl⟩
              · exact absurd b20 (by decide)
set_option maxRecDepth 100000 in
set_option maxHeartbeats 4000000 in
theorem c_body_1_1 {G : mj_G} {h : mj_H} {d : Nat} : mj_con G MX4_bodyFor d 0 0 [.int 1, .int 1] h (rI 21 h) := by
  refine mj_conS okX4_bodyFor (ls := [some (.int 1), some (.int 1), none, none, none]) rfl rfl ?_
  refine s_iload_n (n := 1) (i := 0) dX4_bodyFor_0 rfl rfl rfl ?_
  refine s_istore_n (n := 2) (i := 2) (ls' := [_, _, _, _, _]) dX4_bodyFor_1 rfl rfl rfl rfl rfl ?_
  refine s_iconst (n := 3) (v := 0) dX4_bodyFor_2 rfl (by decide) ?_
  refine s_istore_n (n := 4) (i := 3) (ls' := [_, _, _, _, _]) dX4_bodyFor_3 rfl rfl rfl rfl rfl ?_
  refine s_iconst (n := 5) (v := 0) dX4_bodyFor_4 rfl (by decide) ?_
  refine s_istore (n := 7) (i := 4) (ls' := [_, _, _, _, _]) dX4_bodyFor_5 rfl rfl rfl rfl ?_
  refine s_iload (n := 9) dX4_bodyFor_7 rfl rfl ?_
  refine s_bipush (n := 11) (v := 6) dX4_bodyFor_9 rfl (by decide) ?_
  refine s_icmp_ge (n := 14) (tgt := 53) dX4_bodyFor_11 rfl rfl (fun b11 => ?_) (fun b11 => ?_)
  · exact absurd b11 (by decide)
  · refine s_iload_n (n := 15) (i := 2) dX4_bodyFor_14 rfl rfl rfl ?_
    refine s_iconst (n := 16) (v := (-1)) dX4_bodyFor_15 rfl (by decide) ?_
    refine s_icmp_eq (n := 19) (tgt := 53) dX4_bodyFor_16 rfl rfl (fun b16 => ?_) (fun b16 => ?_)
    · exact absurd b16 (by decide)
    · refine s_iload_n (n := 20) (i := 3) dX4_bodyFor_19 rfl rfl rfl ?_
      refine s_if_ne (n := 23) (tgt := 53) dX4_bodyFor_20 rfl rfl (fun b20 => ?_) (fun b20 => ?_)
      · exact absurd b20 (by decide)
      · refine s_iload_n (n := 24) (i := 1) dX4_bodyFor_23 rfl rfl rfl ?_
        refine s_if_ne (n := 27) (tgt := 35) dX4_bodyFor_24 rfl rfl (fun b24 => ?_) (fun b24 => ?_)
        · refine s_gets3 (n := 38) dX4_bodyFor_35 rfl wd_X4_292 ?_
          refine s_iload_n (n := 39) (i := 2) dX4_bodyFor_38 rfl rfl rfl ?_
          refine s_tald (t := 3) (by omega) (by omega) (n := 40) dX4_bodyFor_39 rfl (mj_ixe (j := 1) (by decide) (by omega)) ?_
          refine s_istore_n (n := 41) (i := 3) (ls' := [_, _, _, _, _]) dX4_bodyFor_40 rfl rfl rfl rfl rfl ?_
          refine s_gets1 (n := 44) dX4_bodyFor_41 rfl wd_X4_286 ?_
          refine s_iload_n (n := 45) (i := 2) dX4_bodyFor_44 rfl rfl rfl ?_
          refine s_tald (t := 1) (by omega) (by omega) (n := 46) dX4_bodyFor_45 rfl (mj_ixe (j := 1) (by decide) (by omega)) ?_
          refine s_istore_n (n := 47) (i := 2) (ls' := [_, _, _, _, _]) dX4_bodyFor_46 rfl rfl rfl rfl rfl ?_
          refine s_iinc (n := 50) (v := _ + 1) (ls' := [_, _, _, _, _]) dX4_bodyFor_47 rfl rfl rfl rfl rfl ?_
          refine s_goto (tgt := 7) dX4_bodyFor_50 rfl ?_
          refine s_iload (n := 9) dX4_bodyFor_7 rfl rfl ?_
          refine s_bipush (n := 11) (v := 6) dX4_bodyFor_9 rfl (by decide) ?_
          refine s_icmp_ge (n := 14) (tgt := 53) dX4_bodyFor_11 rfl rfl (fun b11 => ?_) (fun b11 => ?_)
          · exact absurd b11 (by decide)
          · refine s_iload_n (n := 15) (i := 2) dX4_bodyFor_14 rfl rfl rfl ?_
            refine s_iconst (n := 16) (v := (-1)) dX4_bodyFor_15 rfl (by decide) ?_
            refine s_icmp_eq (n := 19) (tgt := 53) dX4_bodyFor_16 rfl rfl (fun b16 => ?_) (fun b16 => ?_)
            · exact absurd b16 (by decide)
            · refine s_iload_n (n := 20) (i := 3) dX4_bodyFor_19 rfl rfl rfl ?_
              refine s_if_ne (n := 23) (tgt := 53) dX4_bodyFor_20 rfl rfl (fun b20 => ?_) (fun b20 => ?_)
              · refine s_iload_n (n := 54) (i := 3) dX4_bodyFor_53 rfl rfl rfl ?_
                refine s_ireturn dX4_bodyFor_54 rfl (rfl) (Nat.le_refl _) (Nat.le_refl _) ?_
                exact ⟨rfl, rfl⟩
              · exact absurd b20 (by decide)
        · exact absurd b24 (by decide)
set_option maxRecDepth 100000 in
set_option maxHeartbeats 4000000 in
theorem c_body_2_0 {G : mj_G} {h : mj_H} {d : Nat} : mj_con G MX4_bodyFor d 0 0 [.int 2, .int 0] h (rI 12 h) := by
  refine mj_conS okX4_bodyFor (ls := [some (.int 2), some (.int 0), none, none, none]) rfl rfl ?_
  refine s_iload_n (n := 1) (i := 0) dX4_bodyFor_0 rfl rfl rfl ?_
  refine s_istore_n (n := 2) (i := 2) (ls' := [_, _, _, _, _]) dX4_bodyFor_1 rfl rfl rfl rfl rfl ?_
  refine s_iconst (n := 3) (v := 0) dX4_bodyFor_2 rfl (by decide) ?_
  refine s_istore_n (n := 4) (i := 3) (ls' := [_, _, _, _, _]) dX4_bodyFor_3 rfl rfl rfl rfl rfl ?_
  refine s_iconst (n := 5) (v := 0) dX4_bodyFor_4 rfl (by decide) ?_
  refine s_istore (n := 7) (i := 4) (ls' := [_, _, _, _, _]) dX4_bodyFor_5 rfl rfl rfl rfl ?_
  refine s_iload (n := 9) dX4_bodyFor_7 rfl rfl ?_
  refine s_bipush (n := 11) (v := 6) dX4_bodyFor_9 rfl (by decide) ?_
  refine s_icmp_ge (n := 14) (tgt := 53) dX4_bodyFor_11 rfl rfl (fun b11 => ?_) (fun b11 => ?_)
  · exact absurd b11 (by decide)
  · refine s_iload_n (n := 15) (i := 2) dX4_bodyFor_14 rfl rfl rfl ?_
    refine s_iconst (n := 16) (v := (-1)) dX4_bodyFor_15 rfl (by decide) ?_
    refine s_icmp_eq (n := 19) (tgt := 53) dX4_bodyFor_16 rfl rfl (fun b16 => ?_) (fun b16 => ?_)
    · exact absurd b16 (by decide)
    · refine s_iload_n (n := 20) (i := 3) dX4_bodyFor_19 rfl rfl rfl ?_
      refine s_if_ne (n := 23) (tgt := 53) dX4_bodyFor_20 rfl rfl (fun b20 => ?_) (fun b20 => ?_)
      · exact absurd b20 (by decide)
      · refine s_iload_n (n := 24) (i := 1) dX4_bodyFor_23 rfl rfl rfl ?_
        refine s_if_ne (n := 27) (tgt := 35) dX4_bodyFor_24 rfl rfl (fun b24 => ?_) (fun b24 => ?_)
        · exact absurd b24 (by decide)
        · refine s_gets2 (n := 30) dX4_bodyFor_27 rfl wd_X4_289 ?_
          refine s_iload_n (n := 31) (i := 2) dX4_bodyFor_30 rfl rfl rfl ?_
          refine s_tald (t := 2) (by omega) (by omega) (n := 32) dX4_bodyFor_31 rfl (mj_ixe (j := 2) (by decide) (by omega)) ?_
          refine s_goto (tgt := 40) dX4_bodyFor_32 rfl ?_
          refine s_istore_n (n := 41) (i := 3) (ls' := [_, _, _, _, _]) dX4_bodyFor_40 rfl rfl rfl rfl rfl ?_
          refine s_gets1 (n := 44) dX4_bodyFor_41 rfl wd_X4_286 ?_
          refine s_iload_n (n := 45) (i := 2) dX4_bodyFor_44 rfl rfl rfl ?_
          refine s_tald (t := 1) (by omega) (by omega) (n := 46) dX4_bodyFor_45 rfl (mj_ixe (j := 2) (by decide) (by omega)) ?_
          refine s_istore_n (n := 47) (i := 2) (ls' := [_, _, _, _, _]) dX4_bodyFor_46 rfl rfl rfl rfl rfl ?_
          refine s_iinc (n := 50) (v := _ + 1) (ls' := [_, _, _, _, _]) dX4_bodyFor_47 rfl rfl rfl rfl rfl ?_
          refine s_goto (tgt := 7) dX4_bodyFor_50 rfl ?_
          refine s_iload (n := 9) dX4_bodyFor_7 rfl rfl ?_
          refine s_bipush (n := 11) (v := 6) dX4_bodyFor_9 rfl (by decide) ?_
          refine s_icmp_ge (n := 14) (tgt := 53) dX4_bodyFor_11 rfl rfl (fun b11 => ?_) (fun b11 => ?_)
          · exact absurd b11 (by decide)
          · refine s_iload_n (n := 15) (i := 2) dX4_bodyFor_14 rfl rfl rfl ?_
            refine s_iconst (n := 16) (v := (-1)) dX4_bodyFor_15 rfl (by decide) ?_
            refine s_icmp_eq (n := 19) (tgt := 53) dX4_bodyFor_16 rfl rfl (fun b16 => ?_) (fun b16 => ?_)
            · exact absurd b16 (by decide)
            · refine s_iload_n (n := 20) (i := 3) dX4_bodyFor_19 rfl rfl rfl ?_
              refine s_if_ne (n := 23) (tgt := 53) dX4_bodyFor_20 rfl rfl (fun b20 => ?_) (fun b20 => ?_)
              · refine s_iload_n (n := 54) (i := 3) dX4_bodyFor_53 rfl rfl rfl ?_
                refine s_ireturn dX4_bodyFor_54 rfl (rfl) (Nat.le_refl _) (Nat.le_refl _) ?_
                exact ⟨rfl, rfl⟩
              · exact absurd b20 (by decide)
set_option maxRecDepth 100000 in
set_option maxHeartbeats 4000000 in
theorem c_body_2_1 {G : mj_G} {h : mj_H} {d : Nat} : mj_con G MX4_bodyFor d 0 0 [.int 2, .int 1] h (rI 24 h) := by
  refine mj_conS okX4_bodyFor (ls := [some (.int 2), some (.int 1), none, none, none]) rfl rfl ?_
  refine s_iload_n (n := 1) (i := 0) dX4_bodyFor_0 rfl rfl rfl ?_
  refine s_istore_n (n := 2) (i := 2) (ls' := [_, _, _, _, _]) dX4_bodyFor_1 rfl rfl rfl rfl rfl ?_
  refine s_iconst (n := 3) (v := 0) dX4_bodyFor_2 rfl (by decide) ?_
  refine s_istore_n (n := 4) (i := 3) (ls' := [_, _, _, _, _]) dX4_bodyFor_3 rfl rfl rfl rfl rfl ?_
  refine s_iconst (n := 5) (v := 0) dX4_bodyFor_4 rfl (by decide) ?_
  refine s_istore (n := 7) (i := 4) (ls' := [_, _, _, _, _]) dX4_bodyFor_5 rfl rfl rfl rfl ?_
  refine s_iload (n := 9) dX4_bodyFor_7 rfl rfl ?_
  refine s_bipush (n := 11) (v := 6) dX4_bodyFor_9 rfl (by decide) ?_
  refine s_icmp_ge (n := 14) (tgt := 53) dX4_bodyFor_11 rfl rfl (fun b11 => ?_) (fun b11 => ?_)
  · exact absurd b11 (by decide)
  · refine s_iload_n (n := 15) (i := 2) dX4_bodyFor_14 rfl rfl rfl ?_
    refine s_iconst (n := 16) (v := (-1)) dX4_bodyFor_15 rfl (by decide) ?_
    refine s_icmp_eq (n := 19) (tgt := 53) dX4_bodyFor_16 rfl rfl (fun b16 => ?_) (fun b16 => ?_)
    · exact absurd b16 (by decide)
    · refine s_iload_n (n := 20) (i := 3) dX4_bodyFor_19 rfl rfl rfl ?_
      refine s_if_ne (n := 23) (tgt := 53) dX4_bodyFor_20 rfl rfl (fun b20 => ?_) (fun b20 => ?_)
      · exact absurd b20 (by decide)
      · refine s_iload_n (n := 24) (i := 1) dX4_bodyFor_23 rfl rfl rfl ?_
        refine s_if_ne (n := 27) (tgt := 35) dX4_bodyFor_24 rfl rfl (fun b24 => ?_) (fun b24 => ?_)
        · refine s_gets3 (n := 38) dX4_bodyFor_35 rfl wd_X4_292 ?_
          refine s_iload_n (n := 39) (i := 2) dX4_bodyFor_38 rfl rfl rfl ?_
          refine s_tald (t := 3) (by omega) (by omega) (n := 40) dX4_bodyFor_39 rfl (mj_ixe (j := 2) (by decide) (by omega)) ?_
          refine s_istore_n (n := 41) (i := 3) (ls' := [_, _, _, _, _]) dX4_bodyFor_40 rfl rfl rfl rfl rfl ?_
          refine s_gets1 (n := 44) dX4_bodyFor_41 rfl wd_X4_286 ?_
          refine s_iload_n (n := 45) (i := 2) dX4_bodyFor_44 rfl rfl rfl ?_
          refine s_tald (t := 1) (by omega) (by omega) (n := 46) dX4_bodyFor_45 rfl (mj_ixe (j := 2) (by decide) (by omega)) ?_
          refine s_istore_n (n := 47) (i := 2) (ls' := [_, _, _, _, _]) dX4_bodyFor_46 rfl rfl rfl rfl rfl ?_
          refine s_iinc (n := 50) (v := _ + 1) (ls' := [_, _, _, _, _]) dX4_bodyFor_47 rfl rfl rfl rfl rfl ?_
          refine s_goto (tgt := 7) dX4_bodyFor_50 rfl ?_
          refine s_iload (n := 9) dX4_bodyFor_7 rfl rfl ?_
          refine s_bipush (n := 11) (v := 6) dX4_bodyFor_9 rfl (by decide) ?_
          refine s_icmp_ge (n := 14) (tgt := 53) dX4_bodyFor_11 rfl rfl (fun b11 => ?_) (fun b11 => ?_)
          · exact absurd b11 (by decide)
          · refine s_iload_n (n := 15) (i := 2) dX4_bodyFor_14 rfl rfl rfl ?_
            refine s_iconst (n := 16) (v := (-1)) dX4_bodyFor_15 rfl (by decide) ?_
            refine s_icmp_eq (n := 19) (tgt := 53) dX4_bodyFor_16 rfl rfl (fun b16 => ?_) (fun b16 => ?_)
            · exact absurd b16 (by decide)
            · refine s_iload_n (n := 20) (i := 3) dX4_bodyFor_19 rfl rfl rfl ?_
              refine s_if_ne (n := 23) (tgt := 53) dX4_bodyFor_20 rfl rfl (fun b20 => ?_) (fun b20 => ?_)
              · refine s_iload_n (n := 54) (i := 3) dX4_bodyFor_53 rfl rfl rfl ?_
                refine s_ireturn dX4_bodyFor_54 rfl (rfl) (Nat.le_refl _) (Nat.le_refl _) ?_
                exact ⟨rfl, rfl⟩
              · exact absurd b20 (by decide)
        · exact absurd b24 (by decide)
set_option maxRecDepth 100000 in
set_option maxHeartbeats 4000000 in
theorem c_body_3_0 {G : mj_G} {h : mj_H} {d : Nat} : mj_con G MX4_bodyFor d 0 0 [.int 3, .int 0] h (rI 11 h) := by
  refine mj_conS okX4_bodyFor (ls := [some (.int 3), some (.int 0), none, none, none]) rfl rfl ?_
  refine s_iload_n (n := 1) (i := 0) dX4_bodyFor_0 rfl rfl rfl ?_
  refine s_istore_n (n := 2) (i := 2) (ls' := [_, _, _, _, _]) dX4_bodyFor_1 rfl rfl rfl rfl rfl ?_
  refine s_iconst (n := 3) (v := 0) dX4_bodyFor_2 rfl (by decide) ?_
  refine s_istore_n (n := 4) (i := 3) (ls' := [_, _, _, _, _]) dX4_bodyFor_3 rfl rfl rfl rfl rfl ?_
  refine s_iconst (n := 5) (v := 0) dX4_bodyFor_4 rfl (by decide) ?_
  refine s_istore (n := 7) (i := 4) (ls' := [_, _, _, _, _]) dX4_bodyFor_5 rfl rfl rfl rfl ?_
  refine s_iload (n := 9) dX4_bodyFor_7 rfl rfl ?_
  refine s_bipush (n := 11) (v := 6) dX4_bodyFor_9 rfl (by decide) ?_
  refine s_icmp_ge (n := 14) (tgt := 53) dX4_bodyFor_11 rfl rfl (fun b11 => ?_) (fun b11 => ?_)
  · exact absurd b11 (by decide)
  · refine s_iload_n (n := 15) (i := 2) dX4_bodyFor_14 rfl rfl rfl ?_
    refine s_iconst (n := 16) (v := (-1)) dX4_bodyFor_15 rfl (by decide) ?_
    refine s_icmp_eq (n := 19) (tgt := 53) dX4_bodyFor_16 rfl rfl (fun b16 => ?_) (fun b16 => ?_)
    · exact absurd b16 (by decide)
    · refine s_iload_n (n := 20) (i := 3) dX4_bodyFor_19 rfl rfl rfl ?_
      refine s_if_ne (n := 23) (tgt := 53) dX4_bodyFor_20 rfl rfl (fun b20 => ?_) (fun b20 => ?_)
      · exact absurd b20 (by decide)
      · refine s_iload_n (n := 24) (i := 1) dX4_bodyFor_23 rfl rfl rfl ?_
        refine s_if_ne (n := 27) (tgt := 35) dX4_bodyFor_24 rfl rfl (fun b24 => ?_) (fun b24 => ?_)
        · exact absurd b24 (by decide)
        · refine s_gets2 (n := 30) dX4_bodyFor_27 rfl wd_X4_289 ?_
          refine s_iload_n (n := 31) (i := 2) dX4_bodyFor_30 rfl rfl rfl ?_
          refine s_tald (t := 2) (by omega) (by omega) (n := 32) dX4_bodyFor_31 rfl (mj_ixe (j := 3) (by decide) (by omega)) ?_
          refine s_goto (tgt := 40) dX4_bodyFor_32 rfl ?_
          refine s_istore_n (n := 41) (i := 3) (ls' := [_, _, _, _, _]) dX4_bodyFor_40 rfl rfl rfl rfl rfl ?_
          refine s_gets1 (n := 44) dX4_bodyFor_41 rfl wd_X4_286 ?_
          refine s_iload_n (n := 45) (i := 2) dX4_bodyFor_44 rfl rfl rfl ?_
          refine s_tald (t := 1) (by omega) (by omega) (n := 46) dX4_bodyFor_45 rfl (mj_ixe (j := 3) (by decide) (by omega)) ?_
          refine s_istore_n (n := 47) (i := 2) (ls' := [_, _, _, _, _]) dX4_bodyFor_46 rfl rfl rfl rfl rfl ?_
          refine s_iinc (n := 50) (v := _ + 1) (ls' := [_, _, _, _, _]) dX4_bodyFor_47 rfl rfl rfl rfl rfl ?_
          refine s_goto (tgt := 7) dX4_bodyFor_50 rfl ?_
          refine s_iload (n := 9) dX4_bodyFor_7 rfl rfl ?_
          refine s_bipush (n := 11) (v := 6) dX4_bodyFor_9 rfl (by decide) ?_
          refine s_icmp_ge (n := 14) (tgt := 53) dX4_bodyFor_11 rfl rfl (fun b11 => ?_) (fun b11 => ?_)
          · exact absurd b11 (by decide)
          · refine s_iload_n (n := 15) (i := 2) dX4_bodyFor_14 rfl rfl rfl ?_
            refine s_iconst (n := 16) (v := (-1)) dX4_bodyFor_15 rfl (by decide) ?_
            refine s_icmp_eq (n := 19) (tgt := 53) dX4_bodyFor_16 rfl rfl (fun b16 => ?_) (fun b16 => ?_)
            · exact absurd b16 (by decide)
            · refine s_iload_n (n := 20) (i := 3) dX4_bodyFor_19 rfl rfl rfl ?_
              refine s_if_ne (n := 23) (tgt := 53) dX4_bodyFor_20 rfl rfl (fun b20 => ?_) (fun b20 => ?_)
              · exact absurd b20 (by decide)
              · refine s_iload_n (n := 24) (i := 1) dX4_bodyFor_23 rfl rfl rfl ?_
                refine s_if_ne (n := 27) (tgt := 35) dX4_bodyFor_24 rfl rfl (fun b24 => ?_) (fun b24 => ?_)
                · exact absurd b24 (by decide)
                · refine s_gets2 (n := 30) dX4_bodyFor_27 rfl wd_X4_289 ?_
                  refine s_iload_n (n := 31) (i := 2) dX4_bodyFor_30 rfl rfl rfl ?_
                  refine s_tald (t := 2) (by omega) (by omega) (n := 32) dX4_bodyFor_31 rfl (mj_ixe (j := 1) (by decide) (by omega)) ?_
                  refine s_goto (tgt := 40) dX4_bodyFor_32 rfl ?_
                  refine s_istore_n (n := 41) (i := 3) (ls' := [_, _, _, _, _]) dX4_bodyFor_40 rfl rfl rfl rfl rfl ?_
                  refine s_gets1 (n := 44) dX4_bodyFor_41 rfl wd_X4_286 ?_
                  refine s_iload_n (n := 45) (i := 2) dX4_bodyFor_44 rfl rfl rfl ?_
                  refine s_tald (t := 1) (by omega) (by omega) (n := 46) dX4_bodyFor_45 rfl (mj_ixe (j := 1) (by decide) (by omega)) ?_
                  refine s_istore_n (n := 47) (i := 2) (ls' := [_, _, _, _, _]) dX4_bodyFor_46 rfl rfl rfl rfl rfl ?_
                  refine s_iinc (n := 50) (v := _ + 1) (ls' := [_, _, _, _, _]) dX4_bodyFor_47 rfl rfl rfl rfl rfl ?_
                  refine s_goto (tgt := 7) dX4_bodyFor_50 rfl ?_
                  refine s_iload (n := 9) dX4_bodyFor_7 rfl rfl ?_
                  refine s_bipush (n := 11) (v := 6) dX4_bodyFor_9 rfl (by decide) ?_
                  refine s_icmp_ge (n := 14) (tgt := 53) dX4_bodyFor_11 rfl rfl (fun b11 => ?_) (fun b11 => ?_)
                  · exact absurd b11 (by decide)
                  · refine s_iload_n (n := 15) (i := 2) dX4_bodyFor_14 rfl rfl rfl ?_
                    refine s_iconst (n := 16) (v := (-1)) dX4_bodyFor_15 rfl (by decide) ?_
                    refine s_icmp_eq (n := 19) (tgt := 53) dX4_bodyFor_16 rfl rfl (fun b16 => ?_) (fun b16 => ?_)
                    · exact absurd b16 (by decide)
                    · refine s_iload_n (n := 20) (i := 3) dX4_bodyFor_19 rfl rfl rfl ?_
                      refine s_if_ne (n := 23) (tgt := 53) dX4_bodyFor_20 rfl rfl (fun b20 => ?_) (fun b20 => ?_)
                      · refine s_iload_n (n := 54) (i := 3) dX4_bodyFor_53 rfl rfl rfl ?_
                        refine s_ireturn dX4_bodyFor_54 rfl (rfl) (Nat.le_refl _) (Nat.le_refl _) ?_
                        exact ⟨rfl, rfl⟩
                      · exact absurd b20 (by decide)
set_option maxRecDepth 100000 in
set_option maxHeartbeats 4000000 in
theorem c_body_3_1 {G : mj_G} {h : mj_H} {d : Nat} : mj_con G MX4_bodyFor d 0 0 [.int 3, .int 1] h (rI 22 h) := by
  refine mj_conS okX4_bodyFor (ls := [some (.int 3), some (.int 1), none, none, none]) rfl rfl ?_
  refine s_iload_n (n := 1) (i := 0) dX4_bodyFor_0 rfl rfl rfl ?_
  refine s_istore_n (n := 2) (i := 2) (ls' := [_, _, _, _, _]) dX4_bodyFor_1 rfl rfl rfl rfl rfl ?_
  refine s_iconst (n := 3) (v := 0) dX4_bodyFor_2 rfl (by decide) ?_
  refine s_istore_n (n := 4) (i := 3) (ls' := [_, _, _, _, _]) dX4_bodyFor_3 rfl rfl rfl rfl rfl ?_
  refine s_iconst (n := 5) (v := 0) dX4_bodyFor_4 rfl (by decide) ?_
  refine s_istore (n := 7) (i := 4) (ls' := [_, _, _, _, _]) dX4_bodyFor_5 rfl rfl rfl rfl ?_
  refine s_iload (n := 9) dX4_bodyFor_7 rfl rfl ?_
  refine s_bipush (n := 11) (v := 6) dX4_bodyFor_9 rfl (by decide) ?_
  refine s_icmp_ge (n := 14) (tgt := 53) dX4_bodyFor_11 rfl rfl (fun b11 => ?_) (fun b11 => ?_)
  · exact absurd b11 (by decide)
  · refine s_iload_n (n := 15) (i := 2) dX4_bodyFor_14 rfl rfl rfl ?_
    refine s_iconst (n := 16) (v := (-1)) dX4_bodyFor_15 rfl (by decide) ?_
    refine s_icmp_eq (n := 19) (tgt := 53) dX4_bodyFor_16 rfl rfl (fun b16 => ?_) (fun b16 => ?_)
    · exact absurd b16 (by decide)
    · refine s_iload_n (n := 20) (i := 3) dX4_bodyFor_19 rfl rfl rfl ?_
      refine s_if_ne (n := 23) (tgt := 53) dX4_bodyFor_20 rfl rfl (fun b20 => ?_) (fun b20 => ?_)
      · exact absurd b20 (by decide)
      · refine s_iload_n (n := 24) (i := 1) dX4_bodyFor_23 rfl rfl rfl ?_
        refine s_if_ne (n := 27) (tgt := 35) dX4_bodyFor_24 rfl rfl (fun b24 => ?_) (fun b24 => ?_)
        · refine s_gets3 (n := 38) dX4_bodyFor_35 rfl wd_X4_292 ?_
          refine s_iload_n (n := 39) (i := 2) dX4_bodyFor_38 rfl rfl rfl ?_
          refine s_tald (t := 3) (by omega) (by omega) (n := 40) dX4_bodyFor_39 rfl (mj_ixe (j := 3) (by decide) (by omega)) ?_
          refine s_istore_n (n := 41) (i := 3) (ls' := [_, _, _, _, _]) dX4_bodyFor_40 rfl rfl rfl rfl rfl ?_
          refine s_gets1 (n := 44) dX4_bodyFor_41 rfl wd_X4_286 ?_
          refine s_iload_n (n := 45) (i := 2) dX4_bodyFor_44 rfl rfl rfl ?_
          refine s_tald (t := 1) (by omega) (by omega) (n := 46) dX4_bodyFor_45 rfl (mj_ixe (j := 3) (by decide) (by omega)) ?_
          refine s_istore_n (n := 47) (i := 2) (ls' := [_, _, _, _, _]) dX4_bodyFor_46 rfl rfl rfl rfl rfl ?_
          refine s_iinc (n := 50) (v := _ + 1) (ls' := [_, _, _, _, _]) dX4_bodyFor_47 rfl rfl rfl rfl rfl ?_
          refine s_goto (tgt := 7) dX4_bodyFor_50 rfl ?_
          refine s_iload (n := 9) dX4_bodyFor_7 rfl rfl ?_
          refine s_bipush (n := 11) (v := 6) dX4_bodyFor_9 rfl (by decide) ?_
          refine s_icmp_ge (n := 14) (tgt := 53) dX4_bodyFor_11 rfl rfl (fun b11 => ?_) (fun b11 => ?_)
          · exact absurd b11 (by decide)
          · refine s_iload_n (n := 15) (i := 2) dX4_bodyFor_14 rfl rfl rfl ?_
            refine s_iconst (n := 16) (v := (-1)) dX4_bodyFor_15 rfl (by decide) ?_
            refine s_icmp_eq (n := 19) (tgt := 53) dX4_bodyFor_16 rfl rfl (fun b16 => ?_) (fun b16 => ?_)
            · exact absurd b16 (by decide)
            · refine s_iload_n (n := 20) (i := 3) dX4_bodyFor_19 rfl rfl rfl ?_
              refine s_if_ne (n := 23) (tgt := 53) dX4_bodyFor_20 rfl rfl (fun b20 => ?_) (fun b20 => ?_)
              · refine s_iload_n (n := 54) (i := 3) dX4_bodyFor_53 rfl rfl rfl ?_
                refine s_ireturn dX4_bodyFor_54 rfl (rfl) (Nat.le_refl _) (Nat.le_refl _) ?_
                exact ⟨rfl, rfl⟩
              · exact absurd b20 (by decide)
        · exact absurd b24 (by decide)
set_option maxRecDepth 100000 in
set_option maxHeartbeats 4000000 in
theorem c_body_4_0 {G : mj_G} {h : mj_H} {d : Nat} : mj_con G MX4_bodyFor d 0 0 [.int 4, .int 0] h (rI 13 h) := by
  refine mj_conS okX4_bodyFor (ls := [some (.int 4), some (.int 0), none, none, none]) rfl rfl ?_
  refine s_iload_n (n := 1) (i := 0) dX4_bodyFor_0 rfl rfl rfl ?_
  refine s_istore_n (n := 2) (i := 2) (ls' := [_, _, _, _, _]) dX4_bodyFor_1 rfl rfl rfl rfl rfl ?_
  refine s_iconst (n := 3) (v := 0) dX4_bodyFor_2 rfl (by decide) ?_
  refine s_istore_n (n := 4) (i := 3) (ls' := [_, _, _, _, _]) dX4_bodyFor_3 rfl rfl rfl rfl rfl ?_
  refine s_iconst (n := 5) (v := 0) dX4_bodyFor_4 rfl (by decide) ?_
  refine s_istore (n := 7) (i := 4) (ls' := [_, _, _, _, _]) dX4_bodyFor_5 rfl rfl rfl rfl ?_
  refine s_iload (n := 9) dX4_bodyFor_7 rfl rfl ?_
  refine s_bipush (n := 11) (v := 6) dX4_bodyFor_9 rfl (by decide) ?_
  refine s_icmp_ge (n := 14) (tgt := 53) dX4_bodyFor_11 rfl rfl (fun b11 => ?_) (fun b11 => ?_)
  · exact absurd b11 (by decide)
  · refine s_iload_n (n := 15) (i := 2) dX4_bodyFor_14 rfl rfl rfl ?_
    refine s_iconst (n := 16) (v := (-1)) dX4_bodyFor_15 rfl (by decide) ?_
    refine s_icmp_eq (n := 19) (tgt := 53) dX4_bodyFor_16 rfl rfl (fun b16 => ?_) (fun b16 => ?_)
    · exact absurd b16 (by decide)
    · refine s_iload_n (n := 20) (i := 3) dX4_bodyFor_19 rfl rfl rfl ?_
      refine s_if_ne (n := 23) (tgt := 53) dX4_bodyFor_20 rfl rfl (fun b20 => ?_) (fun b20 => ?_)
      · exact absurd b20 (by decide)
      · refine s_iload_n (n := 24) (i := 1) dX4_bodyFor_23 rfl rfl rfl ?_
        refine s_if_ne (n := 27) (tgt := 35) dX4_bodyFor_24 rfl rfl (fun b24 => ?_) (fun b24 => ?_)
        · exact absurd b24 (by decide)
        · refine s_gets2 (n := 30) dX4_bodyFor_27 rfl wd_X4_289 ?_
          refine s_iload_n (n := 31) (i := 2) dX4_bodyFor_30 rfl rfl rfl ?_
          refine s_tald (t := 2) (by omega) (by omega) (n := 32) dX4_bodyFor_31 rfl (mj_ixe (j := 4) (by decide) (by omega)) ?_
          refine s_goto (tgt := 40) dX4_bodyFor_32 rfl ?_
          refine s_istore_n (n := 41) (i := 3) (ls' := [_, _, _, _, _]) dX4_bodyFor_40 rfl rfl rfl rfl rfl ?_
          refine s_gets1 (n := 44) dX4_bodyFor_41 rfl wd_X4_286 ?_
          refine s_iload_n (n := 45) (i := 2) dX4_bodyFor_44 rfl rfl rfl ?_
          refine s_tald (t := 1) (by omega) (by omega) (n := 46) dX4_bodyFor_45 rfl (mj_ixe (j := 4) (by decide) (by omega)) ?_
          refine s_istore_n (n := 47) (i := 2) (ls' := [_, _, _, _, _]) dX4_bodyFor_46 rfl rfl rfl rfl rfl ?_
          refine s_iinc (n := 50) (v := _ + 1) (ls' := [_, _, _, _, _]) dX4_bodyFor_47 rfl rfl rfl rfl rfl ?_
          refine s_goto (tgt := 7) dX4_bodyFor_50 rfl ?_
          refine s_iload (n := 9) dX4_bodyFor_7 rfl rfl ?_
          refine s_bipush (n := 11) (v := 6) dX4_bodyFor_9 rfl (by decide) ?_
          refine s_icmp_ge (n := 14) (tgt := 53) dX4_bodyFor_11 rfl rfl (fun b11 => ?_) (fun b11 => ?_)
          · exact absurd b11 (by decide)
          · refine s_iload_n (n := 15) (i := 2) dX4_bodyFor_14 rfl rfl rfl ?_
            refine s_iconst (n := 16) (v := (-1)) dX4_bodyFor_15 rfl (by decide) ?_
            refine s_icmp_eq (n := 19) (tgt := 53) dX4_bodyFor_16 rfl rfl (fun b16 => ?_) (fun b16 => ?_)
            · exact absurd b16 (by decide)
            · refine s_iload_n (n := 20) (i := 3) dX4_bodyFor_19 rfl rfl rfl ?_
              refine s_if_ne (n := 23) (tgt := 53) dX4_bodyFor_20 rfl rfl (fun b20 => ?_) (fun b20 => ?_)
              · refine s_iload_n (n := 54) (i := 3) dX4_bodyFor_53 rfl rfl rfl ?_
                refine s_ireturn dX4_bodyFor_54 rfl (rfl) (Nat.le_refl _) (Nat.le_refl _) ?_
                exact ⟨rfl, rfl⟩
              · exact absurd b20 (by decide)
set_option maxRecDepth 100000 in
set_option maxHeartbeats 4000000 in
theorem c_body_4_1 {G : mj_G} {h : mj_H} {d : Nat} : mj_con G MX4_bodyFor d 0 0 [.int 4, .int 1] h (rI 23 h) := by
  refine mj_conS okX4_bodyFor (ls := [some (.int 4), some (.int 1), none, none, none]) rfl rfl ?_
  refine s_iload_n (n := 1) (i := 0) dX4_bodyFor_0 rfl rfl rfl ?_
  refine s_istore_n (n := 2) (i := 2) (ls' := [_, _, _, _, _]) dX4_bodyFor_1 rfl rfl rfl rfl rfl ?_
  refine s_iconst (n := 3) (v := 0) dX4_bodyFor_2 rfl (by decide) ?_
  refine s_istore_n (n := 4) (i := 3) (ls' := [_, _, _, _, _]) dX4_bodyFor_3 rfl rfl rfl rfl rfl ?_
  refine s_iconst (n := 5) (v := 0) dX4_bodyFor_4 rfl (by decide) ?_
  refine s_istore (n := 7) (i := 4) (ls' := [_, _, _, _, _]) dX4_bodyFor_5 rfl rfl rfl rfl ?_
  refine s_iload (n := 9) dX4_bodyFor_7 rfl rfl ?_
  refine s_bipush (n := 11) (v := 6) dX4_bodyFor_9 rfl (by decide) ?_
  refine s_icmp_ge (n := 14) (tgt := 53) dX4_bodyFor_11 rfl rfl (fun b11 => ?_) (fun b11 => ?_)
  · exact absurd b11 (by decide)
  · refine s_iload_n (n := 15) (i := 2) dX4_bodyFor_14 rfl rfl rfl ?_
    refine s_iconst (n := 16) (v := (-1)) dX4_bodyFor_15 rfl (by decide) ?_
    refine s_icmp_eq (n := 19) (tgt := 53) dX4_bodyFor_16 rfl rfl (fun b16 => ?_) (fun b16 => ?_)
    · exact absurd b16 (by decide)
    · refine s_iload_n (n := 20) (i := 3) dX4_bodyFor_19 rfl rfl rfl ?_
      refine s_if_ne (n := 23) (tgt := 53) dX4_bodyFor_20 rfl rfl (fun b20 => ?_) (fun b20 => ?_)
      · exact absurd b20 (by decide)
      · refine s_iload_n (n := 24) (i := 1) dX4_bodyFor_23 rfl rfl rfl ?_
        refine s_if_ne (n := 27) (tgt := 35) dX4_bodyFor_24 rfl rfl (fun b24 => ?_) (fun b24 => ?_)
        · refine s_gets3 (n := 38) dX4_bodyFor_35 rfl wd_X4_292 ?_
          refine s_iload_n (n := 39) (i := 2) dX4_bodyFor_38 rfl rfl rfl ?_
          refine s_tald (t := 3) (by omega) (by omega) (n := 40) dX4_bodyFor_39 rfl (mj_ixe (j := 4) (by decide) (by omega)) ?_
          refine s_istore_n (n := 41) (i := 3) (ls' := [_, _, _, _, _]) dX4_bodyFor_40 rfl rfl rfl rfl rfl ?_
          refine s_gets1 (n := 44) dX4_bodyFor_41 rfl wd_X4_286 ?_
          refine s_iload_n (n := 45) (i := 2) dX4_bodyFor_44 rfl rfl rfl ?_
          refine s_tald (t := 1) (by omega) (by omega) (n := 46) dX4_bodyFor_45 rfl (mj_ixe (j := 4) (by decide) (by omega)) ?_
          refine s_istore_n (n := 47) (i := 2) (ls' := [_, _, _, _, _]) dX4_bodyFor_46 rfl rfl rfl rfl rfl ?_
          refine s_iinc (n := 50) (v := _ + 1) (ls' := [_, _, _, _, _]) dX4_bodyFor_47 rfl rfl rfl rfl rfl ?_
          refine s_goto (tgt := 7) dX4_bodyFor_50 rfl ?_
          refine s_iload (n := 9) dX4_bodyFor_7 rfl rfl ?_
          refine s_bipush (n := 11) (v := 6) dX4_bodyFor_9 rfl (by decide) ?_
          refine s_icmp_ge (n := 14) (tgt := 53) dX4_bodyFor_11 rfl rfl (fun b11 => ?_) (fun b11 => ?_)
          · exact absurd b11 (by decide)
          · refine s_iload_n (n := 15) (i := 2) dX4_bodyFor_14 rfl rfl rfl ?_
            refine s_iconst (n := 16) (v := (-1)) dX4_bodyFor_15 rfl (by decide) ?_
            refine s_icmp_eq (n := 19) (tgt := 53) dX4_bodyFor_16 rfl rfl (fun b16 => ?_) (fun b16 => ?_)
            · exact absurd b16 (by decide)
            · refine s_iload_n (n := 20) (i := 3) dX4_bodyFor_19 rfl rfl rfl ?_
              refine s_if_ne (n := 23) (tgt := 53) dX4_bodyFor_20 rfl rfl (fun b20 => ?_) (fun b20 => ?_)
              · refine s_iload_n (n := 54) (i := 3) dX4_bodyFor_53 rfl rfl rfl ?_
                refine s_ireturn dX4_bodyFor_54 rfl (rfl) (Nat.le_refl _) (Nat.le_refl _) ?_
                exact ⟨rfl, rfl⟩
              · exact absurd b20 (by decide)
        · exact absurd b24 (by decide)
set_option maxRecDepth 100000 in
set_option maxHeartbeats 4000000 in
theorem c_body_5_0 {G : mj_G} {h : mj_H} {d : Nat} : mj_con G MX4_bodyFor d 0 0 [.int 5, .int 0] h (rI 14 h) := by
  refine mj_conS okX4_bodyFor (ls := [some (.int 5), some (.int 0), none, none, none]) rfl rfl ?_
  refine s_iload_n (n := 1) (i := 0) dX4_bodyFor_0 rfl rfl rfl ?_
  refine s_istore_n (n := 2) (i := 2) (ls' := [_, _, _, _, _]) dX4_bodyFor_1 rfl rfl rfl rfl rfl ?_
  refine s_iconst (n := 3) (v := 0) dX4_bodyFor_2 rfl (by decide) ?_
  refine s_istore_n (n := 4) (i := 3) (ls' := [_, _, _, _, _]) dX4_bodyFor_3 rfl rfl rfl rfl rfl ?_
  refine s_iconst (n := 5) (v := 0) dX4_bodyFor_4 rfl (by decide) ?_
  refine s_istore (n := 7) (i := 4) (ls' := [_, _, _, _, _]) dX4_bodyFor_5 rfl rfl rfl rfl ?_
  refine s_iload (n := 9) dX4_bodyFor_7 rfl rfl ?_
  refine s_bipush (n := 11) (v := 6) dX4_bodyFor_9 rfl (by decide) ?_
  refine s_icmp_ge (n := 14) (tgt := 53) dX4_bodyFor_11 rfl rfl (fun b11 => ?_) (fun b11 => ?_)
  · exact absurd b11 (by decide)
  · refine s_iload_n (n := 15) (i := 2) dX4_bodyFor_14 rfl rfl rfl ?_
    refine s_iconst (n := 16) (v := (-1)) dX4_bodyFor_15 rfl (by decide) ?_
    refine s_icmp_eq (n := 19) (tgt := 53) dX4_bodyFor_16 rfl rfl (fun b16 => ?_) (fun b16 => ?_)
    · exact absurd b16 (by decide)
    · refine s_iload_n (n := 20) (i := 3) dX4_bodyFor_19 rfl rfl rfl ?_
      refine s_if_ne (n := 23) (tgt := 53) dX4_bodyFor_20 rfl rfl (fun b20 => ?_) (fun b20 => ?_)
      · exact absurd b20 (by decide)
      · refine s_iload_n (n := 24) (i := 1) dX4_bodyFor_23 rfl rfl rfl ?_
        refine s_if_ne (n := 27) (tgt := 35) dX4_bodyFor_24 rfl rfl (fun b24 => ?_) (fun b24 => ?_)
        · exact absurd b24 (by decide)
        · refine s_gets2 (n := 30) dX4_bodyFor_27 rfl wd_X4_289 ?_
          refine s_iload_n (n := 31) (i := 2) dX4_bodyFor_30 rfl rfl rfl ?_
          refine s_tald (t := 2) (by omega) (by omega) (n := 32) dX4_bodyFor_31 rfl (mj_ixe (j := 5) (by decide) (by omega)) ?_
          refine s_goto (tgt := 40) dX4_bodyFor_32 rfl ?_
          refine s_istore_n (n := 41) (i := 3) (ls' := [_, _, _, _, _]) dX4_bodyFor_40 rfl rfl rfl rfl rfl ?_
          refine s_gets1 (n := 44) dX4_bodyFor_41 rfl wd_X4_286 ?_
          refine s_iload_n (n := 45) (i := 2) dX4_bodyFor_44 rfl rfl rfl ?_
          refine s_tald (t := 1) (by omega) (by omega) (n := 46) dX4_bodyFor_45 rfl (mj_ixe (j := 5) (by decide) (by omega)) ?_
          refine s_istore_n (n := 47) (i := 2) (ls' := [_, _, _, _, _]) dX4_bodyFor_46 rfl rfl rfl rfl rfl ?_
          refine s_iinc (n := 50) (v := _ + 1) (ls' := [_, _, _, _, _]) dX4_bodyFor_47 rfl rfl rfl rfl rfl ?_
          refine s_goto (tgt := 7) dX4_bodyFor_50 rfl ?_
          refine s_iload (n := 9) dX4_bodyFor_7 rfl rfl ?_
          refine s_bipush (n := 11) (v := 6) dX4_bodyFor_9 rfl (by decide) ?_
          refine s_icmp_ge (n := 14) (tgt := 53) dX4_bodyFor_11 rfl rfl (fun b11 => ?_) (fun b11 => ?_)
          · exact absurd b11 (by decide)
          · refine s_iload_n (n := 15) (i := 2) dX4_bodyFor_14 rfl rfl rfl ?_
            refine s_iconst (n := 16) (v := (-1)) dX4_bodyFor_15 rfl (by decide) ?_
            refine s_icmp_eq (n := 19) (tgt := 53) dX4_bodyFor_16 rfl rfl (fun b16 => ?_) (fun b16 => ?_)
            · exact absurd b16 (by decide)
            · refine s_iload_n (n := 20) (i := 3) dX4_bodyFor_19 rfl rfl rfl ?_
              refine s_if_ne (n := 23) (tgt := 53) dX4_bodyFor_20 rfl rfl (fun b20 => ?_) (fun b20 => ?_)
              · refine s_iload_n (n := 54) (i := 3) dX4_bodyFor_53 rfl rfl rfl ?_
                refine s_ireturn dX4_bodyFor_54 rfl (rfl) (Nat.le_refl _) (Nat.le_refl _) ?_
                exact ⟨rfl, rfl⟩
              · exact absurd b20 (by decide)
set_option maxRecDepth 100000 in
set_option maxHeartbeats 4000000 in
theorem c_body_5_1 {G : mj_G} {h : mj_H} {d : Nat} : mj_con G MX4_bodyFor d 0 0 [.int 5, .int 1] h (rI 23 h) := by
  refine mj_conS okX4_bodyFor (ls := [some (.int 5), some (.int 1), none, none, none]) rfl rfl ?_
  refine s_iload_n (n := 1) (i := 0) dX4_bodyFor_0 rfl rfl rfl ?_
  refine s_istore_n (n := 2) (i := 2) (ls' := [_, _, _, _, _]) dX4_bodyFor_1 rfl rfl rfl rfl rfl ?_
  refine s_iconst (n := 3) (v := 0) dX4_bodyFor_2 rfl (by decide) ?_
  refine s_istore_n (n := 4) (i := 3) (ls' := [_, _, _, _, _]) dX4_bodyFor_3 rfl rfl rfl rfl rfl ?_
  refine s_iconst (n := 5) (v := 0) dX4_bodyFor_4 rfl (by decide) ?_
  refine s_istore (n := 7) (i := 4) (ls' := [_, _, _, _, _]) dX4_bodyFor_5 rfl rfl rfl rfl ?_
  refine s_iload (n := 9) dX4_bodyFor_7 rfl rfl ?_
  refine s_bipush (n := 11) (v := 6) dX4_bodyFor_9 rfl (by decide) ?_
  refine s_icmp_ge (n := 14) (tgt := 53) dX4_bodyFor_11 rfl rfl (fun b11 => ?_) (fun b11 => ?_)
  · exact absurd b11 (by decide)
  · refine s_iload_n (n := 15) (i := 2) dX4_bodyFor_14 rfl rfl rfl ?_
    refine s_iconst (n := 16) (v := (-1)) dX4_bodyFor_15 rfl (by decide) ?_
    refine s_icmp_eq (n := 19) (tgt := 53) dX4_bodyFor_16 rfl rfl (fun b16 => ?_) (fun b16 => ?_)
    · exact absurd b16 (by decide)
    · refine s_iload_n (n := 20) (i := 3) dX4_bodyFor_19 rfl rfl rfl ?_
      refine s_if_ne (n := 23) (tgt := 53) dX4_bodyFor_20 rfl rfl (fun b20 => ?_) (fun b20 => ?_)
      · exact absurd b20 (by decide)
      · refine s_iload_n (n := 24) (i := 1) dX4_bodyFor_23 rfl rfl rfl ?_
        refine s_if_ne (n := 27) (tgt := 35) dX4_bodyFor_24 rfl rfl (fun b24 => ?_) (fun b24 => ?_)
        · refine s_gets3 (n := 38) dX4_bodyFor_35 rfl wd_X4_292 ?_
          refine s_iload_n (n := 39) (i := 2) dX4_bodyFor_38 rfl rfl rfl ?_
          refine s_tald (t := 3) (by omega) (by omega) (n := 40) dX4_bodyFor_39 rfl (mj_ixe (j := 5) (by decide) (by omega)) ?_
          refine s_istore_n (n := 41) (i := 3) (ls' := [_, _, _, _, _]) dX4_bodyFor_40 rfl rfl rfl rfl rfl ?_
          refine s_gets1 (n := 44) dX4_bodyFor_41 rfl wd_X4_286 ?_
          refine s_iload_n (n := 45) (i := 2) dX4_bodyFor_44 rfl rfl rfl ?_
          refine s_tald (t := 1) (by omega) (by omega) (n := 46) dX4_bodyFor_45 rfl (mj_ixe (j := 5) (by decide) (by omega)) ?_
          refine s_istore_n (n := 47) (i := 2) (ls' := [_, _, _, _, _]) dX4_bodyFor_46 rfl rfl rfl rfl rfl ?_
          refine s_iinc (n := 50) (v := _ + 1) (ls' := [_, _, _, _, _]) dX4_bodyFor_47 rfl rfl rfl rfl rfl ?_
          refine s_goto (tgt := 7) dX4_bodyFor_50 rfl ?_
          refine s_iload (n := 9) dX4_bodyFor_7 rfl rfl ?_
          refine s_bipush (n := 11) (v := 6) dX4_bodyFor_9 rfl (by decide) ?_
          refine s_icmp_ge (n := 14) (tgt := 53) dX4_bodyFor_11 rfl rfl (fun b11 => ?_) (fun b11 => ?_)
          · exact absurd b11 (by decide)
          · refine s_iload_n (n := 15) (i := 2) dX4_bodyFor_14 rfl rfl rfl ?_
            refine s_iconst (n := 16) (v := (-1)) dX4_bodyFor_15 rfl (by decide) ?_
            refine s_icmp_eq (n := 19) (tgt := 53) dX4_bodyFor_16 rfl rfl (fun b16 => ?_) (fun b16 => ?_)
            · exact absurd b16 (by decide)
            · refine s_iload_n (n := 20) (i := 3) dX4_bodyFor_19 rfl rfl rfl ?_
              refine s_if_ne (n := 23) (tgt := 53) dX4_bodyFor_20 rfl rfl (fun b20 => ?_) (fun b20 => ?_)
              · exact absurd b20 (by decide)
              · refine s_iload_n (n := 24) (i := 1) dX4_bodyFor_23 rfl rfl rfl ?_
                refine s_if_ne (n := 27) (tgt := 35) dX4_bodyFor_24 rfl rfl (fun b24 => ?_) (fun b24 => ?_)
                · refine s_gets3 (n := 38) dX4_bodyFor_35 rfl wd_X4_292 ?_
                  refine s_iload_n (n := 39) (i := 2) dX4_bodyFor_38 rfl rfl rfl ?_
                  refine s_tald (t := 3) (by omega) (by omega) (n := 40) dX4_bodyFor_39 rfl (mj_ixe (j := 4) (by decide) (by omega)) ?_
                  refine s_istore_n (n := 41) (i := 3) (ls' := [_, _, _, _, _]) dX4_bodyFor_40 rfl rfl rfl rfl rfl ?_
                  refine s_gets1 (n := 44) dX4_bodyFor_41 rfl wd_X4_286 ?_
                  refine s_iload_n (n := 45) (i := 2) dX4_bodyFor_44 rfl rfl rfl ?_
                  refine s_tald (t := 1) (by omega) (by omega) (n := 46) dX4_bodyFor_45 rfl (mj_ixe (j := 4) (by decide) (by omega)) ?_
                  refine s_istore_n (n := 47) (i := 2) (ls' := [_, _, _, _, _]) dX4_bodyFor_46 rfl rfl rfl rfl rfl ?_
                  refine s_iinc (n := 50) (v := _ + 1) (ls' := [_, _, _, _, _]) dX4_bodyFor_47 rfl rfl rfl rfl rfl ?_
                  refine s_goto (tgt := 7) dX4_bodyFor_50 rfl ?_
                  refine s_iload (n := 9) dX4_bodyFor_7 rfl rfl ?_
                  refine s_bipush (n := 11) (v := 6) dX4_bodyFor_9 rfl (by decide) ?_
                  refine s_icmp_ge (n := 14) (tgt := 53) dX4_bodyFor_11 rfl rfl (fun b11 => ?_) (fun b11 => ?_)
                  · exact absurd b11 (by decide)
                  · refine s_iload_n (n := 15) (i := 2) dX4_bodyFor_14 rfl rfl rfl ?_
                    refine s_iconst (n := 16) (v := (-1)) dX4_bodyFor_15 rfl (by decide) ?_
                    refine s_icmp_eq (n := 19) (tgt := 53) dX4_bodyFor_16 rfl rfl (fun b16 => ?_) (fun b16 => ?_)
                    · exact absurd b16 (by decide)
                    · refine s_iload_n (n := 20) (i := 3) dX4_bodyFor_19 rfl rfl rfl ?_
                      refine s_if_ne (n := 23) (tgt := 53) dX4_bodyFor_20 rfl rfl (fun b20 => ?_) (fun b20 => ?_)
                      · refine s_iload_n (n := 54) (i := 3) dX4_bodyFor_53 rfl rfl rfl ?_
                        refine s_ireturn dX4_bodyFor_54 rfl (rfl) (Nat.le_refl _) (Nat.le_refl _) ?_
                        exact ⟨rfl, rfl⟩
                      · exact absurd b20 (by decide)
                · exact absurd b24 (by decide)
        · exact absurd b24 (by decide)
set_option maxRecDepth 100000 in
set_option maxHeartbeats 4000000 in
theorem k_as_bad {G : mj_G} {h : mj_H} {d : Nat} {σ : Nat → Nat → Int32} (hX : XS G h σ) {n : Nat} (hn : σ 0 2 = nI n) (h7 : n ≤ 7) {x y : Int32} (hb : ¬ (Hs n x ∧ Wi y 0 5)) (hd : 2 ≤ d) : mj_con G MX4_as d 0 0 [.ref (G.1 + 0), .int x, .int y] h (rI (-1000001) h) := by
  refine mj_conV okX4_as (ls := [some (.ref (G.1 + 0)), some (.int x), some (.int y)]) rfl rfl ?_
  obtain ⟨x0, x1, xt, xn, xf, xa, x188, x189, xr, xi⟩ := id hX
  obtain ⟨n0, n1, n2, n3, n4, n5, n6⟩ := id xn
  have a18 := xa.1
  have t2 := xt.1
  have t3 := xt.2
  refine s_aload_n (n := 1) (i := 0) dX4_as_0 rfl rfl rfl ?_
  refine s_iload_n (n := 2) (i := 1) dX4_as_1 rfl rfl rfl ?_
  refine s_v1 (M' := MX4_isHouse) (n := 5) (ci := 4) dX4_as_2 rfl wd_X4_152 okX4_isHouse rfl rfl (by omega) ⟨Nat.le_refl _, Nat.le_refl _⟩ (by assumption) (c_isHouse (d := d - 1) hX hn h7 (by omega)) ?_
  rintro v2 hh2 ⟨rfl, rfl⟩
  refine s_if_eq (n := 8) (tgt := 17) dX4_as_5 rfl rfl (fun b5 => ?_) (fun b5 => ?_)
  · refine s_ldc (n := 19) dX4_as_17 rfl wd_X4_56 ?_
    refine s_ireturn dX4_as_19 rfl (rfl) (Nat.le_refl _) (Nat.le_refl _) ?_
    exact ⟨rfl, rfl⟩
  · refine s_iload_n (n := 9) (i := 2) dX4_as_8 rfl rfl rfl ?_
    refine s_iconst (n := 10) (v := 0) dX4_as_9 rfl (by decide) ?_
    refine s_iconst (n := 11) (v := 5) dX4_as_10 rfl (by decide) ?_
    refine s_s3 (M' := MX4_isWithin) (n := 14) dX4_as_11 rfl wd_X4_52 okX4_isWithin rfl (by omega) ⟨Nat.le_refl _, Nat.le_refl _⟩ (c_within (d := d - 1) (A := 0) (B := 5) (by decide) (by decide)) ?_
    rintro v11 hh11 ⟨rfl, rfl⟩
    refine s_if_ne (n := 17) (tgt := 20) dX4_as_14 rfl rfl (fun b14 => ?_) (fun b14 => ?_)
    · exact absurd (⟨if1 b5, if1 b14⟩) hb
    · refine s_ldc (n := 19) dX4_as_17 rfl wd_X4_56 ?_
      refine s_ireturn dX4_as_19 rfl (rfl) (Nat.le_refl _) (Nat.le_refl _) ?_
      exact ⟨rfl, rfl⟩
set_option maxRecDepth 100000 in
set_option maxHeartbeats 4000000 in
theorem k_as {G : mj_G} {h : mj_H} {d : Nat} {σ : Nat → Nat → Int32} (hX : XS G h σ) {n : Nat} (hn : σ 0 2 = nI n) (h7 : n ≤ 7) {j w c : Nat} (hj : j < n) (hc : σ 0 (6 + j) = nI c) (h1 : 1 ≤ c) (h5 : c ≤ 5) (hw : w ≤ 5) (hs : such c w = 1) (hd : 2 ≤ d) : mj_con G MX4_as d 0 0 [.ref (G.1 + 0), .int (nI j), .int (nI w)] h (fun v h' => v = some (.int (nI j)) ∧ XS G h' (u2 (σ) 42 (upd (σ 42) 2 0)) ∧ mj_fr 0 220 h h') := by
  refine mj_conV okX4_as (ls := [some (.ref (G.1 + 0)), some (.int (nI j)), some (.int (nI w))]) rfl rfl ?_
  obtain ⟨x0, x1, xt, xn, xf, xa, x188, x189, xr, xi⟩ := id hX
  obtain ⟨n0, n1, n2, n3, n4, n5, n6⟩ := id xn
  have a18 := xa.1
  have t2 := xt.1
  have t3 := xt.2
  refine s_aload_n (n := 1) (i := 0) dX4_as_0 rfl rfl rfl ?_
  refine s_iload_n (n := 2) (i := 1) dX4_as_1 rfl rfl rfl ?_
  refine s_v1 (M' := MX4_isHouse) (n := 5) (ci := 4) dX4_as_2 rfl wd_X4_152 okX4_isHouse rfl rfl (by omega) ⟨Nat.le_refl _, Nat.le_refl _⟩ (by assumption) (c_isHouse (d := d - 1) hX hn h7 (by omega)) ?_
  rintro v2 hh2 ⟨rfl, rfl⟩
  refine s_if_eq (n := 8) (tgt := 17) dX4_as_5 rfl rfl (fun b5 => ?_) (fun b5 => ?_)
  · exact absurd (Hs_n hj h7) (if0 b5)
  · refine s_iload_n (n := 9) (i := 2) dX4_as_8 rfl rfl rfl ?_
    refine s_iconst (n := 10) (v := 0) dX4_as_9 rfl (by decide) ?_
    refine s_iconst (n := 11) (v := 5) dX4_as_10 rfl (by decide) ?_
    refine s_s3 (M' := MX4_isWithin) (n := 14) dX4_as_11 rfl wd_X4_52 okX4_isWithin rfl (by omega) ⟨Nat.le_refl _, Nat.le_refl _⟩ (c_within (d := d - 1) (A := 0) (B := 5) (by decide) (by decide)) ?_
    rintro v11 hh11 ⟨rfl, rfl⟩
    refine s_if_ne (n := 17) (tgt := 20) dX4_as_14 rfl rfl (fun b14 => ?_) (fun b14 => ?_)
    · refine s_aload_n (n := 21) (i := 0) dX4_as_20 rfl rfl rfl ?_
      refine gf_X4_25 (n := 24) rfl dX4_as_21 rfl (by assumption) (by rfl) ?_
      refine gf_X4_259 (n := 27) rfl dX4_as_24 rfl (by assumption) (by rfl) ?_
      refine s_iload_n (n := 28) (i := 1) dX4_as_27 rfl rfl rfl ?_
      first | refine s_ials (n := 29) dX4_as_28 rfl (by assumption) (mj_ixn (by omega)) ?_ | refine s_iald (n := 29) dX4_as_28 rfl (by assumption) (mj_ixn (by omega)) ?_
      rw [hc]
      refine s_iload_n (n := 30) (i := 2) dX4_as_29 rfl rfl rfl ?_
      refine s_s2 (M' := MX4_isSuch) (n := 33) dX4_as_30 rfl wd_X4_262 okX4_isSuch rfl (by omega) ⟨Nat.le_refl _, Nat.le_refl _⟩ (c_isSuch (d := d - 1) h1 h5 hw) ?_
      rintro v30 hh30 ⟨rfl, rfl⟩
      refine s_if_eq (n := 36) (tgt := 44) dX4_as_33 rfl rfl (fun b33 => ?_) (fun b33 => ?_)
      · rw [hs] at b33
        exact absurd b33 (by decide)
      · refine s_aload_n (n := 37) (i := 0) dX4_as_36 rfl rfl rfl ?_
        refine s_iload_n (n := 38) (i := 1) dX4_as_37 rfl rfl rfl ?_
        refine s_v1 (M' := MX4_unfound) (n := 41) (ci := 4) dX4_as_38 rfl wd_X4_65 okX4_unfound rfl rfl (by omega) ⟨Nat.le_refl _, Nat.le_refl _⟩ (by assumption) (c_unfound (d := d - 1) hX) ?_
        rintro v38 hh38 ⟨rfl, hX1, hF1⟩
        refine s_goto (tgt := 49) dX4_as_41 rfl ?_
        refine s_ireturn dX4_as_49 rfl (rfl) (Nat.le_refl _) (Nat.le_refl _) ?_
        exact ⟨rfl, hX1, hF1⟩
    · exact absurd (Wi_n (by omega) (by omega) (by omega)) (if0 b14)
set_option maxRecDepth 100000 in
set_option maxHeartbeats 4000000 in
theorem k_as_f {G : mj_G} {h : mj_H} {d : Nat} {σ : Nat → Nat → Int32} (hX : XS G h σ) {n : Nat} (hn : σ 0 2 = nI n) (h7 : n ≤ 7) {j w c : Nat} (hj : j < n) (hc : σ 0 (6 + j) = nI c) (h1 : 1 ≤ c) (h5 : c ≤ 5) (hw : w ≤ 5) (hs : such c w = 0) (hd : 2 ≤ d) : mj_con G MX4_as d 0 0 [.ref (G.1 + 0), .int (nI j), .int (nI w)] h (fun v h' => v = some (.int (-1000010 - 3)) ∧ XS G h' (u2 (σ) 42 (upd (σ 42) 2 3)) ∧ mj_fr 0 220 h h') := by
  refine mj_conV okX4_as (ls := [some (.ref (G.1 + 0)), some (.int (nI j)), some (.int (nI w))]) rfl rfl ?_
  obtain ⟨x0, x1, xt, xn, xf, xa, x188, x189, xr, xi⟩ := id hX
  obtain ⟨n0, n1, n2, n3, n4, n5, n6⟩ := id xn
  have a18 := xa.1
  have t2 := xt.1
  have t3 := xt.2
  refine s_aload_n (n := 1) (i := 0) dX4_as_0 rfl rfl rfl ?_
  refine s_iload_n (n := 2) (i := 1) dX4_as_1 rfl rfl rfl ?_
  refine s_v1 (M' := MX4_isHouse) (n := 5) (ci := 4) dX4_as_2 rfl wd_X4_152 okX4_isHouse rfl rfl (by omega) ⟨Nat.le_refl _, Nat.le_refl _⟩ (by assumption) (c_isHouse (d := d - 1) hX hn h7 (by omega)) ?_
  rintro v2 hh2 ⟨rfl, rfl⟩
  refine s_if_eq (n := 8) (tgt := 17) dX4_as_5 rfl rfl (fun b5 => ?_) (fun b5 => ?_)
  · exact absurd (Hs_n hj h7) (if0 b5)
  · refine s_iload_n (n := 9) (i := 2) dX4_as_8 rfl rfl rfl ?_
    refine s_iconst (n := 10) (v := 0) dX4_as_9 rfl (by decide) ?_
    refine s_iconst (n := 11) (v := 5) dX4_as_10 rfl (by decide) ?_
    refine s_s3 (M' := MX4_isWithin) (n := 14) dX4_as_11 rfl wd_X4_52 okX4_isWithin rfl (by omega) ⟨Nat.le_refl _, Nat.le_refl _⟩ (c_within (d := d - 1) (A := 0) (B := 5) (by decide) (by decide)) ?_
    rintro v11 hh11 ⟨rfl, rfl⟩
    refine s_if_ne (n := 17) (tgt := 20) dX4_as_14 rfl rfl (fun b14 => ?_) (fun b14 => ?_)
    · refine s_aload_n (n := 21) (i := 0) dX4_as_20 rfl rfl rfl ?_
      refine gf_X4_25 (n := 24) rfl dX4_as_21 rfl (by assumption) (by rfl) ?_
      refine gf_X4_259 (n := 27) rfl dX4_as_24 rfl (by assumption) (by rfl) ?_
      refine s_iload_n (n := 28) (i := 1) dX4_as_27 rfl rfl rfl ?_
      first | refine s_ials (n := 29) dX4_as_28 rfl (by assumption) (mj_ixn (by omega)) ?_ | refine s_iald (n := 29) dX4_as_28 rfl (by assumption) (mj_ixn (by omega)) ?_
      rw [hc]
      refine s_iload_n (n := 30) (i := 2) dX4_as_29 rfl rfl rfl ?_
      refine s_s2 (M' := MX4_isSuch) (n := 33) dX4_as_30 rfl wd_X4_262 okX4_isSuch rfl (by omega) ⟨Nat.le_refl _, Nat.le_refl _⟩ (c_isSuch (d := d - 1) h1 h5 hw) ?_
      rintro v30 hh30 ⟨rfl, rfl⟩
      refine s_if_eq (n := 36) (tgt := 44) dX4_as_33 rfl rfl (fun b33 => ?_) (fun b33 => ?_)
      · refine s_aload_n (n := 45) (i := 0) dX4_as_44 rfl rfl rfl ?_
        refine s_iconst (n := 46) (v := 3) dX4_as_45 rfl (by decide) ?_
        refine s_v1 (M' := MX4_found) (n := 49) (ci := 4) dX4_as_46 rfl wd_X4_57 okX4_found rfl rfl (by omega) ⟨Nat.le_refl _, Nat.le_refl _⟩ (by assumption) (c_found (d := d - 1) hX) ?_
        rintro v46 hh46 ⟨rfl, hX1, hF1⟩
        refine s_ireturn dX4_as_49 rfl (rfl) (Nat.le_refl _) (Nat.le_refl _) ?_
        exact ⟨rfl, hX1, hF1⟩
      · rw [hs] at b33
        exact absurd rfl b33
    · exact absurd (Wi_n (by omega) (by omega) (by omega)) (if0 b14)
/-- a body leaves its number -/
def lv (b : Int32) (σ : Nat → Nat → Int32) : Nat → Nat → Int32 := if σ 42 0 < 16 then u2 (u2 σ 33 (upd (σ 33) (σ 42 0).toNatClampNeg b)) 42 (upd (σ 42) 0 (σ 42 0 + 1)) else σ
def okT (σ : Nat → Nat → Int32) : Prop := ∃ t : Nat, t ≤ 16 ∧ σ 42 0 = nI t
theorem okT_lv {b : Int32} {σ : Nat → Nat → Int32} (h : okT σ) : okT (lv b σ) := by
  obtain ⟨t, h1, h2⟩ := h
  unfold lv
  rw [h2]
  by_cases q : nI t < 16
  · rw [if_pos q]
    have := (nI_ltE (b := 16) (by omega) (by omega)).mp q
    refine ⟨t + 1, by omega, ?_⟩
    show upd (σ 42) 0 (nI t + 1) 0 = _
    rw [up_eq, nI_1]
  · rw [if_neg q]
    exact ⟨t, h1, h2⟩
theorem lv_o {b : Int32} {σ : Nat → Nat → Int32} {j : Nat} (h1 : j ≠ 33) (h2 : j ≠ 42) : lv b σ j = σ j := by
  unfold lv
  split
  · rw [u2_ne h2, u2_ne h1]
  · rfl
set_option maxRecDepth 100000 in
set_option maxHeartbeats 4000000 in
theorem c_leave {G : mj_G} {h : mj_H} {d : Nat} {σ : Nat → Nat → Int32} (hX : XS G h σ) {b : Int32} (ht : okT σ) : mj_con G MX4_leaveTrace d 0 0 [.ref (G.1 + 0), .int b] h (fun v h' => v = none ∧ XS G h' (lv b σ) ∧ mj_fr 0 220 h h') := by
  refine mj_conV okX4_leaveTrace (ls := [some (.ref (G.1 + 0)), some (.int b)]) rfl rfl ?_
  obtain ⟨x0, x1, xt, xn, xf, xa, x188, x189, xr, xi⟩ := id hX
  obtain ⟨n0, n1, n2, n3, n4, n5, n6⟩ := id xn
  have a18 := xa.1
  have t2 := xt.1
  have t3 := xt.2
  obtain ⟨t, ht1, ht2⟩ := ht
  refine s_aload_n (n := 1) (i := 0) dX4_leaveTrace_0 rfl rfl rfl ?_
  refine gf_X4_265 (n := 4) rfl dX4_leaveTrace_1 rfl (by assumption) (by rfl) ?_
  refine s_bipush (n := 6) (v := 16) dX4_leaveTrace_4 rfl (by decide) ?_
  refine s_icmp_ge (n := 9) (tgt := 29) dX4_leaveTrace_6 rfl rfl (fun b6 => ?_) (fun b6 => ?_)
  · have e : lv b σ = σ := if_neg (by rw [ht2]; exact Int32.not_lt.mpr (ht2 ▸ b6))
    refine s_return dX4_leaveTrace_29 rfl (Nat.le_refl _) (Nat.le_refl _) ?_
    rw [e]
    exact ⟨rfl, hX, fr_rf⟩
  · rw [ht2] at b6
    refine s_aload_n (n := 10) (i := 0) dX4_leaveTrace_9 rfl rfl rfl ?_
    refine gf_X4_43 (n := 13) rfl dX4_leaveTrace_10 rfl (by assumption) (by rfl) ?_
    refine s_aload_n (n := 14) (i := 0) dX4_leaveTrace_13 rfl rfl rfl ?_
    refine gf_X4_265 (n := 17) rfl dX4_leaveTrace_14 rfl (by assumption) (by rfl) ?_
    rw [ht2]
    refine s_iload_n (n := 18) (i := 1) dX4_leaveTrace_17 rfl rfl rfl ?_
    refine s_iast (n := 19) dX4_leaveTrace_18 rfl (by assumption) (mj_ixn (by have := (nI_ltE (b := 16) (by omega) (by omega)).mp (Int32.not_le.mp b6); omega)) ?_
    refine s_aload_n (n := 20) (i := 0) dX4_leaveTrace_19 rfl rfl rfl ?_
    refine s_dup (n := 21) dX4_leaveTrace_20 rfl rfl ?_
    refine gf_X4_265 (n := 24) rfl dX4_leaveTrace_21 rfl (mj_un (by omega) x0) (by rfl) ?_
    refine s_iconst (n := 25) (v := 1) dX4_leaveTrace_24 rfl (by decide) ?_
    refine s_iadd (n := 26) dX4_leaveTrace_25 rfl ?_
    refine pf_X4_265 (n := 29) (fs' := [_, _, _, _, _, _, _, _, _, _]) rfl dX4_leaveTrace_26 rfl (mj_un (by omega) x0) (by rfl) (by rfl) ?_
    refine s_return dX4_leaveTrace_29 rfl (Nat.le_refl _) (Nat.le_refl _) ?_
    refine ⟨rfl, ?_, ⟨rfl, fun j hj => ?_⟩⟩
    · have e : lv b σ = u2 (u2 σ 33 (upd (σ 33) t b)) 42 (upd (σ 42) 0 (σ 42 0 + 1)) := by
        unfold lv
        rw [if_pos (by rw [ht2]; exact Int32.not_le.mp b6)]
        rw [show (σ 42 0).toNatClampNeg = t from by rw [ht2]; exact nI_clamp (by omega)]
      rw [e]
      exact XS_own hX mj_ue (mj_un (by omega) mj_ue) (fun j h1 h2 => (if_neg h1).trans (if_neg h2))
    · exact (if_neg (by omega)).trans (if_neg (by omega))
theorem lv_0 {b : Int32} {σ : Nat → Nat → Int32} : lv b σ 0 = σ 0 := lv_o (by omega) (by omega)
theorem okT_x {σ : Nat → Nat → Int32} (h : okT σ) : okT σ := h
set_option maxRecDepth 100000 in
set_option maxHeartbeats 4000000 in
theorem g_10 {G : mj_G} {h : mj_H} {d : Nat} {σ : Nat → Nat → Int32} (hX : XS G h σ) (ht : okT σ) {j dp : Nat} (hj : j < 7) (hdp : dp ≤ 20) (hd : 2 ≤ d) : mj_con G MX4_given d 0 0 [.ref (G.1 + 0), .int (nI j), .int 10, .int (nI dp)] h (fun v h' => v = some (.int (σ 0 (13 + j))) ∧ XS G h' (lv 10 σ) ∧ mj_fr 0 220 h h') := by
  refine mj_conV okX4_given (ls := [some (.ref (G.1 + 0)), some (.int (nI j)), some (.int 10), some (.int (nI dp)), none]) rfl rfl ?_
  obtain ⟨x0, x1, xt, xn, xf, xa, x188, x189, xr, xi⟩ := id hX
  obtain ⟨n0, n1, n2, n3, n4, n5, n6⟩ := id xn
  have a18 := xa.1
  have t2 := xt.1
  have t3 := xt.2
  refine s_iload_n (n := 1) (i := 3) dX4_given_0 rfl rfl rfl ?_
  refine s_bipush (n := 3) (v := 20) dX4_given_1 rfl (by decide) ?_
  refine s_icmp_le (n := 6) (tgt := 8) dX4_given_3 rfl rfl (fun b3 => ?_) (fun b3 => ?_)
  · refine s_aload_n (n := 9) (i := 0) dX4_given_8 rfl rfl rfl ?_
    refine s_iload_n (n := 10) (i := 2) dX4_given_9 rfl rfl rfl ?_
    refine s_v1 (M' := MX4_leaveTrace) (n := 13) (ci := 4) dX4_given_10 rfl wd_X4_301 okX4_leaveTrace rfl rfl (by omega) ⟨Nat.le_refl _, Nat.le_refl _⟩ (by assumption) (c_leave (d := d - 1) hX ht) ?_
    rintro v10 hh10 ⟨rfl, hX, hF1⟩
    replace ht := okT_lv (b := 10) ht
    obtain ⟨x0, x1, xt, xn, xf, xa, x188, x189, xr, xi⟩ := id hX
    simp only [lv_0] at xn
    obtain ⟨n0, n1, n2, n3, n4, n5, n6⟩ := id xn
    refine s_iload_n (n := 14) (i := 3) dX4_given_13 rfl rfl rfl ?_
    refine s_iconst (n := 15) (v := 1) dX4_given_14 rfl (by decide) ?_
    refine s_iadd (n := 16) dX4_given_15 rfl ?_
    rw [nI_1]
    refine s_istore (n := 18) (i := 4) (ls' := [_, _, _, _, _]) dX4_given_16 rfl rfl rfl rfl ?_
    refine s_iload_n (n := 19) (i := 2) dX4_given_18 rfl rfl rfl ?_
    refine t_X4_given_19 dX4_given_19 (fun e10 => ?_) (fun e11 => ?_) (fun e12 => ?_) (fun e13 => ?_) (fun e14 => ?_) (fun e20 => ?_) (fun e21 => ?_) (fun e22 => ?_) (fun e23 => ?_) (fun e24 => ?_) (fun e10 e11 e12 e13 e14 e20 e21 e22 e23 e24 => ?_)
    · refine s_aload_n (n := 93) (i := 0) dX4_given_92 rfl rfl rfl ?_
      refine gf_X4_25 (n := 96) rfl dX4_given_93 rfl (by assumption) (by rfl) ?_
      refine gf_X4_155 (n := 99) rfl dX4_given_96 rfl (by assumption) (by rfl) ?_
      refine s_iload_n (n := 100) (i := 1) dX4_given_99 rfl rfl rfl ?_
      first | refine s_ials (n := 101) dX4_given_100 rfl (by assumption) (mj_ixn (by omega)) ?_ | refine s_iald (n := 101) dX4_given_100 rfl (by assumption) (mj_ixn (by omega)) ?_
      refine s_ireturn dX4_given_101 rfl (rfl) (Nat.le_refl _) (Nat.le_refl _) ?_
      exact ⟨by simp only [lv_0], hX, hF1⟩
    · exact absurd e11 (by decide)
    · exact absurd e12 (by decide)
    · exact absurd e13 (by decide)
    · exact absurd e14 (by decide)
    · exact absurd e20 (by decide)
    · exact absurd e21 (by decide)
    · exact absurd e22 (by decide)
    · exact absurd e23 (by decide)
    · exact absurd e24 (by decide)
    · exact absurd rfl e10
  · exact absurd ((nI_leE (b := 20) (by omega) (by omega)).mpr (by omega)) b3
set_option maxRecDepth 100000 in
set_option maxHeartbeats 4000000 in
theorem g_20 {G : mj_G} {h : mj_H} {d : Nat} {σ : Nat → Nat → Int32} (hX : XS G h σ) (ht : okT σ) {j dp : Nat} (hj : j < 7) (hdp : dp ≤ 20) (hd : 2 ≤ d) : mj_con G MX4_given d 0 0 [.ref (G.1 + 0), .int (nI j), .int 20, .int (nI dp)] h (fun v h' => v = some (.int (nI j)) ∧ XS G h' (lv 20 σ) ∧ mj_fr 0 220 h h') := by
  refine mj_conV okX4_given (ls := [some (.ref (G.1 + 0)), some (.int (nI j)), some (.int 20), some (.int (nI dp)), none]) rfl rfl ?_
  obtain ⟨x0, x1, xt, xn, xf, xa, x188, x189, xr, xi⟩ := id hX
  obtain ⟨n0, n1, n2, n3, n4, n5, n6⟩ := id xn
  have a18 := xa.1
  have t2 := xt.1
  have t3 := xt.2
  refine s_iload_n (n := 1) (i := 3) dX4_given_0 rfl rfl rfl ?_
  refine s_bipush (n := 3) (v := 20) dX4_given_1 rfl (by decide) ?_
  refine s_icmp_le (n := 6) (tgt := 8) dX4_given_3 rfl rfl (fun b3 => ?_) (fun b3 => ?_)
  · refine s_aload_n (n := 9) (i := 0) dX4_given_8 rfl rfl rfl ?_
    refine s_iload_n (n := 10) (i := 2) dX4_given_9 rfl rfl rfl ?_
    refine s_v1 (M' := MX4_leaveTrace) (n := 13) (ci := 4) dX4_given_10 rfl wd_X4_301 okX4_leaveTrace rfl rfl (by omega) ⟨Nat.le_refl _, Nat.le_refl _⟩ (by assumption) (c_leave (d := d - 1) hX ht) ?_
    rintro v10 hh10 ⟨rfl, hX, hF1⟩
    replace ht := okT_lv (b := 20) ht
    obtain ⟨x0, x1, xt, xn, xf, xa, x188, x189, xr, xi⟩ := id hX
    simp only [lv_0] at xn
    obtain ⟨n0, n1, n2, n3, n4, n5, n6⟩ := id xn
    refine s_iload_n (n := 14) (i := 3) dX4_given_13 rfl rfl rfl ?_
    refine s_iconst (n := 15) (v := 1) dX4_given_14 rfl (by decide) ?_
    refine s_iadd (n := 16) dX4_given_15 rfl ?_
    rw [nI_1]
    refine s_istore (n := 18) (i := 4) (ls' := [_, _, _, _, _]) dX4_given_16 rfl rfl rfl rfl ?_
    refine s_iload_n (n := 19) (i := 2) dX4_given_18 rfl rfl rfl ?_
    refine t_X4_given_19 dX4_given_19 (fun e10 => ?_) (fun e11 => ?_) (fun e12 => ?_) (fun e13 => ?_) (fun e14 => ?_) (fun e20 => ?_) (fun e21 => ?_) (fun e22 => ?_) (fun e23 => ?_) (fun e24 => ?_) (fun e10 e11 e12 e13 e14 e20 e21 e22 e23 e24 => ?_)
    · exact absurd e10 (by decide)
    · exact absurd e11 (by decide)
    · exact absurd e12 (by decide)
    · exact absurd e13 (by decide)
    · exact absurd e14 (by decide)
    · refine s_iload_n (n := 158) (i := 1) dX4_given_157 rfl rfl rfl ?_
      refine s_ireturn dX4_given_158 rfl (rfl) (Nat.le_refl _) (Nat.le_refl _) ?_
      exact ⟨by simp only [lv_0], hX, hF1⟩
    · exact absurd e21 (by decide)
    · exact absurd e22 (by decide)
    · exact absurd e23 (by decide)
    · exact absurd e24 (by decide)
    · exact absurd rfl e20
  · exact absurd ((nI_leE (b := 20) (by omega) (by omega)).mpr (by omega)) b3
set_option maxRecDepth 100000 in
set_option maxHeartbeats 4000000 in
theorem g_13 {G : mj_G} {h : mj_H} {d : Nat} {σ : Nat → Nat → Int32} (hX : XS G h σ) (ht : okT σ) {j dp : Nat} (hj : j < 7) (hdp : dp ≤ 19) (hd : 3 ≤ d) : mj_con G MX4_given d 0 0 [.ref (G.1 + 0), .int (nI j), .int 13, .int (nI dp)] h (fun v h' => v = some (.int (σ 0 (13 + j) - 100)) ∧ XS G h' (lv 10 (lv 13 σ)) ∧ mj_fr 0 220 h h') := by
  refine mj_conV okX4_given (ls := [some (.ref (G.1 + 0)), some (.int (nI j)), some (.int 13), some (.int (nI dp)), none]) rfl rfl ?_
  obtain ⟨x0, x1, xt, xn, xf, xa, x188, x189, xr, xi⟩ := id hX
  obtain ⟨n0, n1, n2, n3, n4, n5, n6⟩ := id xn
  have a18 := xa.1
  have t2 := xt.1
  have t3 := xt.2
  refine s_iload_n (n := 1) (i := 3) dX4_given_0 rfl rfl rfl ?_
  refine s_bipush (n := 3) (v := 20) dX4_given_1 rfl (by decide) ?_
  refine s_icmp_le (n := 6) (tgt := 8) dX4_given_3 rfl rfl (fun b3 => ?_) (fun b3 => ?_)
  · refine s_aload_n (n := 9) (i := 0) dX4_given_8 rfl rfl rfl ?_
    refine s_iload_n (n := 10) (i := 2) dX4_given_9 rfl rfl rfl ?_
    refine s_v1 (M' := MX4_leaveTrace) (n := 13) (ci := 4) dX4_given_10 rfl wd_X4_301 okX4_leaveTrace rfl rfl (by omega) ⟨Nat.le_refl _, Nat.le_refl _⟩ (by assumption) (c_leave (d := d - 1) hX ht) ?_
    rintro v10 hh10 ⟨rfl, hX, hF1⟩
    replace ht := okT_lv (b := 13) ht
    obtain ⟨x0, x1, xt, xn, xf, xa, x188, x189, xr, xi⟩ := id hX
    simp only [lv_0] at xn
    obtain ⟨n0, n1, n2, n3, n4, n5, n6⟩ := id xn
    refine s_iload_n (n := 14) (i := 3) dX4_given_13 rfl rfl rfl ?_
    refine s_iconst (n := 15) (v := 1) dX4_given_14 rfl (by decide) ?_
    refine s_iadd (n := 16) dX4_given_15 rfl ?_
    rw [nI_1]
    refine s_istore (n := 18) (i := 4) (ls' := [_, _, _, _, _]) dX4_given_16 rfl rfl rfl rfl ?_
    refine s_iload_n (n := 19) (i := 2) dX4_given_18 rfl rfl rfl ?_
    refine t_X4_given_19 dX4_given_19 (fun e10 => ?_) (fun e11 => ?_) (fun e12 => ?_) (fun e13 => ?_) (fun e14 => ?_) (fun e20 => ?_) (fun e21 => ?_) (fun e22 => ?_) (fun e23 => ?_) (fun e24 => ?_) (fun e10 e11 e12 e13 e14 e20 e21 e22 e23 e24 => ?_)
    · exact absurd e10 (by decide)
    · exact absurd e11 (by decide)
    · exact absurd e12 (by decide)
    · refine s_aload_n (n := 133) (i := 0) dX4_given_132 rfl rfl rfl ?_
      refine s_iload_n (n := 134) (i := 1) dX4_given_133 rfl rfl rfl ?_
      refine s_bipush (n := 136) (v := 10) dX4_given_134 rfl (by decide) ?_
      refine s_iload (n := 138) dX4_given_136 rfl rfl ?_
      refine s_v3 (M' := MX4_given) (n := 141) (ci := 4) dX4_given_138 rfl wd_X4_298 okX4_given rfl rfl (by omega) ⟨Nat.le_refl _, Nat.le_refl _⟩ (by assumption) (g_10 (d := d - 1) hX ht hj (dp := dp + 1) (by omega) (by omega)) ?_
      rintro v138 hh138 ⟨rfl, hX, hF2⟩
      have hFZ := fr_tr hF1 hF2
      obtain ⟨x0, x1, xt, xn, xf, xa, x188, x189, xr, xi⟩ := id hX
      simp only [lv_0] at xn
      obtain ⟨n0, n1, n2, n3, n4, n5, n6⟩ := id xn
      refine s_bipush (n := 143) (v := 100) dX4_given_141 rfl (by decide) ?_
      refine s_isub (n := 144) dX4_given_143 rfl ?_
      refine s_ireturn dX4_given_144 rfl (rfl) (Nat.le_refl _) (Nat.le_refl _) ?_
      exact ⟨by simp only [lv_0], hX, hFZ⟩
    · exact absurd e14 (by decide)
    · exact absurd e20 (by decide)
    · exact absurd e21 (by decide)
    · exact absurd e22 (by decide)
    · exact absurd e23 (by decide)
    · exact absurd e24 (by decide)
    · exact absurd rfl e13
  · exact absurd ((nI_leE (b := 20) (by omega) (by omega)).mpr (by omega)) b3
set_option maxRecDepth 100000 in
set_option maxHeartbeats 4000000 in
theorem g_14 {G : mj_G} {h : mj_H} {d : Nat} {σ : Nat → Nat → Int32} (hX : XS G h σ) (ht : okT σ) {j dp : Nat} (hj : j < 7) (hdp : dp ≤ 18) (hd : 4 ≤ d) : mj_con G MX4_given d 0 0 [.ref (G.1 + 0), .int (nI j), .int 14, .int (nI dp)] h (fun v h' => v = some (.int (2 * (σ 0 (13 + j) - 100))) ∧ XS G h' (lv 10 (lv 13 (lv 14 σ))) ∧ mj_fr 0 220 h h') := by
  refine mj_conV okX4_given (ls := [some (.ref (G.1 + 0)), some (.int (nI j)), some (.int 14), some (.int (nI dp)), none]) rfl rfl ?_
  obtain ⟨x0, x1, xt, xn, xf, xa, x188, x189, xr, xi⟩ := id hX
  obtain ⟨n0, n1, n2, n3, n4, n5, n6⟩ := id xn
  have a18 := xa.1
  have t2 := xt.1
  have t3 := xt.2
  refine s_iload_n (n := 1) (i := 3) dX4_given_0 rfl rfl rfl ?_
  refine s_bipush (n := 3) (v := 20) dX4_given_1 rfl (by decide) ?_
  refine s_icmp_le (n := 6) (tgt := 8) dX4_given_3 rfl rfl (fun b3 => ?_) (fun b3 => ?_)
  · refine s_aload_n (n := 9) (i := 0) dX4_given_8 rfl rfl rfl ?_
    refine s_iload_n (n := 10) (i := 2) dX4_given_9 rfl rfl rfl ?_
    refine s_v1 (M' := MX4_leaveTrace) (n := 13) (ci := 4) dX4_given_10 rfl wd_X4_301 okX4_leaveTrace rfl rfl (by omega) ⟨Nat.le_refl _, Nat.le_refl _⟩ (by assumption) (c_leave (d := d - 1) hX ht) ?_
    rintro v10 hh10 ⟨rfl, hX, hF1⟩
    replace ht := okT_lv (b := 14) ht
    obtain ⟨x0, x1, xt, xn, xf, xa, x188, x189, xr, xi⟩ := id hX
    simp only [lv_0] at xn
    obtain ⟨n0, n1, n2, n3, n4, n5, n6⟩ := id xn
    refine s_iload_n (n := 14) (i := 3) dX4_given_13 rfl rfl rfl ?_
    refine s_iconst (n := 15) (v := 1) dX4_given_14 rfl (by decide) ?_
    refine s_iadd (n := 16) dX4_given_15 rfl ?_
    rw [nI_1]
    refine s_istore (n := 18) (i := 4) (ls' := [_, _, _, _, _]) dX4_given_16 rfl rfl rfl rfl ?_
    refine s_iload_n (n := 19) (i := 2) dX4_given_18 rfl rfl rfl ?_
    refine t_X4_given_19 dX4_given_19 (fun e10 => ?_) (fun e11 => ?_) (fun e12 => ?_) (fun e13 => ?_) (fun e14 => ?_) (fun e20 => ?_) (fun e21 => ?_) (fun e22 => ?_) (fun e23 => ?_) (fun e24 => ?_) (fun e10 e11 e12 e13 e14 e20 e21 e22 e23 e24 => ?_)
    · exact absurd e10 (by decide)
    · exact absurd e11 (by decide)
    · exact absurd e12 (by decide)
    · exact absurd e13 (by decide)
    · refine s_iconst (n := 146) (v := 2) dX4_given_145 rfl (by decide) ?_
      refine s_aload_n (n := 147) (i := 0) dX4_given_146 rfl rfl rfl ?_
      refine s_iload_n (n := 148) (i := 1) dX4_given_147 rfl rfl rfl ?_
      refine s_bipush (n := 150) (v := 13) dX4_given_148 rfl (by decide) ?_
      refine s_iload (n := 152) dX4_given_150 rfl rfl ?_
      refine s_v3 (M' := MX4_given) (n := 155) (ci := 4) dX4_given_152 rfl wd_X4_298 okX4_given rfl rfl (by omega) ⟨Nat.le_refl _, Nat.le_refl _⟩ (by assumption) (g_13 (d := d - 1) hX ht hj (dp := dp + 1) (by omega) (by omega)) ?_
      rintro v152 hh152 ⟨rfl, hX, hF2⟩
      have hFZ := fr_tr hF1 hF2
      obtain ⟨x0, x1, xt, xn, xf, xa, x188, x189, xr, xi⟩ := id hX
      simp only [lv_0] at xn
      obtain ⟨n0, n1, n2, n3, n4, n5, n6⟩ := id xn
      refine s_imul (n := 156) dX4_given_155 rfl ?_
      refine s_ireturn dX4_given_156 rfl (rfl) (Nat.le_refl _) (Nat.le_refl _) ?_
      exact ⟨by simp only [lv_0], hX, hFZ⟩
    · exact absurd e20 (by decide)
    · exact absurd e21 (by decide)
    · exact absurd e22 (by decide)
    · exact absurd e23 (by decide)
    · exact absurd e24 (by decide)
    · exact absurd rfl e14
  · exact absurd ((nI_leE (b := 20) (by omega) (by omega)).mpr (by omega)) b3
set_option maxRecDepth 100000 in
set_option maxHeartbeats 4000000 in
theorem g_21 {G : mj_G} {h : mj_H} {d : Nat} {σ : Nat → Nat → Int32} (hX : XS G h σ) (ht : okT σ) {j dp : Nat} (hj : j < 7) (hdp : dp ≤ 19) (hd : 3 ≤ d) : mj_con G MX4_given d 0 0 [.ref (G.1 + 0), .int (nI j), .int 21, .int (nI dp)] h (fun v h' => v = some (.int (nI j + σ 0 (34 + j))) ∧ XS G h' (lv 20 (lv 21 σ)) ∧ mj_fr 0 220 h h') := by
  refine mj_conV okX4_given (ls := [some (.ref (G.1 + 0)), some (.int (nI j)), some (.int 21), some (.int (nI dp)), none]) rfl rfl ?_
  obtain ⟨x0, x1, xt, xn, xf, xa, x188, x189, xr, xi⟩ := id hX
  obtain ⟨n0, n1, n2, n3, n4, n5, n6⟩ := id xn
  have a18 := xa.1
  have t2 := xt.1
  have t3 := xt.2
  refine s_iload_n (n := 1) (i := 3) dX4_given_0 rfl rfl rfl ?_
  refine s_bipush (n := 3) (v := 20) dX4_given_1 rfl (by decide) ?_
  refine s_icmp_le (n := 6) (tgt := 8) dX4_given_3 rfl rfl (fun b3 => ?_) (fun b3 => ?_)
  · refine s_aload_n (n := 9) (i := 0) dX4_given_8 rfl rfl rfl ?_
    refine s_iload_n (n := 10) (i := 2) dX4_given_9 rfl rfl rfl ?_
    refine s_v1 (M' := MX4_leaveTrace) (n := 13) (ci := 4) dX4_given_10 rfl wd_X4_301 okX4_leaveTrace rfl rfl (by omega) ⟨Nat.le_refl _, Nat.le_refl _⟩ (by assumption) (c_leave (d := d - 1) hX ht) ?_
    rintro v10 hh10 ⟨rfl, hX, hF1⟩
    replace ht := okT_lv (b := 21) ht
    obtain ⟨x0, x1, xt, xn, xf, xa, x188, x189, xr, xi⟩ := id hX
    simp only [lv_0] at xn
    obtain ⟨n0, n1, n2, n3, n4, n5, n6⟩ := id xn
    refine s_iload_n (n := 14) (i := 3) dX4_given_13 rfl rfl rfl ?_
    refine s_iconst (n := 15) (v := 1) dX4_given_14 rfl (by decide) ?_
    refine s_iadd (n := 16) dX4_given_15 rfl ?_
    rw [nI_1]
    refine s_istore (n := 18) (i := 4) (ls' := [_, _, _, _, _]) dX4_given_16 rfl rfl rfl rfl ?_
    refine s_iload_n (n := 19) (i := 2) dX4_given_18 rfl rfl rfl ?_
    refine t_X4_given_19 dX4_given_19 (fun e10 => ?_) (fun e11 => ?_) (fun e12 => ?_) (fun e13 => ?_) (fun e14 => ?_) (fun e20 => ?_) (fun e21 => ?_) (fun e22 => ?_) (fun e23 => ?_) (fun e24 => ?_) (fun e10 e11 e12 e13 e14 e20 e21 e22 e23 e24 => ?_)
    · exact absurd e10 (by decide)
    · exact absurd e11 (by decide)
    · exact absurd e12 (by decide)
    · exact absurd e13 (by decide)
    · exact absurd e14 (by decide)
    · exact absurd e20 (by decide)
    · refine s_aload_n (n := 160) (i := 0) dX4_given_159 rfl rfl rfl ?_
      refine s_iload_n (n := 161) (i := 1) dX4_given_160 rfl rfl rfl ?_
      refine s_bipush (n := 163) (v := 20) dX4_given_161 rfl (by decide) ?_
      refine s_iload (n := 165) dX4_given_163 rfl rfl ?_
      refine s_v3 (M' := MX4_given) (n := 168) (ci := 4) dX4_given_165 rfl wd_X4_298 okX4_given rfl rfl (by omega) ⟨Nat.le_refl _, Nat.le_refl _⟩ (by assumption) (g_20 (d := d - 1) hX ht hj (dp := dp + 1) (by omega) (by omega)) ?_
      rintro v165 hh165 ⟨rfl, hX, hF2⟩
      have hFZ := fr_tr hF1 hF2
      obtain ⟨x0, x1, xt, xn, xf, xa, x188, x189, xr, xi⟩ := id hX
      simp only [lv_0] at xn
      obtain ⟨n0, n1, n2, n3, n4, n5, n6⟩ := id xn
      refine s_aload_n (n := 169) (i := 0) dX4_given_168 rfl rfl rfl ?_
      refine gf_X4_25 (n := 172) rfl dX4_given_169 rfl (by assumption) (by rfl) ?_
      refine gf_X4_180 (n := 175) rfl dX4_given_172 rfl (by assumption) (by rfl) ?_
      refine s_iload_n (n := 176) (i := 1) dX4_given_175 rfl rfl rfl ?_
      first | refine s_ials (n := 177) dX4_given_176 rfl (by assumption) (mj_ixn (by omega)) ?_ | refine s_iald (n := 177) dX4_given_176 rfl (by assumption) (mj_ixn (by omega)) ?_
      refine s_iadd (n := 178) dX4_given_177 rfl ?_
      refine s_ireturn dX4_given_178 rfl (rfl) (Nat.le_refl _) (Nat.le_refl _) ?_
      exact ⟨by simp only [lv_0], hX, hFZ⟩
    · exact absurd e22 (by decide)
    · exact absurd e23 (by decide)
    · exact absurd e24 (by decide)
    · exact absurd rfl e21
  · exact absurd ((nI_leE (b := 20) (by omega) (by omega)).mpr (by omega)) b3
set_option maxRecDepth 100000 in
set_option maxHeartbeats 4000000 in
theorem g_22 {G : mj_G} {h : mj_H} {d : Nat} {σ : Nat → Nat → Int32} (hX : XS G h σ) (ht : okT σ) {j dp : Nat} (hj : j < 7) (hdp : dp ≤ 18) (hd : 4 ≤ d) : mj_con G MX4_given d 0 0 [.ref (G.1 + 0), .int (nI j), .int 22, .int (nI dp)] h (fun v h' => v = some (.int (nI j + σ 0 (34 + j) - 1000)) ∧ XS G h' (lv 20 (lv 21 (lv 22 σ))) ∧ mj_fr 0 220 h h') := by
  refine mj_conV okX4_given (ls := [some (.ref (G.1 + 0)), some (.int (nI j)), some (.int 22), some (.int (nI dp)), none]) rfl rfl ?_
  obtain ⟨x0, x1, xt, xn, xf, xa, x188, x189, xr, xi⟩ := id hX
  obtain ⟨n0, n1, n2, n3, n4, n5, n6⟩ := id xn
  have a18 := xa.1
  have t2 := xt.1
  have t3 := xt.2
  refine s_iload_n (n := 1) (i := 3) dX4_given_0 rfl rfl rfl ?_
  refine s_bipush (n := 3) (v := 20) dX4_given_1 rfl (by decide) ?_
  refine s_icmp_le (n := 6) (tgt := 8) dX4_given_3 rfl rfl (fun b3 => ?_) (fun b3 => ?_)
  · refine s_aload_n (n := 9) (i := 0) dX4_given_8 rfl rfl rfl ?_
    refine s_iload_n (n := 10) (i := 2) dX4_given_9 rfl rfl rfl ?_
    refine s_v1 (M' := MX4_leaveTrace) (n := 13) (ci := 4) dX4_given_10 rfl wd_X4_301 okX4_leaveTrace rfl rfl (by omega) ⟨Nat.le_refl _, Nat.le_refl _⟩ (by assumption) (c_leave (d := d - 1) hX ht) ?_
    rintro v10 hh10 ⟨rfl, hX, hF1⟩
    replace ht := okT_lv (b := 22) ht
    obtain ⟨x0, x1, xt, xn, xf, xa, x188, x189, xr, xi⟩ := id hX
    simp only [lv_0] at xn
    obtain ⟨n0, n1, n2, n3, n4, n5, n6⟩ := id xn
    refine s_iload_n (n := 14) (i := 3) dX4_given_13 rfl rfl rfl ?_
    refine s_iconst (n := 15) (v := 1) dX4_given_14 rfl (by decide) ?_
    refine s_iadd (n := 16) dX4_given_15 rfl ?_
    rw [nI_1]
    refine s_istore (n := 18) (i := 4) (ls' := [_, _, _, _, _]) dX4_given_16 rfl rfl rfl rfl ?_
    refine s_iload_n (n := 19) (i := 2) dX4_given_18 rfl rfl rfl ?_
    refine t_X4_given_19 dX4_given_19 (fun e10 => ?_) (fun e11 => ?_) (fun e12 => ?_) (fun e13 => ?_) (fun e14 => ?_) (fun e20 => ?_) (fun e21 => ?_) (fun e22 => ?_) (fun e23 => ?_) (fun e24 => ?_) (fun e10 e11 e12 e13 e14 e20 e21 e22 e23 e24 => ?_)
    · exact absurd e10 (by decide)
    · exact absurd e11 (by decide)
    · exact absurd e12 (by decide)
    · exact absurd e13 (by decide)
    · exact absurd e14 (by decide)
    · exact absurd e20 (by decide)
    · exact absurd e21 (by decide)
    · refine s_aload_n (n := 180) (i := 0) dX4_given_179 rfl rfl rfl ?_
      refine s_iload_n (n := 181) (i := 1) dX4_given_180 rfl rfl rfl ?_
      refine s_bipush (n := 183) (v := 21) dX4_given_181 rfl (by decide) ?_
      refine s_iload (n := 185) dX4_given_183 rfl rfl ?_
      refine s_v3 (M' := MX4_given) (n := 188) (ci := 4) dX4_given_185 rfl wd_X4_298 okX4_given rfl rfl (by omega) ⟨Nat.le_refl _, Nat.le_refl _⟩ (by assumption) (g_21 (d := d - 1) hX ht hj (dp := dp + 1) (by omega) (by omega)) ?_
      rintro v185 hh185 ⟨rfl, hX, hF2⟩
      have hFZ := fr_tr hF1 hF2
      obtain ⟨x0, x1, xt, xn, xf, xa, x188, x189, xr, xi⟩ := id hX
      simp only [lv_0] at xn
      obtain ⟨n0, n1, n2, n3, n4, n5, n6⟩ := id xn
      refine s_sipush (n := 191) (v := 1000) dX4_given_188 rfl (by decide) ?_
      refine s_isub (n := 192) dX4_given_191 rfl ?_
      refine s_ireturn dX4_given_192 rfl (rfl) (Nat.le_refl _) (Nat.le_refl _) ?_
      exact ⟨by simp only [lv_0], hX, hFZ⟩
    · exact absurd e23 (by decide)
    · exact absurd e24 (by decide)
    · exact absurd rfl e22
  · exact absurd ((nI_leE (b := 20) (by omega) (by omega)).mpr (by omega)) b3
set_option maxRecDepth 100000 in
set_option maxHeartbeats 4000000 in
theorem g_24 {G : mj_G} {h : mj_H} {d : Nat} {σ : Nat → Nat → Int32} (hX : XS G h σ) (ht : okT σ) {j dp : Nat} (hj : j < 7) (hdp : dp ≤ 18) (hd : 4 ≤ d) : mj_con G MX4_given d 0 0 [.ref (G.1 + 0), .int (nI j), .int 24, .int (nI dp)] h (fun v h' => v = some (.int (2 * (nI j + σ 0 (34 + j)))) ∧ XS G h' (lv 20 (lv 21 (lv 24 σ))) ∧ mj_fr 0 220 h h') := by
  refine mj_conV okX4_given (ls := [some (.ref (G.1 + 0)), some (.int (nI j)), some (.int 24), some (.int (nI dp)), none]) rfl rfl ?_
  obtain ⟨x0, x1, xt, xn, xf, xa, x188, x189, xr, xi⟩ := id hX
  obtain ⟨n0, n1, n2, n3, n4, n5, n6⟩ := id xn
  have a18 := xa.1
  have t2 := xt.1
  have t3 := xt.2
  refine s_iload_n (n := 1) (i := 3) dX4_given_0 rfl rfl rfl ?_
  refine s_bipush (n := 3) (v := 20) dX4_given_1 rfl (by decide) ?_
  refine s_icmp_le (n := 6) (tgt := 8) dX4_given_3 rfl rfl (fun b3 => ?_) (fun b3 => ?_)
  · refine s_aload_n (n := 9) (i := 0) dX4_given_8 rfl rfl rfl ?_
    refine s_iload_n (n := 10) (i := 2) dX4_given_9 rfl rfl rfl ?_
    refine s_v1 (M' := MX4_leaveTrace) (n := 13) (ci := 4) dX4_given_10 rfl wd_X4_301 okX4_leaveTrace rfl rfl (by omega) ⟨Nat.le_refl _, Nat.le_refl _⟩ (by assumption) (c_leave (d := d - 1) hX ht) ?_
    rintro v10 hh10 ⟨rfl, hX, hF1⟩
    replace ht := okT_lv (b := 24) ht
    obtain ⟨x0, x1, xt, xn, xf, xa, x188, x189, xr, xi⟩ := id hX
    simp only [lv_0] at xn
    obtain ⟨n0, n1, n2, n3, n4, n5, n6⟩ := id xn
    refine s_iload_n (n := 14) (i := 3) dX4_given_13 rfl rfl rfl ?_
    refine s_iconst (n := 15) (v := 1) dX4_given_14 rfl (by decide) ?_
    refine s_iadd (n := 16) dX4_given_15 rfl ?_
    rw [nI_1]
    refine s_istore (n := 18) (i := 4) (ls' := [_, _, _, _, _]) dX4_given_16 rfl rfl rfl rfl ?_
    refine s_iload_n (n := 19) (i := 2) dX4_given_18 rfl rfl rfl ?_
    refine t_X4_given_19 dX4_given_19 (fun e10 => ?_) (fun e11 => ?_) (fun e12 => ?_) (fun e13 => ?_) (fun e14 => ?_) (fun e20 => ?_) (fun e21 => ?_) (fun e22 => ?_) (fun e23 => ?_) (fun e24 => ?_) (fun e10 e11 e12 e13 e14 e20 e21 e22 e23 e24 => ?_)
    · exact absurd e10 (by decide)
    · exact absurd e11 (by decide)
    · exact absurd e12 (by decide)
    · exact absurd e13 (by decide)
    · exact absurd e14 (by decide)
    · exact absurd e20 (by decide)
    · exact absurd e21 (by decide)
    · exact absurd e22 (by decide)
    · exact absurd e23 (by decide)
    · refine s_iconst (n := 213) (v := 2) dX4_given_212 rfl (by decide) ?_
      refine s_aload_n (n := 214) (i := 0) dX4_given_213 rfl rfl rfl ?_
      refine s_iload_n (n := 215) (i := 1) dX4_given_214 rfl rfl rfl ?_
      refine s_bipush (n := 217) (v := 21) dX4_given_215 rfl (by decide) ?_
      refine s_iload (n := 219) dX4_given_217 rfl rfl ?_
      refine s_v3 (M' := MX4_given) (n := 222) (ci := 4) dX4_given_219 rfl wd_X4_298 okX4_given rfl rfl (by omega) ⟨Nat.le_refl _, Nat.le_refl _⟩ (by assumption) (g_21 (d := d - 1) hX ht hj (dp := dp + 1) (by omega) (by omega)) ?_
      rintro v219 hh219 ⟨rfl, hX, hF2⟩
      have hFZ := fr_tr hF1 hF2
      obtain ⟨x0, x1, xt, xn, xf, xa, x188, x189, xr, xi⟩ := id hX
      simp only [lv_0] at xn
      obtain ⟨n0, n1, n2, n3, n4, n5, n6⟩ := id xn
      refine s_imul (n := 223) dX4_given_222 rfl ?_
      refine s_ireturn dX4_given_223 rfl (rfl) (Nat.le_refl _) (Nat.le_refl _) ?_
      exact ⟨by simp only [lv_0], hX, hFZ⟩
    · exact absurd rfl e24
  · exact absurd ((nI_leE (b := 20) (by omega) (by omega)).mpr (by omega)) b3
set_option maxRecDepth 100000 in
set_option maxHeartbeats 4000000 in
theorem a_1_1 {G : mj_G} {h : mj_H} {d : Nat} {σ : Nat → Nat → Int32} (hX : XS G h σ) (ht : okT σ) {j dp : Nat} (hj : j < 7) (hc : σ 0 (6 + j) = 1) (hdp : dp ≤ 19) (hd : 4 ≤ d) : mj_con G MX4_answerOf d 0 0 [.ref (G.1 + 0), .int (nI j), .int 1, .int (nI dp)] h (fun v h' => v = some (.int (nI j + σ 0 (34 + j))) ∧ XS G h' (lv 20 (lv 21 σ)) ∧ mj_fr 0 220 h h') := by
  refine mj_conV okX4_answerOf (ls := [some (.ref (G.1 + 0)), some (.int (nI j)), some (.int 1), some (.int (nI dp))]) rfl rfl ?_
  obtain ⟨x0, x1, xt, xn, xf, xa, x188, x189, xr, xi⟩ := id hX
  obtain ⟨n0, n1, n2, n3, n4, n5, n6⟩ := id xn
  have a18 := xa.1
  have t2 := xt.1
  have t3 := xt.2
  refine s_aload_n (n := 1) (i := 0) dX4_answerOf_0 rfl rfl rfl ?_
  refine s_iload_n (n := 2) (i := 1) dX4_answerOf_1 rfl rfl rfl ?_
  refine s_aload_n (n := 3) (i := 0) dX4_answerOf_2 rfl rfl rfl ?_
  refine gf_X4_25 (n := 6) rfl dX4_answerOf_3 rfl (by assumption) (by rfl) ?_
  refine gf_X4_259 (n := 9) rfl dX4_answerOf_6 rfl (by assumption) (by rfl) ?_
  refine s_iload_n (n := 10) (i := 1) dX4_answerOf_9 rfl rfl rfl ?_
  first | refine s_ials (n := 11) dX4_answerOf_10 rfl (by assumption) (mj_ixn (by omega)) ?_ | refine s_iald (n := 11) dX4_answerOf_10 rfl (by assumption) (mj_ixn (by omega)) ?_
  rw [hc]
  refine s_iload_n (n := 12) (i := 2) dX4_answerOf_11 rfl rfl rfl ?_
  refine s_s2 (M' := MX4_bodyFor) (n := 15) dX4_answerOf_12 rfl wd_X4_295 okX4_bodyFor rfl (by omega) ⟨Nat.le_refl _, Nat.le_refl _⟩ (c_body_1_1 (d := d - 1)) ?_
  rintro v12 hh12 ⟨rfl, rfl⟩
  refine s_iload_n (n := 16) (i := 3) dX4_answerOf_15 rfl rfl rfl ?_
  refine s_v3 (M' := MX4_given) (n := 19) (ci := 4) dX4_answerOf_16 rfl wd_X4_298 okX4_given rfl rfl (by omega) ⟨Nat.le_refl _, Nat.le_refl _⟩ (by assumption) (g_21 (d := d - 1) hX ht hj (by omega) (by omega)) ?_
  rintro v16 hh16 ⟨rfl, hX, hF1⟩
  refine s_ireturn dX4_answerOf_19 rfl (rfl) (Nat.le_refl _) (Nat.le_refl _) ?_
  exact ⟨rfl, hX, hF1⟩
set_option maxRecDepth 100000 in
set_option maxHeartbeats 4000000 in
theorem a_2_1 {G : mj_G} {h : mj_H} {d : Nat} {σ : Nat → Nat → Int32} (hX : XS G h σ) (ht : okT σ) {j dp : Nat} (hj : j < 7) (hc : σ 0 (6 + j) = 2) (hdp : dp ≤ 18) (hd : 5 ≤ d) : mj_con G MX4_answerOf d 0 0 [.ref (G.1 + 0), .int (nI j), .int 1, .int (nI dp)] h (fun v h' => v = some (.int (2 * (nI j + σ 0 (34 + j)))) ∧ XS G h' (lv 20 (lv 21 (lv 24 σ))) ∧ mj_fr 0 220 h h') := by
  refine mj_conV okX4_answerOf (ls := [some (.ref (G.1 + 0)), some (.int (nI j)), some (.int 1), some (.int (nI dp))]) rfl rfl ?_
  obtain ⟨x0, x1, xt, xn, xf, xa, x188, x189, xr, xi⟩ := id hX
  obtain ⟨n0, n1, n2, n3, n4, n5, n6⟩ := id xn
  have a18 := xa.1
  have t2 := xt.1
  have t3 := xt.2
  refine s_aload_n (n := 1) (i := 0) dX4_answerOf_0 rfl rfl rfl ?_
  refine s_iload_n (n := 2) (i := 1) dX4_answerOf_1 rfl rfl rfl ?_
  refine s_aload_n (n := 3) (i := 0) dX4_answerOf_2 rfl rfl rfl ?_
  refine gf_X4_25 (n := 6) rfl dX4_answerOf_3 rfl (by assumption) (by rfl) ?_
  refine gf_X4_259 (n := 9) rfl dX4_answerOf_6 rfl (by assumption) (by rfl) ?_
  refine s_iload_n (n := 10) (i := 1) dX4_answerOf_9 rfl rfl rfl ?_
  first | refine s_ials (n := 11) dX4_answerOf_10 rfl (by assumption) (mj_ixn (by omega)) ?_ | refine s_iald (n := 11) dX4_answerOf_10 rfl (by assumption) (mj_ixn (by omega)) ?_
  rw [hc]
  refine s_iload_n (n := 12) (i := 2) dX4_answerOf_11 rfl rfl rfl ?_
  refine s_s2 (M' := MX4_bodyFor) (n := 15) dX4_answerOf_12 rfl wd_X4_295 okX4_bodyFor rfl (by omega) ⟨Nat.le_refl _, Nat.le_refl _⟩ (c_body_2_1 (d := d - 1)) ?_
  rintro v12 hh12 ⟨rfl, rfl⟩
  refine s_iload_n (n := 16) (i := 3) dX4_answerOf_15 rfl rfl rfl ?_
  refine s_v3 (M' := MX4_given) (n := 19) (ci := 4) dX4_answerOf_16 rfl wd_X4_298 okX4_given rfl rfl (by omega) ⟨Nat.le_refl _, Nat.le_refl _⟩ (by assumption) (g_24 (d := d - 1) hX ht hj (by omega) (by omega)) ?_
  rintro v16 hh16 ⟨rfl, hX, hF1⟩
  refine s_ireturn dX4_answerOf_19 rfl (rfl) (Nat.le_refl _) (Nat.le_refl _) ?_
  exact ⟨rfl, hX, hF1⟩
set_option maxRecDepth 100000 in
set_option maxHeartbeats 4000000 in
theorem a_3_1 {G : mj_G} {h : mj_H} {d : Nat} {σ : Nat → Nat → Int32} (hX : XS G h σ) (ht : okT σ) {j dp : Nat} (hj : j < 7) (hc : σ 0 (6 + j) = 3) (hdp : dp ≤ 18) (hd : 5 ≤ d) : mj_con G MX4_answerOf d 0 0 [.ref (G.1 + 0), .int (nI j), .int 1, .int (nI dp)] h (fun v h' => v = some (.int (nI j + σ 0 (34 + j) - 1000)) ∧ XS G h' (lv 20 (lv 21 (lv 22 σ))) ∧ mj_fr 0 220 h h') := by
  refine mj_conV okX4_answerOf (ls := [some (.ref (G.1 + 0)), some (.int (nI j)), some (.int 1), some (.int (nI dp))]) rfl rfl ?_
  obtain ⟨x0, x1, xt, xn, xf, xa, x188, x189, xr, xi⟩ := id hX
  obtain ⟨n0, n1, n2, n3, n4, n5, n6⟩ := id xn
  have a18 := xa.1
  have t2 := xt.1
  have t3 := xt.2
  refine s_aload_n (n := 1) (i := 0) dX4_answerOf_0 rfl rfl rfl ?_
  refine s_iload_n (n := 2) (i := 1) dX4_answerOf_1 rfl rfl rfl ?_
  refine s_aload_n (n := 3) (i := 0) dX4_answerOf_2 rfl rfl rfl ?_
  refine gf_X4_25 (n := 6) rfl dX4_answerOf_3 rfl (by assumption) (by rfl) ?_
  refine gf_X4_259 (n := 9) rfl dX4_answerOf_6 rfl (by assumption) (by rfl) ?_
  refine s_iload_n (n := 10) (i := 1) dX4_answerOf_9 rfl rfl rfl ?_
  first | refine s_ials (n := 11) dX4_answerOf_10 rfl (by assumption) (mj_ixn (by omega)) ?_ | refine s_iald (n := 11) dX4_answerOf_10 rfl (by assumption) (mj_ixn (by omega)) ?_
  rw [hc]
  refine s_iload_n (n := 12) (i := 2) dX4_answerOf_11 rfl rfl rfl ?_
  refine s_s2 (M' := MX4_bodyFor) (n := 15) dX4_answerOf_12 rfl wd_X4_295 okX4_bodyFor rfl (by omega) ⟨Nat.le_refl _, Nat.le_refl _⟩ (c_body_3_1 (d := d - 1)) ?_
  rintro v12 hh12 ⟨rfl, rfl⟩
  refine s_iload_n (n := 16) (i := 3) dX4_answerOf_15 rfl rfl rfl ?_
  refine s_v3 (M' := MX4_given) (n := 19) (ci := 4) dX4_answerOf_16 rfl wd_X4_298 okX4_given rfl rfl (by omega) ⟨Nat.le_refl _, Nat.le_refl _⟩ (by assumption) (g_22 (d := d - 1) hX ht hj (by omega) (by omega)) ?_
  rintro v16 hh16 ⟨rfl, hX, hF1⟩
  refine s_ireturn dX4_answerOf_19 rfl (rfl) (Nat.le_refl _) (Nat.le_refl _) ?_
  exact ⟨rfl, hX, hF1⟩
set_option maxRecDepth 100000 in
set_option maxHeartbeats 4000000 in
theorem a_4_0 {G : mj_G} {h : mj_H} {d : Nat} {σ : Nat → Nat → Int32} (hX : XS G h σ) (ht : okT σ) {j dp : Nat} (hj : j < 7) (hc : σ 0 (6 + j) = 4) (hdp : dp ≤ 19) (hd : 4 ≤ d) : mj_con G MX4_answerOf d 0 0 [.ref (G.1 + 0), .int (nI j), .int 0, .int (nI dp)] h (fun v h' => v = some (.int (σ 0 (13 + j) - 100)) ∧ XS G h' (lv 10 (lv 13 σ)) ∧ mj_fr 0 220 h h') := by
  refine mj_conV okX4_answerOf (ls := [some (.ref (G.1 + 0)), some (.int (nI j)), some (.int 0), some (.int (nI dp))]) rfl rfl ?_
  obtain ⟨x0, x1, xt, xn, xf, xa, x188, x189, xr, xi⟩ := id hX
  obtain ⟨n0, n1, n2, n3, n4, n5, n6⟩ := id xn
  have a18 := xa.1
  have t2 := xt.1
  have t3 := xt.2
  refine s_aload_n (n := 1) (i := 0) dX4_answerOf_0 rfl rfl rfl ?_
  refine s_iload_n (n := 2) (i := 1) dX4_answerOf_1 rfl rfl rfl ?_
  refine s_aload_n (n := 3) (i := 0) dX4_answerOf_2 rfl rfl rfl ?_
  refine gf_X4_25 (n := 6) rfl dX4_answerOf_3 rfl (by assumption) (by rfl) ?_
  refine gf_X4_259 (n := 9) rfl dX4_answerOf_6 rfl (by assumption) (by rfl) ?_
  refine s_iload_n (n := 10) (i := 1) dX4_answerOf_9 rfl rfl rfl ?_
  first | refine s_ials (n := 11) dX4_answerOf_10 rfl (by assumption) (mj_ixn (by omega)) ?_ | refine s_iald (n := 11) dX4_answerOf_10 rfl (by assumption) (mj_ixn (by omega)) ?_
  rw [hc]
  refine s_iload_n (n := 12) (i := 2) dX4_answerOf_11 rfl rfl rfl ?_
  refine s_s2 (M' := MX4_bodyFor) (n := 15) dX4_answerOf_12 rfl wd_X4_295 okX4_bodyFor rfl (by omega) ⟨Nat.le_refl _, Nat.le_refl _⟩ (c_body_4_0 (d := d - 1)) ?_
  rintro v12 hh12 ⟨rfl, rfl⟩
  refine s_iload_n (n := 16) (i := 3) dX4_answerOf_15 rfl rfl rfl ?_
  refine s_v3 (M' := MX4_given) (n := 19) (ci := 4) dX4_answerOf_16 rfl wd_X4_298 okX4_given rfl rfl (by omega) ⟨Nat.le_refl _, Nat.le_refl _⟩ (by assumption) (g_13 (d := d - 1) hX ht hj (by omega) (by omega)) ?_
  rintro v16 hh16 ⟨rfl, hX, hF1⟩
  refine s_ireturn dX4_answerOf_19 rfl (rfl) (Nat.le_refl _) (Nat.le_refl _) ?_
  exact ⟨rfl, hX, hF1⟩
set_option maxRecDepth 100000 in
set_option maxHeartbeats 4000000 in
theorem a_5_0 {G : mj_G} {h : mj_H} {d : Nat} {σ : Nat → Nat → Int32} (hX : XS G h σ) (ht : okT σ) {j dp : Nat} (hj : j < 7) (hc : σ 0 (6 + j) = 5) (hdp : dp ≤ 18) (hd : 5 ≤ d) : mj_con G MX4_answerOf d 0 0 [.ref (G.1 + 0), .int (nI j), .int 0, .int (nI dp)] h (fun v h' => v = some (.int (2 * (σ 0 (13 + j) - 100))) ∧ XS G h' (lv 10 (lv 13 (lv 14 σ))) ∧ mj_fr 0 220 h h') := by
  refine mj_conV okX4_answerOf (ls := [some (.ref (G.1 + 0)), some (.int (nI j)), some (.int 0), some (.int (nI dp))]) rfl rfl ?_
  obtain ⟨x0, x1, xt, xn, xf, xa, x188, x189, xr, xi⟩ := id hX
  obtain ⟨n0, n1, n2, n3, n4, n5, n6⟩ := id xn
  have a18 := xa.1
  have t2 := xt.1
  have t3 := xt.2
  refine s_aload_n (n := 1) (i := 0) dX4_answerOf_0 rfl rfl rfl ?_
  refine s_iload_n (n := 2) (i := 1) dX4_answerOf_1 rfl rfl rfl ?_
  refine s_aload_n (n := 3) (i := 0) dX4_answerOf_2 rfl rfl rfl ?_
  refine gf_X4_25 (n := 6) rfl dX4_answerOf_3 rfl (by assumption) (by rfl) ?_
  refine gf_X4_259 (n := 9) rfl dX4_answerOf_6 rfl (by assumption) (by rfl) ?_
  refine s_iload_n (n := 10) (i := 1) dX4_answerOf_9 rfl rfl rfl ?_
  first | refine s_ials (n := 11) dX4_answerOf_10 rfl (by assumption) (mj_ixn (by omega)) ?_ | refine s_iald (n := 11) dX4_answerOf_10 rfl (by assumption) (mj_ixn (by omega)) ?_
  rw [hc]
  refine s_iload_n (n := 12) (i := 2) dX4_answerOf_11 rfl rfl rfl ?_
  refine s_s2 (M' := MX4_bodyFor) (n := 15) dX4_answerOf_12 rfl wd_X4_295 okX4_bodyFor rfl (by omega) ⟨Nat.le_refl _, Nat.le_refl _⟩ (c_body_5_0 (d := d - 1)) ?_
  rintro v12 hh12 ⟨rfl, rfl⟩
  refine s_iload_n (n := 16) (i := 3) dX4_answerOf_15 rfl rfl rfl ?_
  refine s_v3 (M' := MX4_given) (n := 19) (ci := 4) dX4_answerOf_16 rfl wd_X4_298 okX4_given rfl rfl (by omega) ⟨Nat.le_refl _, Nat.le_refl _⟩ (by assumption) (g_14 (d := d - 1) hX ht hj (by omega) (by omega)) ?_
  rintro v16 hh16 ⟨rfl, hX, hF1⟩
  refine s_ireturn dX4_answerOf_19 rfl (rfl) (Nat.le_refl _) (Nat.le_refl _) ?_
  exact ⟨rfl, hX, hF1⟩
set_option maxRecDepth 100000 in
set_option maxHeartbeats 4000000 in
theorem g_23_4 {G : mj_G} {h : mj_H} {d : Nat} {σ : Nat → Nat → Int32} (hX : XS G h σ) (ht : okT σ) {j dp : Nat} (hj : j < 7) (hdp : dp ≤ 18) (hc : σ 0 (6 + j) = 4) (hd : 5 ≤ d) : mj_con G MX4_given d 0 0 [.ref (G.1 + 0), .int (nI j), .int 23, .int (nI dp)] h (fun v h' => v = some (.int (nI j - (σ 0 (13 + j) - 100))) ∧ XS G h' (lv 10 (lv 13 (lv 20 (lv 23 σ)))) ∧ mj_fr 0 220 h h') := by
  refine mj_conV okX4_given (ls := [some (.ref (G.1 + 0)), some (.int (nI j)), some (.int 23), some (.int (nI dp)), none]) rfl rfl ?_
  obtain ⟨x0, x1, xt, xn, xf, xa, x188, x189, xr, xi⟩ := id hX
  obtain ⟨n0, n1, n2, n3, n4, n5, n6⟩ := id xn
  have a18 := xa.1
  have t2 := xt.1
  have t3 := xt.2
  refine s_iload_n (n := 1) (i := 3) dX4_given_0 rfl rfl rfl ?_
  refine s_bipush (n := 3) (v := 20) dX4_given_1 rfl (by decide) ?_
  refine s_icmp_le (n := 6) (tgt := 8) dX4_given_3 rfl rfl (fun b3 => ?_) (fun b3 => ?_)
  · refine s_aload_n (n := 9) (i := 0) dX4_given_8 rfl rfl rfl ?_
    refine s_iload_n (n := 10) (i := 2) dX4_given_9 rfl rfl rfl ?_
    refine s_v1 (M' := MX4_leaveTrace) (n := 13) (ci := 4) dX4_given_10 rfl wd_X4_301 okX4_leaveTrace rfl rfl (by omega) ⟨Nat.le_refl _, Nat.le_refl _⟩ (by assumption) (c_leave (d := d - 1) hX ht) ?_
    rintro v10 hh10 ⟨rfl, hX, hF1⟩
    replace ht := okT_lv (b := 23) ht
    obtain ⟨x0, x1, xt, xn, xf, xa, x188, x189, xr, xi⟩ := id hX
    simp only [lv_0] at xn
    obtain ⟨n0, n1, n2, n3, n4, n5, n6⟩ := id xn
    refine s_iload_n (n := 14) (i := 3) dX4_given_13 rfl rfl rfl ?_
    refine s_iconst (n := 15) (v := 1) dX4_given_14 rfl (by decide) ?_
    refine s_iadd (n := 16) dX4_given_15 rfl ?_
    rw [nI_1]
    refine s_istore (n := 18) (i := 4) (ls' := [_, _, _, _, _]) dX4_given_16 rfl rfl rfl rfl ?_
    refine s_iload_n (n := 19) (i := 2) dX4_given_18 rfl rfl rfl ?_
    refine t_X4_given_19 dX4_given_19 (fun e10 => ?_) (fun e11 => ?_) (fun e12 => ?_) (fun e13 => ?_) (fun e14 => ?_) (fun e20 => ?_) (fun e21 => ?_) (fun e22 => ?_) (fun e23 => ?_) (fun e24 => ?_) (fun e10 e11 e12 e13 e14 e20 e21 e22 e23 e24 => ?_)
    · exact absurd e10 (by decide)
    · exact absurd e11 (by decide)
    · exact absurd e12 (by decide)
    · exact absurd e13 (by decide)
    · exact absurd e14 (by decide)
    · exact absurd e20 (by decide)
    · exact absurd e21 (by decide)
    · exact absurd e22 (by decide)
    · refine s_aload_n (n := 194) (i := 0) dX4_given_193 rfl rfl rfl ?_
      refine s_iload_n (n := 195) (i := 1) dX4_given_194 rfl rfl rfl ?_
      refine s_bipush (n := 197) (v := 20) dX4_given_195 rfl (by decide) ?_
      refine s_iload (n := 199) dX4_given_197 rfl rfl ?_
      refine s_v3 (M' := MX4_given) (n := 202) (ci := 4) dX4_given_199 rfl wd_X4_298 okX4_given rfl rfl (by omega) ⟨Nat.le_refl _, Nat.le_refl _⟩ (by assumption) (g_20 (d := d - 1) hX ht hj (dp := dp + 1) (by omega) (by omega)) ?_
      rintro v199 hh199 ⟨rfl, hX, hF2⟩
      have hFZ := fr_tr hF1 hF2
      obtain ⟨x0, x1, xt, xn, xf, xa, x188, x189, xr, xi⟩ := id hX
      simp only [lv_0] at xn
      obtain ⟨n0, n1, n2, n3, n4, n5, n6⟩ := id xn
      refine s_aload_n (n := 203) (i := 0) dX4_given_202 rfl rfl rfl ?_
      refine s_iload_n (n := 204) (i := 1) dX4_given_203 rfl rfl rfl ?_
      refine s_iconst (n := 205) (v := 0) dX4_given_204 rfl (by decide) ?_
      refine s_iload (n := 207) dX4_given_205 rfl rfl ?_
      refine s_v3 (M' := MX4_answerOf) (n := 210) (ci := 4) dX4_given_207 rfl wd_X4_268 okX4_answerOf rfl rfl (by omega) ⟨Nat.le_refl _, Nat.le_refl _⟩ (by assumption) (a_4_0 (d := d - 1) hX (okT_lv ht) hj (by simp only [lv_0]; exact hc) (dp := dp + 1) (by omega) (by omega)) ?_
      rintro v207 hh207 ⟨rfl, hX, hF3⟩
      have hFZ := fr_tr hFZ hF3
      refine s_isub (n := 211) dX4_given_210 rfl ?_
      refine s_ireturn dX4_given_211 rfl (rfl) (Nat.le_refl _) (Nat.le_refl _) ?_
      exact ⟨by simp only [lv_0], hX, hFZ⟩
    · exact absurd e24 (by decide)
    · exact absurd rfl e23
  · exact absurd ((nI_leE (b := 20) (by omega) (by omega)).mpr (by omega)) b3
set_option maxRecDepth 100000 in
set_option maxHeartbeats 4000000 in
theorem g_23_5 {G : mj_G} {h : mj_H} {d : Nat} {σ : Nat → Nat → Int32} (hX : XS G h σ) (ht : okT σ) {j dp : Nat} (hj : j < 7) (hdp : dp ≤ 17) (hc : σ 0 (6 + j) = 5) (hd : 6 ≤ d) : mj_con G MX4_given d 0 0 [.ref (G.1 + 0), .int (nI j), .int 23, .int (nI dp)] h (fun v h' => v = some (.int (nI j - (2 * (σ 0 (13 + j) - 100)))) ∧ XS G h' (lv 10 (lv 13 (lv 14 (lv 20 (lv 23 σ))))) ∧ mj_fr 0 220 h h') := by
  refine mj_conV okX4_given (ls := [some (.ref (G.1 + 0)), some (.int (nI j)), some (.int 23), some (.int (nI dp)), none]) rfl rfl ?_
  obtain ⟨x0, x1, xt, xn, xf, xa, x188, x189, xr, xi⟩ := id hX
  obtain ⟨n0, n1, n2, n3, n4, n5, n6⟩ := id xn
  have a18 := xa.1
  have t2 := xt.1
  have t3 := xt.2
  refine s_iload_n (n := 1) (i := 3) dX4_given_0 rfl rfl rfl ?_
  refine s_bipush (n := 3) (v := 20) dX4_given_1 rfl (by decide) ?_
  refine s_icmp_le (n := 6) (tgt := 8) dX4_given_3 rfl rfl (fun b3 => ?_) (fun b3 => ?_)
  · refine s_aload_n (n := 9) (i := 0) dX4_given_8 rfl rfl rfl ?_
    refine s_iload_n (n := 10) (i := 2) dX4_given_9 rfl rfl rfl ?_
    refine s_v1 (M' := MX4_leaveTrace) (n := 13) (ci := 4) dX4_given_10 rfl wd_X4_301 okX4_leaveTrace rfl rfl (by omega) ⟨Nat.le_refl _, Nat.le_refl _⟩ (by assumption) (c_leave (d := d - 1) hX ht) ?_
    rintro v10 hh10 ⟨rfl, hX, hF1⟩
    replace ht := okT_lv (b := 23) ht
    obtain ⟨x0, x1, xt, xn, xf, xa, x188, x189, xr, xi⟩ := id hX
    simp only [lv_0] at xn
    obtain ⟨n0, n1, n2, n3, n4, n5, n6⟩ := id xn
    refine s_iload_n (n := 14) (i := 3) dX4_given_13 rfl rfl rfl ?_
    refine s_iconst (n := 15) (v := 1) dX4_given_14 rfl (by decide) ?_
    refine s_iadd (n := 16) dX4_given_15 rfl ?_
    rw [nI_1]
    refine s_istore (n := 18) (i := 4) (ls' := [_, _, _, _, _]) dX4_given_16 rfl rfl rfl rfl ?_
    refine s_iload_n (n := 19) (i := 2) dX4_given_18 rfl rfl rfl ?_
    refine t_X4_given_19 dX4_given_19 (fun e10 => ?_) (fun e11 => ?_) (fun e12 => ?_) (fun e13 => ?_) (fun e14 => ?_) (fun e20 => ?_) (fun e21 => ?_) (fun e22 => ?_) (fun e23 => ?_) (fun e24 => ?_) (fun e10 e11 e12 e13 e14 e20 e21 e22 e23 e24 => ?_)
    · exact absurd e10 (by decide)
    · exact absurd e11 (by decide)
    · exact absurd e12 (by decide)
    · exact absurd e13 (by decide)
    · exact absurd e14 (by decide)
    · exact absurd e20 (by decide)
    · exact absurd e21 (by decide)
    · exact absurd e22 (by decide)
    · refine s_aload_n (n := 194) (i := 0) dX4_given_193 rfl rfl rfl ?_
      refine s_iload_n (n := 195) (i := 1) dX4_given_194 rfl rfl rfl ?_
      refine s_bipush (n := 197) (v := 20) dX4_given_195 rfl (by decide) ?_
      refine s_iload (n := 199) dX4_given_197 rfl rfl ?_
      refine s_v3 (M' := MX4_given) (n := 202) (ci := 4) dX4_given_199 rfl wd_X4_298 okX4_given rfl rfl (by omega) ⟨Nat.le_refl _, Nat.le_refl _⟩ (by assumption) (g_20 (d := d - 1) hX ht hj (dp := dp + 1) (by omega) (by omega)) ?_
      rintro v199 hh199 ⟨rfl, hX, hF2⟩
      have hFZ := fr_tr hF1 hF2
      obtain ⟨x0, x1, xt, xn, xf, xa, x188, x189, xr, xi⟩ := id hX
      simp only [lv_0] at xn
      obtain ⟨n0, n1, n2, n3, n4, n5, n6⟩ := id xn
      refine s_aload_n (n := 203) (i := 0) dX4_given_202 rfl rfl rfl ?_
      refine s_iload_n (n := 204) (i := 1) dX4_given_203 rfl rfl rfl ?_
      refine s_iconst (n := 205) (v := 0) dX4_given_204 rfl (by decide) ?_
      refine s_iload (n := 207) dX4_given_205 rfl rfl ?_
      refine s_v3 (M' := MX4_answerOf) (n := 210) (ci := 4) dX4_given_207 rfl wd_X4_268 okX4_answerOf rfl rfl (by omega) ⟨Nat.le_refl _, Nat.le_refl _⟩ (by assumption) (a_5_0 (d := d - 1) hX (okT_lv ht) hj (by simp only [lv_0]; exact hc) (dp := dp + 1) (by omega) (by omega)) ?_
      rintro v207 hh207 ⟨rfl, hX, hF3⟩
      have hFZ := fr_tr hFZ hF3
      refine s_isub (n := 211) dX4_given_210 rfl ?_
      refine s_ireturn dX4_given_211 rfl (rfl) (Nat.le_refl _) (Nat.le_refl _) ?_
      exact ⟨by simp only [lv_0], hX, hFZ⟩
    · exact absurd e24 (by decide)
    · exact absurd rfl e23
  · exact absurd ((nI_leE (b := 20) (by omega) (by omega)).mpr (by omega)) b3
set_option maxRecDepth 100000 in
set_option maxHeartbeats 4000000 in
theorem g_11_1 {G : mj_G} {h : mj_H} {d : Nat} {σ : Nat → Nat → Int32} (hX : XS G h σ) (ht : okT σ) {j dp : Nat} (hj : j < 7) (hdp : dp ≤ 18) (hc : σ 0 (6 + j) = 1) (hd : 5 ≤ d) : mj_con G MX4_given d 0 0 [.ref (G.1 + 0), .int (nI j), .int 11, .int (nI dp)] h (fun v h' => v = some (.int (σ 0 (13 + j) + (nI j + σ 0 (34 + j)))) ∧ XS G h' (lv 20 (lv 21 (lv 10 (lv 11 σ)))) ∧ mj_fr 0 220 h h') := by
  refine mj_conV okX4_given (ls := [some (.ref (G.1 + 0)), some (.int (nI j)), some (.int 11), some (.int (nI dp)), none]) rfl rfl ?_
  obtain ⟨x0, x1, xt, xn, xf, xa, x188, x189, xr, xi⟩ := id hX
  obtain ⟨n0, n1, n2, n3, n4, n5, n6⟩ := id xn
  have a18 := xa.1
  have t2 := xt.1
  have t3 := xt.2
  refine s_iload_n (n := 1) (i := 3) dX4_given_0 rfl rfl rfl ?_
  refine s_bipush (n := 3) (v := 20) dX4_given_1 rfl (by decide) ?_
  refine s_icmp_le (n := 6) (tgt := 8) dX4_given_3 rfl rfl (fun b3 => ?_) (fun b3 => ?_)
  · refine s_aload_n (n := 9) (i := 0) dX4_given_8 rfl rfl rfl ?_
    refine s_iload_n (n := 10) (i := 2) dX4_given_9 rfl rfl rfl ?_
    refine s_v1 (M' := MX4_leaveTrace) (n := 13) (ci := 4) dX4_given_10 rfl wd_X4_301 okX4_leaveTrace rfl rfl (by omega) ⟨Nat.le_refl _, Nat.le_refl _⟩ (by assumption) (c_leave (d := d - 1) hX ht) ?_
    rintro v10 hh10 ⟨rfl, hX, hF1⟩
    replace ht := okT_lv (b := 11) ht
    obtain ⟨x0, x1, xt, xn, xf, xa, x188, x189, xr, xi⟩ := id hX
    simp only [lv_0] at xn
    obtain ⟨n0, n1, n2, n3, n4, n5, n6⟩ := id xn
    refine s_iload_n (n := 14) (i := 3) dX4_given_13 rfl rfl rfl ?_
    refine s_iconst (n := 15) (v := 1) dX4_given_14 rfl (by decide) ?_
    refine s_iadd (n := 16) dX4_given_15 rfl ?_
    rw [nI_1]
    refine s_istore (n := 18) (i := 4) (ls' := [_, _, _, _, _]) dX4_given_16 rfl rfl rfl rfl ?_
    refine s_iload_n (n := 19) (i := 2) dX4_given_18 rfl rfl rfl ?_
    refine t_X4_given_19 dX4_given_19 (fun e10 => ?_) (fun e11 => ?_) (fun e12 => ?_) (fun e13 => ?_) (fun e14 => ?_) (fun e20 => ?_) (fun e21 => ?_) (fun e22 => ?_) (fun e23 => ?_) (fun e24 => ?_) (fun e10 e11 e12 e13 e14 e20 e21 e22 e23 e24 => ?_)
    · exact absurd e10 (by decide)
    · refine s_aload_n (n := 103) (i := 0) dX4_given_102 rfl rfl rfl ?_
      refine s_iload_n (n := 104) (i := 1) dX4_given_103 rfl rfl rfl ?_
      refine s_bipush (n := 106) (v := 10) dX4_given_104 rfl (by decide) ?_
      refine s_iload (n := 108) dX4_given_106 rfl rfl ?_
      refine s_v3 (M' := MX4_given) (n := 111) (ci := 4) dX4_given_108 rfl wd_X4_298 okX4_given rfl rfl (by omega) ⟨Nat.le_refl _, Nat.le_refl _⟩ (by assumption) (g_10 (d := d - 1) hX ht hj (dp := dp + 1) (by omega) (by omega)) ?_
      rintro v108 hh108 ⟨rfl, hX, hF2⟩
      have hFZ := fr_tr hF1 hF2
      obtain ⟨x0, x1, xt, xn, xf, xa, x188, x189, xr, xi⟩ := id hX
      simp only [lv_0] at xn
      obtain ⟨n0, n1, n2, n3, n4, n5, n6⟩ := id xn
      refine s_aload_n (n := 112) (i := 0) dX4_given_111 rfl rfl rfl ?_
      refine s_iload_n (n := 113) (i := 1) dX4_given_112 rfl rfl rfl ?_
      refine s_iconst (n := 114) (v := 1) dX4_given_113 rfl (by decide) ?_
      refine s_iload (n := 116) dX4_given_114 rfl rfl ?_
      refine s_v3 (M' := MX4_answerOf) (n := 119) (ci := 4) dX4_given_116 rfl wd_X4_268 okX4_answerOf rfl rfl (by omega) ⟨Nat.le_refl _, Nat.le_refl _⟩ (by assumption) (a_1_1 (d := d - 1) hX (okT_lv ht) hj (by simp only [lv_0]; exact hc) (dp := dp + 1) (by omega) (by omega)) ?_
      rintro v116 hh116 ⟨rfl, hX, hF3⟩
      have hFZ := fr_tr hFZ hF3
      refine s_iadd (n := 120) dX4_given_119 rfl ?_
      refine s_ireturn dX4_given_120 rfl (rfl) (Nat.le_refl _) (Nat.le_refl _) ?_
      exact ⟨by simp only [lv_0], hX, hFZ⟩
    · exact absurd e12 (by decide)
    · exact absurd e13 (by decide)
    · exact absurd e14 (by decide)
    · exact absurd e20 (by decide)
    · exact absurd e21 (by decide)
    · exact absurd e22 (by decide)
    · exact absurd e23 (by decide)
    · exact absurd e24 (by decide)
    · exact absurd rfl e11
  · exact absurd ((nI_leE (b := 20) (by omega) (by omega)).mpr (by omega)) b3
set_option maxRecDepth 100000 in
set_option maxHeartbeats 4000000 in
theorem g_11_2 {G : mj_G} {h : mj_H} {d : Nat} {σ : Nat → Nat → Int32} (hX : XS G h σ) (ht : okT σ) {j dp : Nat} (hj : j < 7) (hdp : dp ≤ 17) (hc : σ 0 (6 + j) = 2) (hd : 6 ≤ d) : mj_con G MX4_given d 0 0 [.ref (G.1 + 0), .int (nI j), .int 11, .int (nI dp)] h (fun v h' => v = some (.int (σ 0 (13 + j) + (2 * (nI j + σ 0 (34 + j))))) ∧ XS G h' (lv 20 (lv 21 (lv 24 (lv 10 (lv 11 σ))))) ∧ mj_fr 0 220 h h') := by
  refine mj_conV okX4_given (ls := [some (.ref (G.1 + 0)), some (.int (nI j)), some (.int 11), some (.int (nI dp)), none]) rfl rfl ?_
  obtain ⟨x0, x1, xt, xn, xf, xa, x188, x189, xr, xi⟩ := id hX
  obtain ⟨n0, n1, n2, n3, n4, n5, n6⟩ := id xn
  have a18 := xa.1
  have t2 := xt.1
  have t3 := xt.2
  refine s_iload_n (n := 1) (i := 3) dX4_given_0 rfl rfl rfl ?_
  refine s_bipush (n := 3) (v := 20) dX4_given_1 rfl (by decide) ?_
  refine s_icmp_le (n := 6) (tgt := 8) dX4_given_3 rfl rfl (fun b3 => ?_) (fun b3 => ?_)
  · refine s_aload_n (n := 9) (i := 0) dX4_given_8 rfl rfl rfl ?_
    refine s_iload_n (n := 10) (i := 2) dX4_given_9 rfl rfl rfl ?_
    refine s_v1 (M' := MX4_leaveTrace) (n := 13) (ci := 4) dX4_given_10 rfl wd_X4_301 okX4_leaveTrace rfl rfl (by omega) ⟨Nat.le_refl _, Nat.le_refl _⟩ (by assumption) (c_leave (d := d - 1) hX ht) ?_
    rintro v10 hh10 ⟨rfl, hX, hF1⟩
    replace ht := okT_lv (b := 11) ht
    obtain ⟨x0, x1, xt, xn, xf, xa, x188, x189, xr, xi⟩ := id hX
    simp only [lv_0] at xn
    obtain ⟨n0, n1, n2, n3, n4, n5, n6⟩ := id xn
    refine s_iload_n (n := 14) (i := 3) dX4_given_13 rfl rfl rfl ?_
    refine s_iconst (n := 15) (v := 1) dX4_given_14 rfl (by decide) ?_
    refine s_iadd (n := 16) dX4_given_15 rfl ?_
    rw [nI_1]
    refine s_istore (n := 18) (i := 4) (ls' := [_, _, _, _, _]) dX4_given_16 rfl rfl rfl rfl ?_
    refine s_iload_n (n := 19) (i := 2) dX4_given_18 rfl rfl rfl ?_
    refine t_X4_given_19 dX4_given_19 (fun e10 => ?_) (fun e11 => ?_) (fun e12 => ?_) (fun e13 => ?_) (fun e14 => ?_) (fun e20 => ?_) (fun e21 => ?_) (fun e22 => ?_) (fun e23 => ?_) (fun e24 => ?_) (fun e10 e11 e12 e13 e14 e20 e21 e22 e23 e24 => ?_)
    · exact absurd e10 (by decide)
    · refine s_aload_n (n := 103) (i := 0) dX4_given_102 rfl rfl rfl ?_
      refine s_iload_n (n := 104) (i := 1) dX4_given_103 rfl rfl rfl ?_
      refine s_bipush (n := 106) (v := 10) dX4_given_104 rfl (by decide) ?_
      refine s_iload (n := 108) dX4_given_106 rfl rfl ?_
      refine s_v3 (M' := MX4_given) (n := 111) (ci := 4) dX4_given_108 rfl wd_X4_298 okX4_given rfl rfl (by omega) ⟨Nat.le_refl _, Nat.le_refl _⟩ (by assumption) (g_10 (d := d - 1) hX ht hj (dp := dp + 1) (by omega) (by omega)) ?_
      rintro v108 hh108 ⟨rfl, hX, hF2⟩
      have hFZ := fr_tr hF1 hF2
      obtain ⟨x0, x1, xt, xn, xf, xa, x188, x189, xr, xi⟩ := id hX
      simp only [lv_0] at xn
      obtain ⟨n0, n1, n2, n3, n4, n5, n6⟩ := id xn
      refine s_aload_n (n := 112) (i := 0) dX4_given_111 rfl rfl rfl ?_
      refine s_iload_n (n := 113) (i := 1) dX4_given_112 rfl rfl rfl ?_
      refine s_iconst (n := 114) (v := 1) dX4_given_113 rfl (by decide) ?_
      refine s_iload (n := 116) dX4_given_114 rfl rfl ?_
      refine s_v3 (M' := MX4_answerOf) (n := 119) (ci := 4) dX4_given_116 rfl wd_X4_268 okX4_answerOf rfl rfl (by omega) ⟨Nat.le_refl _, Nat.le_refl _⟩ (by assumption) (a_2_1 (d := d - 1) hX (okT_lv ht) hj (by simp only [lv_0]; exact hc) (dp := dp + 1) (by omega) (by omega)) ?_
      rintro v116 hh116 ⟨rfl, hX, hF3⟩
      have hFZ := fr_tr hFZ hF3
      refine s_iadd (n := 120) dX4_given_119 rfl ?_
      refine s_ireturn dX4_given_120 rfl (rfl) (Nat.le_refl _) (Nat.le_refl _) ?_
      exact ⟨by simp only [lv_0], hX, hFZ⟩
    · exact absurd e12 (by decide)
    · exact absurd e13 (by decide)
    · exact absurd e14 (by decide)
    · exact absurd e20 (by decide)
    · exact absurd e21 (by decide)
    · exact absurd e22 (by decide)
    · exact absurd e23 (by decide)
    · exact absurd e24 (by decide)
    · exact absurd rfl e11
  · exact absurd ((nI_leE (b := 20) (by omega) (by omega)).mpr (by omega)) b3
set_option maxRecDepth 100000 in
set_option maxHeartbeats 4000000 in
theorem g_11_3 {G : mj_G} {h : mj_H} {d : Nat} {σ : Nat → Nat → Int32} (hX : XS G h σ) (ht : okT σ) {j dp : Nat} (hj : j < 7) (hdp : dp ≤ 17) (hc : σ 0 (6 + j) = 3) (hd : 6 ≤ d) : mj_con G MX4_given d 0 0 [.ref (G.1 + 0), .int (nI j), .int 11, .int (nI dp)] h (fun v h' => v = some (.int (σ 0 (13 + j) + (nI j + σ 0 (34 + j) - 1000))) ∧ XS G h' (lv 20 (lv 21 (lv 22 (lv 10 (lv 11 σ))))) ∧ mj_fr 0 220 h h') := by
  refine mj_conV okX4_given (ls := [some (.ref (G.1 + 0)), some (.int (nI j)), some (.int 11), some (.int (nI dp)), none]) rfl rfl ?_
  obtain ⟨x0, x1, xt, xn, xf, xa, x188, x189, xr, xi⟩ := id hX
  obtain ⟨n0, n1, n2, n3, n4, n5, n6⟩ := id xn
  have a18 := xa.1
  have t2 := xt.1
  have t3 := xt.2
  refine s_iload_n (n := 1) (i := 3) dX4_given_0 rfl rfl rfl ?_
  refine s_bipush (n := 3) (v := 20) dX4_given_1 rfl (by decide) ?_
  refine s_icmp_le (n := 6) (tgt := 8) dX4_given_3 rfl rfl (fun b3 => ?_) (fun b3 => ?_)
  · refine s_aload_n (n := 9) (i := 0) dX4_given_8 rfl rfl rfl ?_
    refine s_iload_n (n := 10) (i := 2) dX4_given_9 rfl rfl rfl ?_
    refine s_v1 (M' := MX4_leaveTrace) (n := 13) (ci := 4) dX4_given_10 rfl wd_X4_301 okX4_leaveTrace rfl rfl (by omega) ⟨Nat.le_refl _, Nat.le_refl _⟩ (by assumption) (c_leave (d := d - 1) hX ht) ?_
    rintro v10 hh10 ⟨rfl, hX, hF1⟩
    replace ht := okT_lv (b := 11) ht
    obtain ⟨x0, x1, xt, xn, xf, xa, x188, x189, xr, xi⟩ := id hX
    simp only [lv_0] at xn
    obtain ⟨n0, n1, n2, n3, n4, n5, n6⟩ := id xn
    refine s_iload_n (n := 14) (i := 3) dX4_given_13 rfl rfl rfl ?_
    refine s_iconst (n := 15) (v := 1) dX4_given_14 rfl (by decide) ?_
    refine s_iadd (n := 16) dX4_given_15 rfl ?_
    rw [nI_1]
    refine s_istore (n := 18) (i := 4) (ls' := [_, _, _, _, _]) dX4_given_16 rfl rfl rfl rfl ?_
    refine s_iload_n (n := 19) (i := 2) dX4_given_18 rfl rfl rfl ?_
    refine t_X4_given_19 dX4_given_19 (fun e10 => ?_) (fun e11 => ?_) (fun e12 => ?_) (fun e13 => ?_) (fun e14 => ?_) (fun e20 => ?_) (fun e21 => ?_) (fun e22 => ?_) (fun e23 => ?_) (fun e24 => ?_) (fun e10 e11 e12 e13 e14 e20 e21 e22 e23 e24 => ?_)
    · exact absurd e10 (by decide)
    · refine s_aload_n (n := 103) (i := 0) dX4_given_102 rfl rfl rfl ?_
      refine s_iload_n (n := 104) (i := 1) dX4_given_103 rfl rfl rfl ?_
      refine s_bipush (n := 106) (v := 10) dX4_given_104 rfl (by decide) ?_
      refine s_iload (n := 108) dX4_given_106 rfl rfl ?_
      refine s_v3 (M' := MX4_given) (n := 111) (ci := 4) dX4_given_108 rfl wd_X4_298 okX4_given rfl rfl (by omega) ⟨Nat.le_refl _, Nat.le_refl _⟩ (by assumption) (g_10 (d := d - 1) hX ht hj (dp := dp + 1) (by omega) (by omega)) ?_
      rintro v108 hh108 ⟨rfl, hX, hF2⟩
      have hFZ := fr_tr hF1 hF2
      obtain ⟨x0, x1, xt, xn, xf, xa, x188, x189, xr, xi⟩ := id hX
      simp only [lv_0] at xn
      obtain ⟨n0, n1, n2, n3, n4, n5, n6⟩ := id xn
      refine s_aload_n (n := 112) (i := 0) dX4_given_111 rfl rfl rfl ?_
      refine s_iload_n (n := 113) (i := 1) dX4_given_112 rfl rfl rfl ?_
      refine s_iconst (n := 114) (v := 1) dX4_given_113 rfl (by decide) ?_
      refine s_iload (n := 116) dX4_given_114 rfl rfl ?_
      refine s_v3 (M' := MX4_answerOf) (n := 119) (ci := 4) dX4_given_116 rfl wd_X4_268 okX4_answerOf rfl rfl (by omega) ⟨Nat.le_refl _, Nat.le_refl _⟩ (by assumption) (a_3_1 (d := d - 1) hX (okT_lv ht) hj (by simp only [lv_0]; exact hc) (dp := dp + 1) (by omega) (by omega)) ?_
      rintro v116 hh116 ⟨rfl, hX, hF3⟩
      have hFZ := fr_tr hFZ hF3
      refine s_iadd (n := 120) dX4_given_119 rfl ?_
      refine s_ireturn dX4_given_120 rfl (rfl) (Nat.le_refl _) (Nat.le_refl _) ?_
      exact ⟨by simp only [lv_0], hX, hFZ⟩
    · exact absurd e12 (by decide)
    · exact absurd e13 (by decide)
    · exact absurd e14 (by decide)
    · exact absurd e20 (by decide)
    · exact absurd e21 (by decide)
    · exact absurd e22 (by decide)
    · exact absurd e23 (by decide)
    · exact absurd e24 (by decide)
    · exact absurd rfl e11
  · exact absurd ((nI_leE (b := 20) (by omega) (by omega)).mpr (by omega)) b3
set_option maxRecDepth 100000 in
set_option maxHeartbeats 4000000 in
theorem g_12_2 {G : mj_G} {h : mj_H} {d : Nat} {σ : Nat → Nat → Int32} (hX : XS G h σ) (ht : okT σ) {j dp : Nat} (hj : j < 7) (hdp : dp ≤ 16) (hc : σ 0 (6 + j) = 2) (hd : 7 ≤ d) : mj_con G MX4_given d 0 0 [.ref (G.1 + 0), .int (nI j), .int 12, .int (nI dp)] h (fun v h' => v = some (.int (-(σ 0 (13 + j) + (2 * (nI j + σ 0 (34 + j)))))) ∧ XS G h' (lv 20 (lv 21 (lv 24 (lv 10 (lv 11 (lv 12 σ)))))) ∧ mj_fr 0 220 h h') := by
  refine mj_conV okX4_given (ls := [some (.ref (G.1 + 0)), some (.int (nI j)), some (.int 12), some (.int (nI dp)), none]) rfl rfl ?_
  obtain ⟨x0, x1, xt, xn, xf, xa, x188, x189, xr, xi⟩ := id hX
  obtain ⟨n0, n1, n2, n3, n4, n5, n6⟩ := id xn
  have a18 := xa.1
  have t2 := xt.1
  have t3 := xt.2
  refine s_iload_n (n := 1) (i := 3) dX4_given_0 rfl rfl rfl ?_
  refine s_bipush (n := 3) (v := 20) dX4_given_1 rfl (by decide) ?_
  refine s_icmp_le (n := 6) (tgt := 8) dX4_given_3 rfl rfl (fun b3 => ?_) (fun b3 => ?_)
  · refine s_aload_n (n := 9) (i := 0) dX4_given_8 rfl rfl rfl ?_
    refine s_iload_n (n := 10) (i := 2) dX4_given_9 rfl rfl rfl ?_
    refine s_v1 (M' := MX4_leaveTrace) (n := 13) (ci := 4) dX4_given_10 rfl wd_X4_301 okX4_leaveTrace rfl rfl (by omega) ⟨Nat.le_refl _, Nat.le_refl _⟩ (by assumption) (c_leave (d := d - 1) hX ht) ?_
    rintro v10 hh10 ⟨rfl, hX, hF1⟩
    replace ht := okT_lv (b := 12) ht
    obtain ⟨x0, x1, xt, xn, xf, xa, x188, x189, xr, xi⟩ := id hX
    simp only [lv_0] at xn
    obtain ⟨n0, n1, n2, n3, n4, n5, n6⟩ := id xn
    refine s_iload_n (n := 14) (i := 3) dX4_given_13 rfl rfl rfl ?_
    refine s_iconst (n := 15) (v := 1) dX4_given_14 rfl (by decide) ?_
    refine s_iadd (n := 16) dX4_given_15 rfl ?_
    rw [nI_1]
    refine s_istore (n := 18) (i := 4) (ls' := [_, _, _, _, _]) dX4_given_16 rfl rfl rfl rfl ?_
    refine s_iload_n (n := 19) (i := 2) dX4_given_18 rfl rfl rfl ?_
    refine t_X4_given_19 dX4_given_19 (fun e10 => ?_) (fun e11 => ?_) (fun e12 => ?_) (fun e13 => ?_) (fun e14 => ?_) (fun e20 => ?_) (fun e21 => ?_) (fun e22 => ?_) (fun e23 => ?_) (fun e24 => ?_) (fun e10 e11 e12 e13 e14 e20 e21 e22 e23 e24 => ?_)
    · exact absurd e10 (by decide)
    · exact absurd e11 (by decide)
    · refine s_aload_n (n := 122) (i := 0) dX4_given_121 rfl rfl rfl ?_
      refine s_iload_n (n := 123) (i := 1) dX4_given_122 rfl rfl rfl ?_
      refine s_bipush (n := 125) (v := 11) dX4_given_123 rfl (by decide) ?_
      refine s_iload (n := 127) dX4_given_125 rfl rfl ?_
      refine s_v3 (M' := MX4_given) (n := 130) (ci := 4) dX4_given_127 rfl wd_X4_298 okX4_given rfl rfl (by omega) ⟨Nat.le_refl _, Nat.le_refl _⟩ (by assumption) (g_11_2 (d := d - 1) hX ht hj (dp := dp + 1) (by omega) (by simp only [lv_0]; exact hc) (by omega)) ?_
      rintro v127 hh127 ⟨rfl, hX, hF2⟩
      have hFZ := fr_tr hF1 hF2
      refine s_ineg (n := 131) dX4_given_130 rfl ?_
      refine s_ireturn dX4_given_131 rfl (rfl) (Nat.le_refl _) (Nat.le_refl _) ?_
      exact ⟨by simp only [lv_0], hX, hFZ⟩
    · exact absurd e13 (by decide)
    · exact absurd e14 (by decide)
    · exact absurd e20 (by decide)
    · exact absurd e21 (by decide)
    · exact absurd e22 (by decide)
    · exact absurd e23 (by decide)
    · exact absurd e24 (by decide)
    · exact absurd rfl e12
  · exact absurd ((nI_leE (b := 20) (by omega) (by omega)).mpr (by omega)) b3
set_option maxRecDepth 100000 in
set_option maxHeartbeats 4000000 in
theorem a_1_0 {G : mj_G} {h : mj_H} {d : Nat} {σ : Nat → Nat → Int32} (hX : XS G h σ) (ht : okT σ) {j dp : Nat} (hj : j < 7) (hc : σ 0 (6 + j) = 1) (hdp : dp ≤ 10) (hd : 9 ≤ d) : mj_con G MX4_answerOf d 0 0 [.ref (G.1 + 0), .int (nI j), .int 0, .int (nI dp)] h (fun v h' => v = some (.int (σ 0 (13 + j) + (nI j + σ 0 (34 + j)))) ∧ XS G h' (lv 20 (lv 21 (lv 10 (lv 11 σ)))) ∧ mj_fr 0 220 h h') := by
  refine mj_conV okX4_answerOf (ls := [some (.ref (G.1 + 0)), some (.int (nI j)), some (.int 0), some (.int (nI dp))]) rfl rfl ?_
  obtain ⟨x0, x1, xt, xn, xf, xa, x188, x189, xr, xi⟩ := id hX
  obtain ⟨n0, n1, n2, n3, n4, n5, n6⟩ := id xn
  have a18 := xa.1
  have t2 := xt.1
  have t3 := xt.2
  refine s_aload_n (n := 1) (i := 0) dX4_answerOf_0 rfl rfl rfl ?_
  refine s_iload_n (n := 2) (i := 1) dX4_answerOf_1 rfl rfl rfl ?_
  refine s_aload_n (n := 3) (i := 0) dX4_answerOf_2 rfl rfl rfl ?_
  refine gf_X4_25 (n := 6) rfl dX4_answerOf_3 rfl (by assumption) (by rfl) ?_
  refine gf_X4_259 (n := 9) rfl dX4_answerOf_6 rfl (by assumption) (by rfl) ?_
  refine s_iload_n (n := 10) (i := 1) dX4_answerOf_9 rfl rfl rfl ?_
  first | refine s_ials (n := 11) dX4_answerOf_10 rfl (by assumption) (mj_ixn (by omega)) ?_ | refine s_iald (n := 11) dX4_answerOf_10 rfl (by assumption) (mj_ixn (by omega)) ?_
  rw [hc]
  refine s_iload_n (n := 12) (i := 2) dX4_answerOf_11 rfl rfl rfl ?_
  refine s_s2 (M' := MX4_bodyFor) (n := 15) dX4_answerOf_12 rfl wd_X4_295 okX4_bodyFor rfl (by omega) ⟨Nat.le_refl _, Nat.le_refl _⟩ (c_body_1_0 (d := d - 1)) ?_
  rintro v12 hh12 ⟨rfl, rfl⟩
  refine s_iload_n (n := 16) (i := 3) dX4_answerOf_15 rfl rfl rfl ?_
  refine s_v3 (M' := MX4_given) (n := 19) (ci := 4) dX4_answerOf_16 rfl wd_X4_298 okX4_given rfl rfl (by omega) ⟨Nat.le_refl _, Nat.le_refl _⟩ (by assumption) (g_11_1 (d := d - 1) hX ht hj (by omega) hc (by omega)) ?_
  rintro v16 hh16 ⟨rfl, hX, hF1⟩
  refine s_ireturn dX4_answerOf_19 rfl (rfl) (Nat.le_refl _) (Nat.le_refl _) ?_
  exact ⟨rfl, hX, hF1⟩
set_option maxRecDepth 100000 in
set_option maxHeartbeats 4000000 in
theorem a_2_0 {G : mj_G} {h : mj_H} {d : Nat} {σ : Nat → Nat → Int32} (hX : XS G h σ) (ht : okT σ) {j dp : Nat} (hj : j < 7) (hc : σ 0 (6 + j) = 2) (hdp : dp ≤ 10) (hd : 9 ≤ d) : mj_con G MX4_answerOf d 0 0 [.ref (G.1 + 0), .int (nI j), .int 0, .int (nI dp)] h (fun v h' => v = some (.int (-(σ 0 (13 + j) + 2 * (nI j + σ 0 (34 + j))))) ∧ XS G h' (lv 20 (lv 21 (lv 24 (lv 10 (lv 11 (lv 12 σ)))))) ∧ mj_fr 0 220 h h') := by
  refine mj_conV okX4_answerOf (ls := [some (.ref (G.1 + 0)), some (.int (nI j)), some (.int 0), some (.int (nI dp))]) rfl rfl ?_
  obtain ⟨x0, x1, xt, xn, xf, xa, x188, x189, xr, xi⟩ := id hX
  obtain ⟨n0, n1, n2, n3, n4, n5, n6⟩ := id xn
  have a18 := xa.1
  have t2 := xt.1
  have t3 := xt.2
  refine s_aload_n (n := 1) (i := 0) dX4_answerOf_0 rfl rfl rfl ?_
  refine s_iload_n (n := 2) (i := 1) dX4_answerOf_1 rfl rfl rfl ?_
  refine s_aload_n (n := 3) (i := 0) dX4_answerOf_2 rfl rfl rfl ?_
  refine gf_X4_25 (n := 6) rfl dX4_answerOf_3 rfl (by assumption) (by rfl) ?_
  refine gf_X4_259 (n := 9) rfl dX4_answerOf_6 rfl (by assumption) (by rfl) ?_
  refine s_iload_n (n := 10) (i := 1) dX4_answerOf_9 rfl rfl rfl ?_
  first | refine s_ials (n := 11) dX4_answerOf_10 rfl (by assumption) (mj_ixn (by omega)) ?_ | refine s_iald (n := 11) dX4_answerOf_10 rfl (by assumption) (mj_ixn (by omega)) ?_
  rw [hc]
  refine s_iload_n (n := 12) (i := 2) dX4_answerOf_11 rfl rfl rfl ?_
  refine s_s2 (M' := MX4_bodyFor) (n := 15) dX4_answerOf_12 rfl wd_X4_295 okX4_bodyFor rfl (by omega) ⟨Nat.le_refl _, Nat.le_refl _⟩ (c_body_2_0 (d := d - 1)) ?_
  rintro v12 hh12 ⟨rfl, rfl⟩
  refine s_iload_n (n := 16) (i := 3) dX4_answerOf_15 rfl rfl rfl ?_
  refine s_v3 (M' := MX4_given) (n := 19) (ci := 4) dX4_answerOf_16 rfl wd_X4_298 okX4_given rfl rfl (by omega) ⟨Nat.le_refl _, Nat.le_refl _⟩ (by assumption) (g_12_2 (d := d - 1) hX ht hj (by omega) hc (by omega)) ?_
  rintro v16 hh16 ⟨rfl, hX, hF1⟩
  refine s_ireturn dX4_answerOf_19 rfl (rfl) (Nat.le_refl _) (Nat.le_refl _) ?_
  exact ⟨rfl, hX, hF1⟩
set_option maxRecDepth 100000 in
set_option maxHeartbeats 4000000 in
theorem a_3_0 {G : mj_G} {h : mj_H} {d : Nat} {σ : Nat → Nat → Int32} (hX : XS G h σ) (ht : okT σ) {j dp : Nat} (hj : j < 7) (hc : σ 0 (6 + j) = 3) (hdp : dp ≤ 10) (hd : 9 ≤ d) : mj_con G MX4_answerOf d 0 0 [.ref (G.1 + 0), .int (nI j), .int 0, .int (nI dp)] h (fun v h' => v = some (.int (σ 0 (13 + j) + (nI j + σ 0 (34 + j) - 1000))) ∧ XS G h' (lv 20 (lv 21 (lv 22 (lv 10 (lv 11 σ))))) ∧ mj_fr 0 220 h h') := by
  refine mj_conV okX4_answerOf (ls := [some (.ref (G.1 + 0)), some (.int (nI j)), some (.int 0), some (.int (nI dp))]) rfl rfl ?_
  obtain ⟨x0, x1, xt, xn, xf, xa, x188, x189, xr, xi⟩ := id hX
  obtain ⟨n0, n1, n2, n3, n4, n5, n6⟩ := id xn
  have a18 := xa.1
  have t2 := xt.1
  have t3 := xt.2
  refine s_aload_n (n := 1) (i := 0) dX4_answerOf_0 rfl rfl rfl ?_
  refine s_iload_n (n := 2) (i := 1) dX4_answerOf_1 rfl rfl rfl ?_
  refine s_aload_n (n := 3) (i := 0) dX4_answerOf_2 rfl rfl rfl ?_
  refine gf_X4_25 (n := 6) rfl dX4_answerOf_3 rfl (by assumption) (by rfl) ?_
  refine gf_X4_259 (n := 9) rfl dX4_answerOf_6 rfl (by assumption) (by rfl) ?_
  refine s_iload_n (n := 10) (i := 1) dX4_answerOf_9 rfl rfl rfl ?_
  first | refine s_ials (n := 11) dX4_answerOf_10 rfl (by assumption) (mj_ixn (by omega)) ?_ | refine s_iald (n := 11) dX4_answerOf_10 rfl (by assumption) (mj_ixn (by omega)) ?_
  rw [hc]
  refine s_iload_n (n := 12) (i := 2) dX4_answerOf_11 rfl rfl rfl ?_
  refine s_s2 (M' := MX4_bodyFor) (n := 15) dX4_answerOf_12 rfl wd_X4_295 okX4_bodyFor rfl (by omega) ⟨Nat.le_refl _, Nat.le_refl _⟩ (c_body_3_0 (d := d - 1)) ?_
  rintro v12 hh12 ⟨rfl, rfl⟩
  refine s_iload_n (n := 16) (i := 3) dX4_answerOf_15 rfl rfl rfl ?_
  refine s_v3 (M' := MX4_given) (n := 19) (ci := 4) dX4_answerOf_16 rfl wd_X4_298 okX4_given rfl rfl (by omega) ⟨Nat.le_refl _, Nat.le_refl _⟩ (by assumption) (g_11_3 (d := d - 1) hX ht hj (by omega) hc (by omega)) ?_
  rintro v16 hh16 ⟨rfl, hX, hF1⟩
  refine s_ireturn dX4_answerOf_19 rfl (rfl) (Nat.le_refl _) (Nat.le_refl _) ?_
  exact ⟨rfl, hX, hF1⟩
set_option maxRecDepth 100000 in
set_option maxHeartbeats 4000000 in
theorem a_4_1 {G : mj_G} {h : mj_H} {d : Nat} {σ : Nat → Nat → Int32} (hX : XS G h σ) (ht : okT σ) {j dp : Nat} (hj : j < 7) (hc : σ 0 (6 + j) = 4) (hdp : dp ≤ 10) (hd : 9 ≤ d) : mj_con G MX4_answerOf d 0 0 [.ref (G.1 + 0), .int (nI j), .int 1, .int (nI dp)] h (fun v h' => v = some (.int (nI j - (σ 0 (13 + j) - 100))) ∧ XS G h' (lv 10 (lv 13 (lv 20 (lv 23 σ)))) ∧ mj_fr 0 220 h h') := by
  refine mj_conV okX4_answerOf (ls := [some (.ref (G.1 + 0)), some (.int (nI j)), some (.int 1), some (.int (nI dp))]) rfl rfl ?_
  obtain ⟨x0, x1, xt, xn, xf, xa, x188, x189, xr, xi⟩ := id hX
  obtain ⟨n0, n1, n2, n3, n4, n5, n6⟩ := id xn
  have a18 := xa.1
  have t2 := xt.1
  have t3 := xt.2
  refine s_aload_n (n := 1) (i := 0) dX4_answerOf_0 rfl rfl rfl ?_
  refine s_iload_n (n := 2) (i := 1) dX4_answerOf_1 rfl rfl rfl ?_
  refine s_aload_n (n := 3) (i := 0) dX4_answerOf_2 rfl rfl rfl ?_
  refine gf_X4_25 (n := 6) rfl dX4_answerOf_3 rfl (by assumption) (by rfl) ?_
  refine gf_X4_259 (n := 9) rfl dX4_answerOf_6 rfl (by assumption) (by rfl) ?_
  refine s_iload_n (n := 10) (i := 1) dX4_answerOf_9 rfl rfl rfl ?_
  first | refine s_ials (n := 11) dX4_answerOf_10 rfl (by assumption) (mj_ixn (by omega)) ?_ | refine s_iald (n := 11) dX4_answerOf_10 rfl (by assumption) (mj_ixn (by omega)) ?_
  rw [hc]
  refine s_iload_n (n := 12) (i := 2) dX4_answerOf_11 rfl rfl rfl ?_
  refine s_s2 (M' := MX4_bodyFor) (n := 15) dX4_answerOf_12 rfl wd_X4_295 okX4_bodyFor rfl (by omega) ⟨Nat.le_refl _, Nat.le_refl _⟩ (c_body_4_1 (d := d - 1)) ?_
  rintro v12 hh12 ⟨rfl, rfl⟩
  refine s_iload_n (n := 16) (i := 3) dX4_answerOf_15 rfl rfl rfl ?_
  refine s_v3 (M' := MX4_given) (n := 19) (ci := 4) dX4_answerOf_16 rfl wd_X4_298 okX4_given rfl rfl (by omega) ⟨Nat.le_refl _, Nat.le_refl _⟩ (by assumption) (g_23_4 (d := d - 1) hX ht hj (by omega) hc (by omega)) ?_
  rintro v16 hh16 ⟨rfl, hX, hF1⟩
  refine s_ireturn dX4_answerOf_19 rfl (rfl) (Nat.le_refl _) (Nat.le_refl _) ?_
  exact ⟨rfl, hX, hF1⟩
set_option maxRecDepth 100000 in
set_option maxHeartbeats 4000000 in
theorem a_5_1 {G : mj_G} {h : mj_H} {d : Nat} {σ : Nat → Nat → Int32} (hX : XS G h σ) (ht : okT σ) {j dp : Nat} (hj : j < 7) (hc : σ 0 (6 + j) = 5) (hdp : dp ≤ 10) (hd : 9 ≤ d) : mj_con G MX4_answerOf d 0 0 [.ref (G.1 + 0), .int (nI j), .int 1, .int (nI dp)] h (fun v h' => v = some (.int (nI j - 2 * (σ 0 (13 + j) - 100))) ∧ XS G h' (lv 10 (lv 13 (lv 14 (lv 20 (lv 23 σ))))) ∧ mj_fr 0 220 h h') := by
  refine mj_conV okX4_answerOf (ls := [some (.ref (G.1 + 0)), some (.int (nI j)), some (.int 1), some (.int (nI dp))]) rfl rfl ?_
  obtain ⟨x0, x1, xt, xn, xf, xa, x188, x189, xr, xi⟩ := id hX
  obtain ⟨n0, n1, n2, n3, n4, n5, n6⟩ := id xn
  have a18 := xa.1
  have t2 := xt.1
  have t3 := xt.2
  refine s_aload_n (n := 1) (i := 0) dX4_answerOf_0 rfl rfl rfl ?_
  refine s_iload_n (n := 2) (i := 1) dX4_answerOf_1 rfl rfl rfl ?_
  refine s_aload_n (n := 3) (i := 0) dX4_answerOf_2 rfl rfl rfl ?_
  refine gf_X4_25 (n := 6) rfl dX4_answerOf_3 rfl (by assumption) (by rfl) ?_
  refine gf_X4_259 (n := 9) rfl dX4_answerOf_6 rfl (by assumption) (by rfl) ?_
  refine s_iload_n (n := 10) (i := 1) dX4_answerOf_9 rfl rfl rfl ?_
  first | refine s_ials (n := 11) dX4_answerOf_10 rfl (by assumption) (mj_ixn (by omega)) ?_ | refine s_iald (n := 11) dX4_answerOf_10 rfl (by assumption) (mj_ixn (by omega)) ?_
  rw [hc]
  refine s_iload_n (n := 12) (i := 2) dX4_answerOf_11 rfl rfl rfl ?_
  refine s_s2 (M' := MX4_bodyFor) (n := 15) dX4_answerOf_12 rfl wd_X4_295 okX4_bodyFor rfl (by omega) ⟨Nat.le_refl _, Nat.le_refl _⟩ (c_body_5_1 (d := d - 1)) ?_
  rintro v12 hh12 ⟨rfl, rfl⟩
  refine s_iload_n (n := 16) (i := 3) dX4_answerOf_15 rfl rfl rfl ?_
  refine s_v3 (M' := MX4_given) (n := 19) (ci := 4) dX4_answerOf_16 rfl wd_X4_298 okX4_given rfl rfl (by omega) ⟨Nat.le_refl _, Nat.le_refl _⟩ (by assumption) (g_23_5 (d := d - 1) hX ht hj (by omega) hc (by omega)) ?_
  rintro v16 hh16 ⟨rfl, hX, hF1⟩
  refine s_ireturn dX4_answerOf_19 rfl (rfl) (Nat.le_refl _) (Nat.le_refl _) ?_
  exact ⟨rfl, hX, hF1⟩
set_option maxRecDepth 100000 in
set_option maxHeartbeats 4000000 in
theorem k_ask_bad {G : mj_G} {h : mj_H} {d : Nat} {σ : Nat → Nat → Int32} (hX : XS G h σ) {n : Nat} (hn : σ 0 2 = nI n) (h7 : n ≤ 7) {x y : Int32} (hb : ¬ (Hs n x ∧ Wi y 0 1)) (hd : 2 ≤ d) : mj_con G MX4_ask d 0 0 [.ref (G.1 + 0), .int x, .int y] h (rI (-1000001) h) := by
  refine mj_conV okX4_ask (ls := [some (.ref (G.1 + 0)), some (.int x), some (.int y)]) rfl rfl ?_
  obtain ⟨x0, x1, xt, xn, xf, xa, x188, x189, xr, xi⟩ := id hX
  obtain ⟨n0, n1, n2, n3, n4, n5, n6⟩ := id xn
  have a18 := xa.1
  have t2 := xt.1
  have t3 := xt.2
  refine s_aload_n (n := 1) (i := 0) dX4_ask_0 rfl rfl rfl ?_
  refine s_iload_n (n := 2) (i := 1) dX4_ask_1 rfl rfl rfl ?_
  refine s_v1 (M' := MX4_isHouse) (n := 5) (ci := 4) dX4_ask_2 rfl wd_X4_152 okX4_isHouse rfl rfl (by omega) ⟨Nat.le_refl _, Nat.le_refl _⟩ (by assumption) (c_isHouse (d := d - 1) hX hn h7 (by omega)) ?_
  rintro v2 hh2 ⟨rfl, rfl⟩
  refine s_if_eq (n := 8) (tgt := 17) dX4_ask_5 rfl rfl (fun b5 => ?_) (fun b5 => ?_)
  · refine s_ldc (n := 19) dX4_ask_17 rfl wd_X4_56 ?_
    refine s_ireturn dX4_ask_19 rfl (rfl) (Nat.le_refl _) (Nat.le_refl _) ?_
    exact ⟨rfl, rfl⟩
  · refine s_iload_n (n := 9) (i := 2) dX4_ask_8 rfl rfl rfl ?_
    refine s_iconst (n := 10) (v := 0) dX4_ask_9 rfl (by decide) ?_
    refine s_iconst (n := 11) (v := 1) dX4_ask_10 rfl (by decide) ?_
    refine s_s3 (M' := MX4_isWithin) (n := 14) dX4_ask_11 rfl wd_X4_52 okX4_isWithin rfl (by omega) ⟨Nat.le_refl _, Nat.le_refl _⟩ (c_within (d := d - 1) (A := 0) (B := 1) (by decide) (by decide)) ?_
    rintro v11 hh11 ⟨rfl, rfl⟩
    refine s_if_ne (n := 17) (tgt := 20) dX4_ask_14 rfl rfl (fun b14 => ?_) (fun b14 => ?_)
    · exact absurd (⟨if1 b5, if1 b14⟩) hb
    · refine s_ldc (n := 19) dX4_ask_17 rfl wd_X4_56 ?_
      refine s_ireturn dX4_ask_19 rfl (rfl) (Nat.le_refl _) (Nat.le_refl _) ?_
      exact ⟨rfl, rfl⟩
/-- the trace is empty -/
def tr0 (σ : Nat → Nat → Int32) : Nat → Nat → Int32 := u2 σ 42 (upd (σ 42) 0 0)
theorem okT_0 {σ : Nat → Nat → Int32} : okT (tr0 σ) := ⟨0, by omega, rfl⟩
set_option maxRecDepth 100000 in
set_option maxHeartbeats 4000000 in
theorem k_ask_1_0 {G : mj_G} {h : mj_H} {d : Nat} {σ : Nat → Nat → Int32} (hX : XS G h σ) {n : Nat} (hn : σ 0 2 = nI n) (h7 : n ≤ 7) {j : Nat} (hj : j < n) (hc : σ 0 (6 + j) = 1) (hd : 11 ≤ d) : mj_con G MX4_ask d 0 0 [.ref (G.1 + 0), .int (nI j), .int 0] h (fun v h' => v = some (.int (σ 0 (13 + j) + (nI j + σ 0 (34 + j)))) ∧ XS G h' (lv 20 (lv 21 (lv 10 (lv 11 (tr0 σ))))) ∧ mj_fr 0 220 h h') := by
  refine mj_conV okX4_ask (ls := [some (.ref (G.1 + 0)), some (.int (nI j)), some (.int 0)]) rfl rfl ?_
  obtain ⟨x0, x1, xt, xn, xf, xa, x188, x189, xr, xi⟩ := id hX
  obtain ⟨n0, n1, n2, n3, n4, n5, n6⟩ := id xn
  have a18 := xa.1
  have t2 := xt.1
  have t3 := xt.2
  refine s_aload_n (n := 1) (i := 0) dX4_ask_0 rfl rfl rfl ?_
  refine s_iload_n (n := 2) (i := 1) dX4_ask_1 rfl rfl rfl ?_
  refine s_v1 (M' := MX4_isHouse) (n := 5) (ci := 4) dX4_ask_2 rfl wd_X4_152 okX4_isHouse rfl rfl (by omega) ⟨Nat.le_refl _, Nat.le_refl _⟩ (by assumption) (c_isHouse (d := d - 1) hX hn h7 (by omega)) ?_
  rintro v2 hh2 ⟨rfl, rfl⟩
  refine s_if_eq (n := 8) (tgt := 17) dX4_ask_5 rfl rfl (fun b5 => ?_) (fun b5 => ?_)
  · exact absurd (Hs_n hj h7) (if0 b5)
  · refine s_iload_n (n := 9) (i := 2) dX4_ask_8 rfl rfl rfl ?_
    refine s_iconst (n := 10) (v := 0) dX4_ask_9 rfl (by decide) ?_
    refine s_iconst (n := 11) (v := 1) dX4_ask_10 rfl (by decide) ?_
    refine s_s3 (M' := MX4_isWithin) (n := 14) dX4_ask_11 rfl wd_X4_52 okX4_isWithin rfl (by omega) ⟨Nat.le_refl _, Nat.le_refl _⟩ (c_within (d := d - 1) (A := 0) (B := 1) (by decide) (by decide)) ?_
    rintro v11 hh11 ⟨rfl, rfl⟩
    refine s_if_ne (n := 17) (tgt := 20) dX4_ask_14 rfl rfl (fun b14 => ?_) (fun b14 => ?_)
    · refine s_aload_n (n := 21) (i := 0) dX4_ask_20 rfl rfl rfl ?_
      refine s_iconst (n := 22) (v := 0) dX4_ask_21 rfl (by decide) ?_
      refine pf_X4_265 (n := 25) (fs' := [_, _, _, _, _, _, _, _, _, _]) rfl dX4_ask_22 rfl (by assumption) (by rfl) (by rfl) ?_
      refine XP_td hX (fun h1 hX1 hF1 => ?_)
      have x0 := hX1.1
      refine s_aload_n (n := 26) (i := 0) dX4_ask_25 rfl rfl rfl ?_
      refine s_iload_n (n := 27) (i := 1) dX4_ask_26 rfl rfl rfl ?_
      refine s_iload_n (n := 28) (i := 2) dX4_ask_27 rfl rfl rfl ?_
      refine s_iconst (n := 29) (v := 0) dX4_ask_28 rfl (by decide) ?_
      refine s_v3 (M' := MX4_answerOf) (n := 32) (ci := 4) dX4_ask_29 rfl wd_X4_268 okX4_answerOf rfl rfl (by omega) ⟨Nat.le_refl _, Nat.le_refl _⟩ (by assumption) (a_1_0 (d := d - 1) (dp := 0) hX1 okT_0 (by omega) hc (by omega) (by omega)) ?_
      rintro v29 hh29 ⟨rfl, hX2, hF2⟩
      refine s_ireturn dX4_ask_32 rfl (rfl) (Nat.le_refl _) (Nat.le_refl _) ?_
      exact ⟨rfl, hX2, fr_tr hF1 hF2⟩
    · exact absurd (⟨by decide, by decide⟩) (if0 b14)
set_option maxRecDepth 100000 in
set_option maxHeartbeats 4000000 in
theorem k_ask_2_0 {G : mj_G} {h : mj_H} {d : Nat} {σ : Nat → Nat → Int32} (hX : XS G h σ) {n : Nat} (hn : σ 0 2 = nI n) (h7 : n ≤ 7) {j : Nat} (hj : j < n) (hc : σ 0 (6 + j) = 2) (hd : 11 ≤ d) : mj_con G MX4_ask d 0 0 [.ref (G.1 + 0), .int (nI j), .int 0] h (fun v h' => v = some (.int (-(σ 0 (13 + j) + 2 * (nI j + σ 0 (34 + j))))) ∧ XS G h' (lv 20 (lv 21 (lv 24 (lv 10 (lv 11 (lv 12 (tr0 σ))))))) ∧ mj_fr 0 220 h h') := by
  refine mj_conV okX4_ask (ls := [some (.ref (G.1 + 0)), some (.int (nI j)), some (.int 0)]) rfl rfl ?_
  obtain ⟨x0, x1, xt, xn, xf, xa, x188, x189, xr, xi⟩ := id hX
  obtain ⟨n0, n1, n2, n3, n4, n5, n6⟩ := id xn
  have a18 := xa.1
  have t2 := xt.1
  have t3 := xt.2
  refine s_aload_n (n := 1) (i := 0) dX4_ask_0 rfl rfl rfl ?_
  refine s_iload_n (n := 2) (i := 1) dX4_ask_1 rfl rfl rfl ?_
  refine s_v1 (M' := MX4_isHouse) (n := 5) (ci := 4) dX4_ask_2 rfl wd_X4_152 okX4_isHouse rfl rfl (by omega) ⟨Nat.le_refl _, Nat.le_refl _⟩ (by assumption) (c_isHouse (d := d - 1) hX hn h7 (by omega)) ?_
  rintro v2 hh2 ⟨rfl, rfl⟩
  refine s_if_eq (n := 8) (tgt := 17) dX4_ask_5 rfl rfl (fun b5 => ?_) (fun b5 => ?_)
  · exact absurd (Hs_n hj h7) (if0 b5)
  · refine s_iload_n (n := 9) (i := 2) dX4_ask_8 rfl rfl rfl ?_
    refine s_iconst (n := 10) (v := 0) dX4_ask_9 rfl (by decide) ?_
    refine s_iconst (n := 11) (v := 1) dX4_ask_10 rfl (by decide) ?_
    refine s_s3 (M' := MX4_isWithin) (n := 14) dX4_ask_11 rfl wd_X4_52 okX4_isWithin rfl (by omega) ⟨Nat.le_refl _, Nat.le_refl _⟩ (c_within (d := d - 1) (A := 0) (B := 1) (by decide) (by decide)) ?_
    rintro v11 hh11 ⟨rfl, rfl⟩
    refine s_if_ne (n := 17) (tgt := 20) dX4_ask_14 rfl rfl (fun b14 => ?_) (fun b14 => ?_)
    · refine s_aload_n (n := 21) (i := 0) dX4_ask_20 rfl rfl rfl ?_
      refine s_iconst (n := 22) (v := 0) dX4_ask_21 rfl (by decide) ?_
      refine pf_X4_265 (n := 25) (fs' := [_, _, _, _, _, _, _, _, _, _]) rfl dX4_ask_22 rfl (by assumption) (by rfl) (by rfl) ?_
      refine XP_td hX (fun h1 hX1 hF1 => ?_)
      have x0 := hX1.1
      refine s_aload_n (n := 26) (i := 0) dX4_ask_25 rfl rfl rfl ?_
      refine s_iload_n (n := 27) (i := 1) dX4_ask_26 rfl rfl rfl ?_
      refine s_iload_n (n := 28) (i := 2) dX4_ask_27 rfl rfl rfl ?_
      refine s_iconst (n := 29) (v := 0) dX4_ask_28 rfl (by decide) ?_
      refine s_v3 (M' := MX4_answerOf) (n := 32) (ci := 4) dX4_ask_29 rfl wd_X4_268 okX4_answerOf rfl rfl (by omega) ⟨Nat.le_refl _, Nat.le_refl _⟩ (by assumption) (a_2_0 (d := d - 1) (dp := 0) hX1 okT_0 (by omega) hc (by omega) (by omega)) ?_
      rintro v29 hh29 ⟨rfl, hX2, hF2⟩
      refine s_ireturn dX4_ask_32 rfl (rfl) (Nat.le_refl _) (Nat.le_refl _) ?_
      exact ⟨rfl, hX2, fr_tr hF1 hF2⟩
    · exact absurd (⟨by decide, by decide⟩) (if0 b14)
set_option maxRecDepth 100000 in
set_option maxHeartbeats 4000000 in
theorem k_ask_3_0 {G : mj_G} {h : mj_H} {d : Nat} {σ : Nat → Nat → Int32} (hX : XS G h σ) {n : Nat} (hn : σ 0 2 = nI n) (h7 : n ≤ 7) {j : Nat} (hj : j < n) (hc : σ 0 (6 + j) = 3) (hd : 11 ≤ d) : mj_con G MX4_ask d 0 0 [.ref (G.1 + 0), .int (nI j), .int 0] h (fun v h' => v = some (.int (σ 0 (13 + j) + (nI j + σ 0 (34 + j) - 1000))) ∧ XS G h' (lv 20 (lv 21 (lv 22 (lv 10 (lv 11 (tr0 σ)))))) ∧ mj_fr 0 220 h h') := by
  refine mj_conV okX4_ask (ls := [some (.ref (G.1 + 0)), some (.int (nI j)), some (.int 0)]) rfl rfl ?_
  obtain ⟨x0, x1, xt, xn, xf, xa, x188, x189, xr, xi⟩ := id hX
  obtain ⟨n0, n1, n2, n3, n4, n5, n6⟩ := id xn
  have a18 := xa.1
  have t2 := xt.1
  have t3 := xt.2
  refine s_aload_n (n := 1) (i := 0) dX4_ask_0 rfl rfl rfl ?_
  refine s_iload_n (n := 2) (i := 1) dX4_ask_1 rfl rfl rfl ?_
  refine s_v1 (M' := MX4_isHouse) (n := 5) (ci := 4) dX4_ask_2 rfl wd_X4_152 okX4_isHouse rfl rfl (by omega) ⟨Nat.le_refl _, Nat.le_refl _⟩ (by assumption) (c_isHouse (d := d - 1) hX hn h7 (by omega)) ?_
  rintro v2 hh2 ⟨rfl, rfl⟩
  refine s_if_eq (n := 8) (tgt := 17) dX4_ask_5 rfl rfl (fun b5 => ?_) (fun b5 => ?_)
  · exact absurd (Hs_n hj h7) (if0 b5)
  · refine s_iload_n (n := 9) (i := 2) dX4_ask_8 rfl rfl rfl ?_
    refine s_iconst (n := 10) (v := 0) dX4_ask_9 rfl (by decide) ?_
    refine s_iconst (n := 11) (v := 1) dX4_ask_10 rfl (by decide) ?_
    refine s_s3 (M' := MX4_isWithin) (n := 14) dX4_ask_11 rfl wd_X4_52 okX4_isWithin rfl (by omega) ⟨Nat.le_refl _, Nat.le_refl _⟩ (c_within (d := d - 1) (A := 0) (B := 1) (by decide) (by decide)) ?_
    rintro v11 hh11 ⟨rfl, rfl⟩
    refine s_if_ne (n := 17) (tgt := 20) dX4_ask_14 rfl rfl (fun b14 => ?_) (fun b14 => ?_)
    · refine s_aload_n (n := 21) (i := 0) dX4_ask_20 rfl rfl rfl ?_
      refine s_iconst (n := 22) (v := 0) dX4_ask_21 rfl (by decide) ?_
      refine pf_X4_265 (n := 25) (fs' := [_, _, _, _, _, _, _, _, _, _]) rfl dX4_ask_22 rfl (by assumption) (by rfl) (by rfl) ?_
      refine XP_td hX (fun h1 hX1 hF1 => ?_)
      have x0 := hX1.1
      refine s_aload_n (n := 26) (i := 0) dX4_ask_25 rfl rfl rfl ?_
      refine s_iload_n (n := 27) (i := 1) dX4_ask_26 rfl rfl rfl ?_
      refine s_iload_n (n := 28) (i := 2) dX4_ask_27 rfl rfl rfl ?_
      refine s_iconst (n := 29) (v := 0) dX4_ask_28 rfl (by decide) ?_
      refine s_v3 (M' := MX4_answerOf) (n := 32) (ci := 4) dX4_ask_29 rfl wd_X4_268 okX4_answerOf rfl rfl (by omega) ⟨Nat.le_refl _, Nat.le_refl _⟩ (by assumption) (a_3_0 (d := d - 1) (dp := 0) hX1 okT_0 (by omega) hc (by omega) (by omega)) ?_
      rintro v29 hh29 ⟨rfl, hX2, hF2⟩
      refine s_ireturn dX4_ask_32 rfl (rfl) (Nat.le_refl _) (Nat.le_refl _) ?_
      exact ⟨rfl, hX2, fr_tr hF1 hF2⟩
    · exact absurd (⟨by decide, by decide⟩) (if0 b14)
set_option maxRecDepth 100000 in
set_option maxHeartbeats 4000000 in
theorem k_ask_4_0 {G : mj_G} {h : mj_H} {d : Nat} {σ : Nat → Nat → Int32} (hX : XS G h σ) {n : Nat} (hn : σ 0 2 = nI n) (h7 : n ≤ 7) {j : Nat} (hj : j < n) (hc : σ 0 (6 + j) = 4) (hd : 11 ≤ d) : mj_con G MX4_ask d 0 0 [.ref (G.1 + 0), .int (nI j), .int 0] h (fun v h' => v = some (.int (σ 0 (13 + j) - 100)) ∧ XS G h' (lv 10 (lv 13 (tr0 σ))) ∧ mj_fr 0 220 h h') := by
  refine mj_conV okX4_ask (ls := [some (.ref (G.1 + 0)), some (.int (nI j)), some (.int 0)]) rfl rfl ?_
  obtain ⟨x0, x1, xt, xn, xf, xa, x188, x189, xr, xi⟩ := id hX
  obtain ⟨n0, n1, n2, n3, n4, n5, n6⟩ := id xn
  have a18 := xa.1
  have t2 := xt.1
  have t3 := xt.2
  refine s_aload_n (n := 1) (i := 0) dX4_ask_0 rfl rfl rfl ?_
  refine s_iload_n (n := 2) (i := 1) dX4_ask_1 rfl rfl rfl ?_
  refine s_v1 (M' := MX4_isHouse) (n := 5) (ci := 4) dX4_ask_2 rfl wd_X4_152 okX4_isHouse rfl rfl (by omega) ⟨Nat.le_refl _, Nat.le_refl _⟩ (by assumption) (c_isHouse (d := d - 1) hX hn h7 (by omega)) ?_
  rintro v2 hh2 ⟨rfl, rfl⟩
  refine s_if_eq (n := 8) (tgt := 17) dX4_ask_5 rfl rfl (fun b5 => ?_) (fun b5 => ?_)
  · exact absurd (Hs_n hj h7) (if0 b5)
  · refine s_iload_n (n := 9) (i := 2) dX4_ask_8 rfl rfl rfl ?_
    refine s_iconst (n := 10) (v := 0) dX4_ask_9 rfl (by decide) ?_
    refine s_iconst (n := 11) (v := 1) dX4_ask_10 rfl (by decide) ?_
    refine s_s3 (M' := MX4_isWithin) (n := 14) dX4_ask_11 rfl wd_X4_52 okX4_isWithin rfl (by omega) ⟨Nat.le_refl _, Nat.le_refl _⟩ (c_within (d := d - 1) (A := 0) (B := 1) (by decide) (by decide)) ?_
    rintro v11 hh11 ⟨rfl, rfl⟩
    refine s_if_ne (n := 17) (tgt := 20) dX4_ask_14 rfl rfl (fun b14 => ?_) (fun b14 => ?_)
    · refine s_aload_n (n := 21) (i := 0) dX4_ask_20 rfl rfl rfl ?_
      refine s_iconst (n := 22) (v := 0) dX4_ask_21 rfl (by decide) ?_
      refine pf_X4_265 (n := 25) (fs' := [_, _, _, _, _, _, _, _, _, _]) rfl dX4_ask_22 rfl (by assumption) (by rfl) (by rfl) ?_
      refine XP_td hX (fun h1 hX1 hF1 => ?_)
      have x0 := hX1.1
      refine s_aload_n (n := 26) (i := 0) dX4_ask_25 rfl rfl rfl ?_
      refine s_iload_n (n := 27) (i := 1) dX4_ask_26 rfl rfl rfl ?_
      refine s_iload_n (n := 28) (i := 2) dX4_ask_27 rfl rfl rfl ?_
      refine s_iconst (n := 29) (v := 0) dX4_ask_28 rfl (by decide) ?_
      refine s_v3 (M' := MX4_answerOf) (n := 32) (ci := 4) dX4_ask_29 rfl wd_X4_268 okX4_answerOf rfl rfl (by omega) ⟨Nat.le_refl _, Nat.le_refl _⟩ (by assumption) (a_4_0 (d := d - 1) (dp := 0) hX1 okT_0 (by omega) hc (by omega) (by omega)) ?_
      rintro v29 hh29 ⟨rfl, hX2, hF2⟩
      refine s_ireturn dX4_ask_32 rfl (rfl) (Nat.le_refl _) (Nat.le_refl _) ?_
      exact ⟨rfl, hX2, fr_tr hF1 hF2⟩
    · exact absurd (⟨by decide, by decide⟩) (if0 b14)
set_option maxRecDepth 100000 in
set_option maxHeartbeats 4000000 in
theorem k_ask_5_0 {G : mj_G} {h : mj_H} {d : Nat} {σ : Nat → Nat → Int32} (hX : XS G h σ) {n : Nat} (hn : σ 0 2 = nI n) (h7 : n ≤ 7) {j : Nat} (hj : j < n) (hc : σ 0 (6 + j) = 5) (hd : 11 ≤ d) : mj_con G MX4_ask d 0 0 [.ref (G.1 + 0), .int (nI j), .int 0] h (fun v h' => v = some (.int (2 * (σ 0 (13 + j) - 100))) ∧ XS G h' (lv 10 (lv 13 (lv 14 (tr0 σ)))) ∧ mj_fr 0 220 h h') := by
  refine mj_conV okX4_ask (ls := [some (.ref (G.1 + 0)), some (.int (nI j)), some (.int 0)]) rfl rfl ?_
  obtain ⟨x0, x1, xt, xn, xf, xa, x188, x189, xr, xi⟩ := id hX
  obtain ⟨n0, n1, n2, n3, n4, n5, n6⟩ := id xn
  have a18 := xa.1
  have t2 := xt.1
  have t3 := xt.2
  refine s_aload_n (n := 1) (i := 0) dX4_ask_0 rfl rfl rfl ?_
  refine s_iload_n (n := 2) (i := 1) dX4_ask_1 rfl rfl rfl ?_
  refine s_v1 (M' := MX4_isHouse) (n := 5) (ci := 4) dX4_ask_2 rfl wd_X4_152 okX4_isHouse rfl rfl (by omega) ⟨Nat.le_refl _, Nat.le_refl _⟩ (by assumption) (c_isHouse (d := d - 1) hX hn h7 (by omega)) ?_
  rintro v2 hh2 ⟨rfl, rfl⟩
  refine s_if_eq (n := 8) (tgt := 17) dX4_ask_5 rfl rfl (fun b5 => ?_) (fun b5 => ?_)
  · exact absurd (Hs_n hj h7) (if0 b5)
  · refine s_iload_n (n := 9) (i := 2) dX4_ask_8 rfl rfl rfl ?_
    refine s_iconst (n := 10) (v := 0) dX4_ask_9 rfl (by decide) ?_
    refine s_iconst (n := 11) (v := 1) dX4_ask_10 rfl (by decide) ?_
    refine s_s3 (M' := MX4_isWithin) (n := 14) dX4_ask_11 rfl wd_X4_52 okX4_isWithin rfl (by omega) ⟨Nat.le_refl _, Nat.le_refl _⟩ (c_within (d := d - 1) (A := 0) (B := 1) (by decide) (by decide)) ?_
    rintro v11 hh11 ⟨rfl, rfl⟩
    refine s_if_ne (n := 17) (tgt := 20) dX4_ask_14 rfl rfl (fun b14 => ?_) (fun b14 => ?_)
    · refine s_aload_n (n := 21) (i := 0) dX4_ask_20 rfl rfl rfl ?_
      refine s_iconst (n := 22) (v := 0) dX4_ask_21 rfl (by decide) ?_
      refine pf_X4_265 (n := 25) (fs' := [_, _, _, _, _, _, _, _, _, _]) rfl dX4_ask_22 rfl (by assumption) (by rfl) (by rfl) ?_
      refine XP_td hX (fun h1 hX1 hF1 => ?_)
      have x0 := hX1.1
      refine s_aload_n (n := 26) (i := 0) dX4_ask_25 rfl rfl rfl ?_
      refine s_iload_n (n := 27) (i := 1) dX4_ask_26 rfl rfl rfl ?_
      refine s_iload_n (n := 28) (i := 2) dX4_ask_27 rfl rfl rfl ?_
      refine s_iconst (n := 29) (v := 0) dX4_ask_28 rfl (by decide) ?_
      refine s_v3 (M' := MX4_answerOf) (n := 32) (ci := 4) dX4_ask_29 rfl wd_X4_268 okX4_answerOf rfl rfl (by omega) ⟨Nat.le_refl _, Nat.le_refl _⟩ (by assumption) (a_5_0 (d := d - 1) (dp := 0) hX1 okT_0 (by omega) hc (by omega) (by omega)) ?_
      rintro v29 hh29 ⟨rfl, hX2, hF2⟩
      refine s_ireturn dX4_ask_32 rfl (rfl) (Nat.le_refl _) (Nat.le_refl _) ?_
      exact ⟨rfl, hX2, fr_tr hF1 hF2⟩
    · exact absurd (⟨by decide, by decide⟩) (if0 b14)
set_option maxRecDepth 100000 in
set_option maxHeartbeats 4000000 in
theorem k_ask_1_1 {G : mj_G} {h : mj_H} {d : Nat} {σ : Nat → Nat → Int32} (hX : XS G h σ) {n : Nat} (hn : σ 0 2 = nI n) (h7 : n ≤ 7) {j : Nat} (hj : j < n) (hc : σ 0 (6 + j) = 1) (hd : 11 ≤ d) : mj_con G MX4_ask d 0 0 [.ref (G.1 + 0), .int (nI j), .int 1] h (fun v h' => v = some (.int (nI j + σ 0 (34 + j))) ∧ XS G h' (lv 20 (lv 21 (tr0 σ))) ∧ mj_fr 0 220 h h') := by
  refine mj_conV okX4_ask (ls := [some (.ref (G.1 + 0)), some (.int (nI j)), some (.int 1)]) rfl rfl ?_
  obtain ⟨x0, x1, xt, xn, xf, xa, x188, x189, xr, xi⟩ := id hX
  obtain ⟨n0, n1, n2, n3, n4, n5, n6⟩ := id xn
  have a18 := xa.1
  have t2 := xt.1
  have t3 := xt.2
  refine s_aload_n (n := 1) (i := 0) dX4_ask_0 rfl rfl rfl ?_
  refine s_iload_n (n := 2) (i := 1) dX4_ask_1 rfl rfl rfl ?_
  refine s_v1 (M' := MX4_isHouse) (n := 5) (ci := 4) dX4_ask_2 rfl wd_X4_152 okX4_isHouse rfl rfl (by omega) ⟨Nat.le_refl _, Nat.le_refl _⟩ (by assumption) (c_isHouse (d := d - 1) hX hn h7 (by omega)) ?_
  rintro v2 hh2 ⟨rfl, rfl⟩
  refine s_if_eq (n := 8) (tgt := 17) dX4_ask_5 rfl rfl (fun b5 => ?_) (fun b5 => ?_)
  · exact absurd (Hs_n hj h7) (if0 b5)
  · refine s_iload_n (n := 9) (i := 2) dX4_ask_8 rfl rfl rfl ?_
    refine s_iconst (n := 10) (v := 0) dX4_ask_9 rfl (by decide) ?_
    refine s_iconst (n := 11) (v := 1) dX4_ask_10 rfl (by decide) ?_
    refine s_s3 (M' := MX4_isWithin) (n := 14) dX4_ask_11 rfl wd_X4_52 okX4_isWithin rfl (by omega) ⟨Nat.le_refl _, Nat.le_refl _⟩ (c_within (d := d - 1) (A := 0) (B := 1) (by decide) (by decide)) ?_
    rintro v11 hh11 ⟨rfl, rfl⟩
    refine s_if_ne (n := 17) (tgt := 20) dX4_ask_14 rfl rfl (fun b14 => ?_) (fun b14 => ?_)
    · refine s_aload_n (n := 21) (i := 0) dX4_ask_20 rfl rfl rfl ?_
      refine s_iconst (n := 22) (v := 0) dX4_ask_21 rfl (by decide) ?_
      refine pf_X4_265 (n := 25) (fs' := [_, _, _, _, _, _, _, _, _, _]) rfl dX4_ask_22 rfl (by assumption) (by rfl) (by rfl) ?_
      refine XP_td hX (fun h1 hX1 hF1 => ?_)
      have x0 := hX1.1
      refine s_aload_n (n := 26) (i := 0) dX4_ask_25 rfl rfl rfl ?_
      refine s_iload_n (n := 27) (i := 1) dX4_ask_26 rfl rfl rfl ?_
      refine s_iload_n (n := 28) (i := 2) dX4_ask_27 rfl rfl rfl ?_
      refine s_iconst (n := 29) (v := 0) dX4_ask_28 rfl (by decide) ?_
      refine s_v3 (M' := MX4_answerOf) (n := 32) (ci := 4) dX4_ask_29 rfl wd_X4_268 okX4_answerOf rfl rfl (by omega) ⟨Nat.le_refl _, Nat.le_refl _⟩ (by assumption) (a_1_1 (d := d - 1) (dp := 0) hX1 okT_0 (by omega) hc (by omega) (by omega)) ?_
      rintro v29 hh29 ⟨rfl, hX2, hF2⟩
      refine s_ireturn dX4_ask_32 rfl (rfl) (Nat.le_refl _) (Nat.le_refl _) ?_
      exact ⟨rfl, hX2, fr_tr hF1 hF2⟩
    · exact absurd (⟨by decide, by decide⟩) (if0 b14)
set_option maxRecDepth 100000 in
set_option maxHeartbeats 4000000 in
theorem k_ask_2_1 {G : mj_G} {h : mj_H} {d : Nat} {σ : Nat → Nat → Int32} (hX : XS G h σ) {n : Nat} (hn : σ 0 2 = nI n) (h7 : n ≤ 7) {j : Nat} (hj : j < n) (hc : σ 0 (6 + j) = 2) (hd : 11 ≤ d) : mj_con G MX4_ask d 0 0 [.ref (G.1 + 0), .int (nI j), .int 1] h (fun v h' => v = some (.int (2 * (nI j + σ 0 (34 + j)))) ∧ XS G h' (lv 20 (lv 21 (lv 24 (tr0 σ)))) ∧ mj_fr 0 220 h h') := by
  refine mj_conV okX4_ask (ls := [some (.ref (G.1 + 0)), some (.int (nI j)), some (.int 1)]) rfl rfl ?_
  obtain ⟨x0, x1, xt, xn, xf, xa, x188, x189, xr, xi⟩ := id hX
  obtain ⟨n0, n1, n2, n3, n4, n5, n6⟩ := id xn
  have a18 := xa.1
  have t2 := xt.1
  have t3 := xt.2
  refine s_aload_n (n := 1) (i := 0) dX4_ask_0 rfl rfl rfl ?_
  refine s_iload_n (n := 2) (i := 1) dX4_ask_1 rfl rfl rfl ?_
  refine s_v1 (M' := MX4_isHouse) (n := 5) (ci := 4) dX4_ask_2 rfl wd_X4_152 okX4_isHouse rfl rfl (by omega) ⟨Nat.le_refl _, Nat.le_refl _⟩ (by assumption) (c_isHouse (d := d - 1) hX hn h7 (by omega)) ?_
  rintro v2 hh2 ⟨rfl, rfl⟩
  refine s_if_eq (n := 8) (tgt := 17) dX4_ask_5 rfl rfl (fun b5 => ?_) (fun b5 => ?_)
  · exact absurd (Hs_n hj h7) (if0 b5)
  · refine s_iload_n (n := 9) (i := 2) dX4_ask_8 rfl rfl rfl ?_
    refine s_iconst (n := 10) (v := 0) dX4_ask_9 rfl (by decide) ?_
    refine s_iconst (n := 11) (v := 1) dX4_ask_10 rfl (by decide) ?_
    refine s_s3 (M' := MX4_isWithin) (n := 14) dX4_ask_11 rfl wd_X4_52 okX4_isWithin rfl (by omega) ⟨Nat.le_refl _, Nat.le_refl _⟩ (c_within (d := d - 1) (A := 0) (B := 1) (by decide) (by decide)) ?_
    rintro v11 hh11 ⟨rfl, rfl⟩
    refine s_if_ne (n := 17) (tgt := 20) dX4_ask_14 rfl rfl (fun b14 => ?_) (fun b14 => ?_)
    · refine s_aload_n (n := 21) (i := 0) dX4_ask_20 rfl rfl rfl ?_
      refine s_iconst (n := 22) (v := 0) dX4_ask_21 rfl (by decide) ?_
      refine pf_X4_265 (n := 25) (fs' := [_, _, _, _, _, _, _, _, _, _]) rfl dX4_ask_22 rfl (by assumption) (by rfl) (by rfl) ?_
      refine XP_td hX (fun h1 hX1 hF1 => ?_)
      have x0 := hX1.1
      refine s_aload_n (n := 26) (i := 0) dX4_ask_25 rfl rfl rfl ?_
      refine s_iload_n (n := 27) (i := 1) dX4_ask_26 rfl rfl rfl ?_
      refine s_iload_n (n := 28) (i := 2) dX4_ask_27 rfl rfl rfl ?_
      refine s_iconst (n := 29) (v := 0) dX4_ask_28 rfl (by decide) ?_
      refine s_v3 (M' := MX4_answerOf) (n := 32) (ci := 4) dX4_ask_29 rfl wd_X4_268 okX4_answerOf rfl rfl (by omega) ⟨Nat.le_refl _, Nat.le_refl _⟩ (by assumption) (a_2_1 (d := d - 1) (dp := 0) hX1 okT_0 (by omega) hc (by omega) (by omega)) ?_
      rintro v29 hh29 ⟨rfl, hX2, hF2⟩
      refine s_ireturn dX4_ask_32 rfl (rfl) (Nat.le_refl _) (Nat.le_refl _) ?_
      exact ⟨rfl, hX2, fr_tr hF1 hF2⟩
    · exact absurd (⟨by decide, by decide⟩) (if0 b14)
set_option maxRecDepth 100000 in
set_option maxHeartbeats 4000000 in
theorem k_ask_3_1 {G : mj_G} {h : mj_H} {d : Nat} {σ : Nat → Nat → Int32} (hX : XS G h σ) {n : Nat} (hn : σ 0 2 = nI n) (h7 : n ≤ 7) {j : Nat} (hj : j < n) (hc : σ 0 (6 + j) = 3) (hd : 11 ≤ d) : mj_con G MX4_ask d 0 0 [.ref (G.1 + 0), .int (nI j), .int 1] h (fun v h' => v = some (.int (nI j + σ 0 (34 + j) - 1000)) ∧ XS G h' (lv 20 (lv 21 (lv 22 (tr0 σ)))) ∧ mj_fr 0 220 h h') := by
  refine mj_conV okX4_ask (ls := [some (.ref (G.1 + 0)), some (.int (nI j)), some (.int 1)]) rfl rfl ?_
  obtain ⟨x0, x1, xt, xn, xf, xa, x188, x189, xr, xi⟩ := id hX
  obtain ⟨n0, n1, n2, n3, n4, n5, n6⟩ := id xn
  have a18 := xa.1
  have t2 := xt.1
  have t3 := xt.2
  refine s_aload_n (n := 1) (i := 0) dX4_ask_0 rfl rfl rfl ?_
  refine s_iload_n (n := 2) (i := 1) dX4_ask_1 rfl rfl rfl ?_
  refine s_v1 (M' := MX4_isHouse) (n := 5) (ci := 4) dX4_ask_2 rfl wd_X4_152 okX4_isHouse rfl rfl (by omega) ⟨Nat.le_refl _, Nat.le_refl _⟩ (by assumption) (c_isHouse (d := d - 1) hX hn h7 (by omega)) ?_
  rintro v2 hh2 ⟨rfl, rfl⟩
  refine s_if_eq (n := 8) (tgt := 17) dX4_ask_5 rfl rfl (fun b5 => ?_) (fun b5 => ?_)
  · exact absurd (Hs_n hj h7) (if0 b5)
  · refine s_iload_n (n := 9) (i := 2) dX4_ask_8 rfl rfl rfl ?_
    refine s_iconst (n := 10) (v := 0) dX4_ask_9 rfl (by decide) ?_
    refine s_iconst (n := 11) (v := 1) dX4_ask_10 rfl (by decide) ?_
    refine s_s3 (M' := MX4_isWithin) (n := 14) dX4_ask_11 rfl wd_X4_52 okX4_isWithin rfl (by omega) ⟨Nat.le_refl _, Nat.le_refl _⟩ (c_within (d := d - 1) (A := 0) (B := 1) (by decide) (by decide)) ?_
    rintro v11 hh11 ⟨rfl, rfl⟩
    refine s_if_ne (n := 17) (tgt := 20) dX4_ask_14 rfl rfl (fun b14 => ?_) (fun b14 => ?_)
    · refine s_aload_n (n := 21) (i := 0) dX4_ask_20 rfl rfl rfl ?_
      refine s_iconst (n := 22) (v := 0) dX4_ask_21 rfl (by decide) ?_
      refine pf_X4_265 (n := 25) (fs' := [_, _, _, _, _, _, _, _, _, _]) rfl dX4_ask_22 rfl (by assumption) (by rfl) (by rfl) ?_
      refine XP_td hX (fun h1 hX1 hF1 => ?_)
      have x0 := hX1.1
      refine s_aload_n (n := 26) (i := 0) dX4_ask_25 rfl rfl rfl ?_
      refine s_iload_n (n := 27) (i := 1) dX4_ask_26 rfl rfl rfl ?_
      refine s_iload_n (n := 28) (i := 2) dX4_ask_27 rfl rfl rfl ?_
      refine s_iconst (n := 29) (v := 0) dX4_ask_28 rfl (by decide) ?_
      refine s_v3 (M' := MX4_answerOf) (n := 32) (ci := 4) dX4_ask_29 rfl wd_X4_268 okX4_answerOf rfl rfl (by omega) ⟨Nat.le_refl _, Nat.le_refl _⟩ (by assumption) (a_3_1 (d := d - 1) (dp := 0) hX1 okT_0 (by omega) hc (by omega) (by omega)) ?_
      rintro v29 hh29 ⟨rfl, hX2, hF2⟩
      refine s_ireturn dX4_ask_32 rfl (rfl) (Nat.le_refl _) (Nat.le_refl _) ?_
      exact ⟨rfl, hX2, fr_tr hF1 hF2⟩
    · exact absurd (⟨by decide, by decide⟩) (if0 b14)
set_option maxRecDepth 100000 in
set_option maxHeartbeats 4000000 in
theorem k_ask_4_1 {G : mj_G} {h : mj_H} {d : Nat} {σ : Nat → Nat → Int32} (hX : XS G h σ) {n : Nat} (hn : σ 0 2 = nI n) (h7 : n ≤ 7) {j : Nat} (hj : j < n) (hc : σ 0 (6 + j) = 4) (hd : 11 ≤ d) : mj_con G MX4_ask d 0 0 [.ref (G.1 + 0), .int (nI j), .int 1] h (fun v h' => v = some (.int (nI j - (σ 0 (13 + j) - 100))) ∧ XS G h' (lv 10 (lv 13 (lv 20 (lv 23 (tr0 σ))))) ∧ mj_fr 0 220 h h') := by
  refine mj_conV okX4_ask (ls := [some (.ref (G.1 + 0)), some (.int (nI j)), some (.int 1)]) rfl rfl ?_
  obtain ⟨x0, x1, xt, xn, xf, xa, x188, x189, xr, xi⟩ := id hX
  obtain ⟨n0, n1, n2, n3, n4, n5, n6⟩ := id xn
  have a18 := xa.1
  have t2 := xt.1
  have t3 := xt.2
  refine s_aload_n (n := 1) (i := 0) dX4_ask_0 rfl rfl rfl ?_
  refine s_iload_n (n := 2) (i := 1) dX4_ask_1 rfl rfl rfl ?_
  refine s_v1 (M' := MX4_isHouse) (n := 5) (ci := 4) dX4_ask_2 rfl wd_X4_152 okX4_isHouse rfl rfl (by omega) ⟨Nat.le_refl _, Nat.le_refl _⟩ (by assumption) (c_isHouse (d := d - 1) hX hn h7 (by omega)) ?_
  rintro v2 hh2 ⟨rfl, rfl⟩
  refine s_if_eq (n := 8) (tgt := 17) dX4_ask_5 rfl rfl (fun b5 => ?_) (fun b5 => ?_)
  · exact absurd (Hs_n hj h7) (if0 b5)
  · refine s_iload_n (n := 9) (i := 2) dX4_ask_8 rfl rfl rfl ?_
    refine s_iconst (n := 10) (v := 0) dX4_ask_9 rfl (by decide) ?_
    refine s_iconst (n := 11) (v := 1) dX4_ask_10 rfl (by decide) ?_
    refine s_s3 (M' := MX4_isWithin) (n := 14) dX4_ask_11 rfl wd_X4_52 okX4_isWithin rfl (by omega) ⟨Nat.le_refl _, Nat.le_refl _⟩ (c_within (d := d - 1) (A := 0) (B := 1) (by decide) (by decide)) ?_
    rintro v11 hh11 ⟨rfl, rfl⟩
    refine s_if_ne (n := 17) (tgt := 20) dX4_ask_14 rfl rfl (fun b14 => ?_) (fun b14 => ?_)
    · refine s_aload_n (n := 21) (i := 0) dX4_ask_20 rfl rfl rfl ?_
      refine s_iconst (n := 22) (v := 0) dX4_ask_21 rfl (by decide) ?_
      refine pf_X4_265 (n := 25) (fs' := [_, _, _, _, _, _, _, _, _, _]) rfl dX4_ask_22 rfl (by assumption) (by rfl) (by rfl) ?_
      refine XP_td hX (fun h1 hX1 hF1 => ?_)
      have x0 := hX1.1
      refine s_aload_n (n := 26) (i := 0) dX4_ask_25 rfl rfl rfl ?_
      refine s_iload_n (n := 27) (i := 1) dX4_ask_26 rfl rfl rfl ?_
      refine s_iload_n (n := 28) (i := 2) dX4_ask_27 rfl rfl rfl ?_
      refine s_iconst (n := 29) (v := 0) dX4_ask_28 rfl (by decide) ?_
      refine s_v3 (M' := MX4_answerOf) (n := 32) (ci := 4) dX4_ask_29 rfl wd_X4_268 okX4_answerOf rfl rfl (by omega) ⟨Nat.le_refl _, Nat.le_refl _⟩ (by assumption) (a_4_1 (d := d - 1) (dp := 0) hX1 okT_0 (by omega) hc (by omega) (by omega)) ?_
      rintro v29 hh29 ⟨rfl, hX2, hF2⟩
      refine s_ireturn dX4_ask_32 rfl (rfl) (Nat.le_refl _) (Nat.le_refl _) ?_
      exact ⟨rfl, hX2, fr_tr hF1 hF2⟩
    · exact absurd (⟨by decide, by decide⟩) (if0 b14)
set_option maxRecDepth 100000 in
set_option maxHeartbeats 4000000 in
theorem k_ask_5_1 {G : mj_G} {h : mj_H} {d : Nat} {σ : Nat → Nat → Int32} (hX : XS G h σ) {n : Nat} (hn : σ 0 2 = nI n) (h7 : n ≤ 7) {j : Nat} (hj : j < n) (hc : σ 0 (6 + j) = 5) (hd : 11 ≤ d) : mj_con G MX4_ask d 0 0 [.ref (G.1 + 0), .int (nI j), .int 1] h (fun v h' => v = some (.int (nI j - 2 * (σ 0 (13 + j) - 100))) ∧ XS G h' (lv 10 (lv 13 (lv 14 (lv 20 (lv 23 (tr0 σ)))))) ∧ mj_fr 0 220 h h') := by
  refine mj_conV okX4_ask (ls := [some (.ref (G.1 + 0)), some (.int (nI j)), some (.int 1)]) rfl rfl ?_
  obtain ⟨x0, x1, xt, xn, xf, xa, x188, x189, xr, xi⟩ := id hX
  obtain ⟨n0, n1, n2, n3, n4, n5, n6⟩ := id xn
  have a18 := xa.1
  have t2 := xt.1
  have t3 := xt.2
  refine s_aload_n (n := 1) (i := 0) dX4_ask_0 rfl rfl rfl ?_
  refine s_iload_n (n := 2) (i := 1) dX4_ask_1 rfl rfl rfl ?_
  refine s_v1 (M' := MX4_isHouse) (n := 5) (ci := 4) dX4_ask_2 rfl wd_X4_152 okX4_isHouse rfl rfl (by omega) ⟨Nat.le_refl _, Nat.le_refl _⟩ (by assumption) (c_isHouse (d := d - 1) hX hn h7 (by omega)) ?_
  rintro v2 hh2 ⟨rfl, rfl⟩
  refine s_if_eq (n := 8) (tgt := 17) dX4_ask_5 rfl rfl (fun b5 => ?_) (fun b5 => ?_)
  · exact absurd (Hs_n hj h7) (if0 b5)
  · refine s_iload_n (n := 9) (i := 2) dX4_ask_8 rfl rfl rfl ?_
    refine s_iconst (n := 10) (v := 0) dX4_ask_9 rfl (by decide) ?_
    refine s_iconst (n := 11) (v := 1) dX4_ask_10 rfl (by decide) ?_
    refine s_s3 (M' := MX4_isWithin) (n := 14) dX4_ask_11 rfl wd_X4_52 okX4_isWithin rfl (by omega) ⟨Nat.le_refl _, Nat.le_refl _⟩ (c_within (d := d - 1) (A := 0) (B := 1) (by decide) (by decide)) ?_
    rintro v11 hh11 ⟨rfl, rfl⟩
    refine s_if_ne (n := 17) (tgt := 20) dX4_ask_14 rfl rfl (fun b14 => ?_) (fun b14 => ?_)
    · refine s_aload_n (n := 21) (i := 0) dX4_ask_20 rfl rfl rfl ?_
      refine s_iconst (n := 22) (v := 0) dX4_ask_21 rfl (by decide) ?_
      refine pf_X4_265 (n := 25) (fs' := [_, _, _, _, _, _, _, _, _, _]) rfl dX4_ask_22 rfl (by assumption) (by rfl) (by rfl) ?_
      refine XP_td hX (fun h1 hX1 hF1 => ?_)
      have x0 := hX1.1
      refine s_aload_n (n := 26) (i := 0) dX4_ask_25 rfl rfl rfl ?_
      refine s_iload_n (n := 27) (i := 1) dX4_ask_26 rfl rfl rfl ?_
      refine s_iload_n (n := 28) (i := 2) dX4_ask_27 rfl rfl rfl ?_
      refine s_iconst (n := 29) (v := 0) dX4_ask_28 rfl (by decide) ?_
      refine s_v3 (M' := MX4_answerOf) (n := 32) (ci := 4) dX4_ask_29 rfl wd_X4_268 okX4_answerOf rfl rfl (by omega) ⟨Nat.le_refl _, Nat.le_refl _⟩ (by assumption) (a_5_1 (d := d - 1) (dp := 0) hX1 okT_0 (by omega) hc (by omega) (by omega)) ?_
      rintro v29 hh29 ⟨rfl, hX2, hF2⟩
      refine s_ireturn dX4_ask_32 rfl (rfl) (Nat.le_refl _) (Nat.le_refl _) ?_
      exact ⟨rfl, hX2, fr_tr hF1 hF2⟩
    · exact absurd (⟨by decide, by decide⟩) (if0 b14)
