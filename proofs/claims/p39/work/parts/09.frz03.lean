theorem d_Fz_passingBetween_46 : decode prog_4_method_4_code 46 = .ok (.ifCond .ne 5, 3) := zo_154 (d := 0) (e := 5) (zd_b zq_prog_4_method_4_code_1 14 rfl rfl rfl) (zd_b zq_prog_4_method_4_code_1 15 rfl rfl rfl) (zd_b zq_prog_4_method_4_code_1 16 rfl rfl rfl) (by decide +kernel)
theorem d_Fz_passingBetween_49 : decode prog_4_method_4_code 49 = .ok (.iconst 4, 1) := zo_7 (zd_b zq_prog_4_method_4_code_1 17 rfl rfl rfl)
theorem d_Fz_passingBetween_50 : decode prog_4_method_4_code 50 = .ok (.ireturn, 1) := zo_172 (zd_b zq_prog_4_method_4_code_1 18 rfl rfl rfl)
theorem d_Fz_passingBetween_19 : decode prog_4_method_4_code 19 = .ok (.iconst 1, 1) := zo_4 (zd_b zq_prog_4_method_4_code_0 19 rfl rfl rfl)
theorem d_Fz_passingBetween_20 : decode prog_4_method_4_code 20 = .ok (.goto 4, 3) := zo_167 (d := 0) (e := 4) (zd_b zq_prog_4_method_4_code_0 20 rfl rfl rfl) (zd_b zq_prog_4_method_4_code_0 21 rfl rfl rfl) (zd_b zq_prog_4_method_4_code_0 22 rfl rfl rfl) (by decide +kernel)
theorem d_Fz_passingBetween_51 : decode prog_4_method_4_code 51 = .ok (.iload 4, 2) := zo_21 (d := 4) (zd_b zq_prog_4_method_4_code_1 19 rfl rfl rfl) (zd_b zq_prog_4_method_4_code_1 20 rfl rfl rfl)
theorem d_Fz_passingBetween_53 : decode prog_4_method_4_code 53 = .ok (.ifCond .eq 9, 3) := zo_153 (d := 0) (e := 9) (zd_b zq_prog_4_method_4_code_1 21 rfl rfl rfl) (zd_b zq_prog_4_method_4_code_1 22 rfl rfl rfl) (zd_b zq_prog_4_method_4_code_1 23 rfl rfl rfl) (by decide +kernel)
theorem d_Fz_passingBetween_62 : decode prog_4_method_4_code 62 = .ok (.aload_n 0, 1) := zo_42 (zd_b zq_prog_4_method_4_code_1 30 rfl rfl rfl)
theorem d_Fz_passingBetween_63 : decode prog_4_method_4_code 63 = .ok (.iload_n 2, 1) := zo_28 (zd_b zq_prog_4_method_4_code_1 31 rfl rfl rfl)
theorem d_Fz_passingBetween_64 : decode prog_4_method_4_code 64 = .ok (.caload, 1) := zo_52 (zd_b zq_prog_4_method_4_code_2 0 rfl rfl rfl)
theorem d_Fz_passingBetween_65 : decode prog_4_method_4_code 65 = .ok (.istore 6, 2) := zo_54 (d := 6) (zd_b zq_prog_4_method_4_code_2 1 rfl rfl rfl) (zd_b zq_prog_4_method_4_code_2 2 rfl rfl rfl)
theorem d_Fz_passingBetween_67 : decode prog_4_method_4_code 67 = .ok (.iload 6, 2) := zo_21 (d := 6) (zd_b zq_prog_4_method_4_code_2 3 rfl rfl rfl) (zd_b zq_prog_4_method_4_code_2 4 rfl rfl rfl)
theorem d_Fz_passingBetween_69 : decode prog_4_method_4_code 69 = .ok (.bipush 107, 2) := zo_16 (d := 107) (zd_b zq_prog_4_method_4_code_2 5 rfl rfl rfl) (zd_b zq_prog_4_method_4_code_2 6 rfl rfl rfl) (by decide +kernel)
theorem d_Fz_passingBetween_71 : decode prog_4_method_4_code 71 = .ok (.if_icmp .ne 6, 3) := zo_160 (d := 0) (e := 6) (zd_b zq_prog_4_method_4_code_2 7 rfl rfl rfl) (zd_b zq_prog_4_method_4_code_2 8 rfl rfl rfl) (zd_b zq_prog_4_method_4_code_2 9 rfl rfl rfl) (by decide +kernel)
theorem d_Fz_passingBetween_77 : decode prog_4_method_4_code 77 = .ok (.iload 6, 2) := zo_21 (d := 6) (zd_b zq_prog_4_method_4_code_2 13 rfl rfl rfl) (zd_b zq_prog_4_method_4_code_2 14 rfl rfl rfl)
theorem d_Fz_passingBetween_79 : decode prog_4_method_4_code 79 = .ok (.bipush 111, 2) := zo_16 (d := 111) (zd_b zq_prog_4_method_4_code_2 15 rfl rfl rfl) (zd_b zq_prog_4_method_4_code_2 16 rfl rfl rfl) (by decide +kernel)
theorem d_Fz_passingBetween_81 : decode prog_4_method_4_code 81 = .ok (.if_icmp .ne 7, 3) := zo_160 (d := 0) (e := 7) (zd_b zq_prog_4_method_4_code_2 17 rfl rfl rfl) (zd_b zq_prog_4_method_4_code_2 18 rfl rfl rfl) (zd_b zq_prog_4_method_4_code_2 19 rfl rfl rfl) (by decide +kernel)
theorem d_Fz_passingBetween_88 : decode prog_4_method_4_code 88 = .ok (.iconst 4, 1) := zo_7 (zd_b zq_prog_4_method_4_code_2 24 rfl rfl rfl)
theorem d_Fz_passingBetween_89 : decode prog_4_method_4_code 89 = .ok (.ireturn, 1) := zo_172 (zd_b zq_prog_4_method_4_code_2 25 rfl rfl rfl)
theorem d_Fz_passingBetween_84 : decode prog_4_method_4_code 84 = .ok (.iconst 3, 1) := zo_6 (zd_b zq_prog_4_method_4_code_2 20 rfl rfl rfl)
theorem d_Fz_passingBetween_85 : decode prog_4_method_4_code 85 = .ok (.goto 4, 3) := zo_167 (d := 0) (e := 4) (zd_b zq_prog_4_method_4_code_2 21 rfl rfl rfl) (zd_b zq_prog_4_method_4_code_2 22 rfl rfl rfl) (zd_b zq_prog_4_method_4_code_2 23 rfl rfl rfl) (by decide +kernel)
theorem d_Fz_passingBetween_74 : decode prog_4_method_4_code 74 = .ok (.bipush 14, 2) := zo_16 (d := 14) (zd_b zq_prog_4_method_4_code_2 10 rfl rfl rfl) (zd_b zq_prog_4_method_4_code_2 11 rfl rfl rfl) (by decide +kernel)
theorem d_Fz_passingBetween_76 : decode prog_4_method_4_code 76 = .ok (.ireturn, 1) := zo_172 (zd_b zq_prog_4_method_4_code_2 12 rfl rfl rfl)
theorem d_Fz_passingBetween_6 : decode prog_4_method_4_code 6 = .ok (.iconst 1, 1) := zo_4 (zd_b zq_prog_4_method_4_code_0 6 rfl rfl rfl)
theorem d_Fz_passingBetween_7 : decode prog_4_method_4_code 7 = .ok (.goto 4, 3) := zo_167 (d := 0) (e := 4) (zd_b zq_prog_4_method_4_code_0 7 rfl rfl rfl) (zd_b zq_prog_4_method_4_code_0 8 rfl rfl rfl) (zd_b zq_prog_4_method_4_code_0 9 rfl rfl rfl) (by decide +kernel)
theorem d_Fz_passingBetween_31 : decode prog_4_method_4_code 31 = .ok (.iload 5, 2) := zo_21 (d := 5) (zd_b zq_prog_4_method_4_code_0 31 rfl rfl rfl) (zd_b zq_prog_4_method_4_code_1 0 rfl rfl rfl)
theorem d_Fz_passingBetween_33 : decode prog_4_method_4_code 33 = .ok (.ifCond .eq 6, 3) := zo_153 (d := 0) (e := 6) (zd_b zq_prog_4_method_4_code_1 1 rfl rfl rfl) (zd_b zq_prog_4_method_4_code_1 2 rfl rfl rfl) (zd_b zq_prog_4_method_4_code_1 3 rfl rfl rfl) (by decide +kernel)
theorem d_Fz_passingBetween_56 : decode prog_4_method_4_code 56 = .ok (.aload_n 0, 1) := zo_42 (zd_b zq_prog_4_method_4_code_1 24 rfl rfl rfl)
theorem d_Fz_passingBetween_57 : decode prog_4_method_4_code 57 = .ok (.iload_n 3, 1) := zo_29 (zd_b zq_prog_4_method_4_code_1 25 rfl rfl rfl)
theorem d_Fz_passingBetween_58 : decode prog_4_method_4_code 58 = .ok (.caload, 1) := zo_52 (zd_b zq_prog_4_method_4_code_1 26 rfl rfl rfl)
theorem d_Fz_passingBetween_59 : decode prog_4_method_4_code 59 = .ok (.goto 6, 3) := zo_167 (d := 0) (e := 6) (zd_b zq_prog_4_method_4_code_1 27 rfl rfl rfl) (zd_b zq_prog_4_method_4_code_1 28 rfl rfl rfl) (zd_b zq_prog_4_method_4_code_1 29 rfl rfl rfl) (by decide +kernel)
theorem d_Fz_passingBetween_36 : decode prog_4_method_4_code 36 = .ok (.bipush 12, 2) := zo_16 (d := 12) (zd_b zq_prog_4_method_4_code_1 4 rfl rfl rfl) (zd_b zq_prog_4_method_4_code_1 5 rfl rfl rfl) (by decide +kernel)
theorem d_Fz_passingBetween_38 : decode prog_4_method_4_code 38 = .ok (.ireturn, 1) := zo_172 (zd_b zq_prog_4_method_4_code_1 6 rfl rfl rfl)
set_option maxHeartbeats 4000000 in
set_option maxRecDepth 100000 in
theorem C_Fz_passing (g : zG) (a b : Nat) (ce fi : Nat → Int32) (oo p : Nat) (ho : oo < 108) (hp : p < 108) : CT g M_Fz_passingBetween [.ref a, .ref b, .int (nI oo), .int (nI p)] [(a, .inl (1, 108, .inl ce)), (b, .inl (0, 108, .inl fi))] (fun o cs1 => o = .inl (some (.int (pbS ce fi oo p))) ∧ cs1 = [(a, .inl (1, 108, .inl ce)), (b, .inl (0, 108, .inl fi))]) 0 0 := by
  refine z_of (by decide) rfl (Nat.le_of_ble_eq_true rfl) (fun w0 => ?_)
  refine r_lvE (lv2 := [(0, .ref a), (1, .ref b), (2, .int (nI oo)), (3, .int (nI p))]) rfl ?_
  refine r_aload_n d_Fz_passingBetween_0 rfl 1 rfl ?_
  refine r_iload_n d_Fz_passingBetween_1 rfl 2 rfl ?_
  refine r_iald d_Fz_passingBetween_2 (q0 := 1) rfl (vp_in_nI (by omega) (by omega)) (v := fi oo) (by rw [nI_clamp (by omega)]) ?_
  refine r_if_lt (tgt := 10) d_Fz_passingBetween_3 (by decide) (fun c_3 => ?_) (fun c_3 => ?_)
  · refine r_iconst d_Fz_passingBetween_10 (v := 0) (by decide) ?_
    refine r_istore (lv' := [(4, .int 0), (0, .ref a), (1, .ref b), (2, .int (nI oo)), (3, .int (nI p))]) d_Fz_passingBetween_11 (by decide) rfl ?_
    refine r_aload_n d_Fz_passingBetween_13 rfl 2 rfl ?_
    refine r_iload_n d_Fz_passingBetween_14 rfl 4 rfl ?_
    refine r_iald d_Fz_passingBetween_15 (q0 := 1) rfl (vp_in_nI (by omega) (by omega)) (v := fi p) (by rw [nI_clamp (by omega)]) ?_
    refine r_if_lt (tgt := 23) d_Fz_passingBetween_16 (by decide) (fun c_16 => ?_) (fun c_16 => ?_)
    · refine r_iconst d_Fz_passingBetween_23 (v := 0) (by decide) ?_
      refine r_istore (lv' := [(5, .int 0), (4, .int 0), (0, .ref a), (1, .ref b), (2, .int (nI oo)), (3, .int (nI p))]) d_Fz_passingBetween_24 (by decide) rfl ?_
      refine r_iload d_Fz_passingBetween_26 1 rfl ?_
      refine r_if_eq (tgt := 39) d_Fz_passingBetween_28 (by decide) (fun c_28 => ?_) (fun c_28 => ?_)
      · refine r_iload d_Fz_passingBetween_39 1 rfl ?_
        refine r_if_ne (tgt := 51) d_Fz_passingBetween_41 (by decide) (fun c_41 => ?_) (fun c_41 => ?_)
        · exact absurd c_41 (by decide)
        · refine r_iload d_Fz_passingBetween_44 0 rfl ?_
          refine r_if_ne (tgt := 51) d_Fz_passingBetween_46 (by decide) (fun c_46 => ?_) (fun c_46 => ?_)
          · exact absurd c_46 (by decide)
          · refine r_iconst d_Fz_passingBetween_49 (v := 4) (by decide) ?_
            refine r_iret d_Fz_passingBetween_50 rfl rfl ?_
            refine ⟨?_, rfl⟩
            unfold pbS
            first | rw [if_pos (Int32.not_lt.mp c_3)] | rw [if_neg (fun h => Int32.not_lt.mpr h c_3)]
            first | rw [if_pos (Int32.not_lt.mp c_16)] | rw [if_neg (fun h => Int32.not_lt.mpr h c_16)]
            try first | rw [if_pos (by assumption)] | rw [if_neg (by assumption)]
            try first | rw [if_pos (by assumption)] | rw [if_neg (by assumption)]
      · exact absurd c_28 (by decide)
    · refine r_iconst d_Fz_passingBetween_19 (v := 1) (by decide) ?_
      refine r_goto (tgt := 24) d_Fz_passingBetween_20 (by decide) ?_
      refine r_istore (lv' := [(5, .int 1), (4, .int 0), (0, .ref a), (1, .ref b), (2, .int (nI oo)), (3, .int (nI p))]) d_Fz_passingBetween_24 (by decide) rfl ?_
      refine r_iload d_Fz_passingBetween_26 1 rfl ?_
      refine r_if_eq (tgt := 39) d_Fz_passingBetween_28 (by decide) (fun c_28 => ?_) (fun c_28 => ?_)
      · refine r_iload d_Fz_passingBetween_39 1 rfl ?_
        refine r_if_ne (tgt := 51) d_Fz_passingBetween_41 (by decide) (fun c_41 => ?_) (fun c_41 => ?_)
        · exact absurd c_41 (by decide)
        · refine r_iload d_Fz_passingBetween_44 0 rfl ?_
          refine r_if_ne (tgt := 51) d_Fz_passingBetween_46 (by decide) (fun c_46 => ?_) (fun c_46 => ?_)
          · refine r_iload d_Fz_passingBetween_51 1 rfl ?_
            refine r_if_eq (tgt := 62) d_Fz_passingBetween_53 (by decide) (fun c_53 => ?_) (fun c_53 => ?_)
            · refine r_aload_n d_Fz_passingBetween_62 rfl 2 rfl ?_
              refine r_iload_n d_Fz_passingBetween_63 rfl 4 rfl ?_
              refine r_cald d_Fz_passingBetween_64 (q0 := 0) rfl (vp_in_nI (by omega) (by omega)) (v := ce oo) (by rw [nI_clamp (by omega)]) ?_
              refine r_istore (lv' := [(6, .int (ce oo)), (5, .int 1), (4, .int 0), (0, .ref a), (1, .ref b), (2, .int (nI oo)), (3, .int (nI p))]) d_Fz_passingBetween_65 (by decide) rfl ?_
              refine r_iload d_Fz_passingBetween_67 0 rfl ?_
              refine r_bipush d_Fz_passingBetween_69 (v := 107) (by decide) ?_
              refine r_icmp_ne (tgt := 77) d_Fz_passingBetween_71 (by decide) (fun c_71 => ?_) (fun c_71 => ?_)
              · refine r_iload d_Fz_passingBetween_77 0 rfl ?_
                refine r_bipush d_Fz_passingBetween_79 (v := 111) (by decide) ?_
                refine r_icmp_ne (tgt := 88) d_Fz_passingBetween_81 (by decide) (fun c_81 => ?_) (fun c_81 => ?_)
                · refine r_iconst d_Fz_passingBetween_88 (v := 4) (by decide) ?_
                  refine r_iret d_Fz_passingBetween_89 rfl rfl ?_
                  refine ⟨?_, rfl⟩
                  unfold pbS
                  first | rw [if_pos (Int32.not_lt.mp c_3)] | rw [if_neg (fun h => Int32.not_lt.mpr h c_3)]
                  first | rw [if_pos (Int32.not_lt.mp c_16)] | rw [if_neg (fun h => Int32.not_lt.mpr h c_16)]
                  try first | rw [if_pos (by assumption)] | rw [if_neg (by assumption)]
                  try first | rw [if_pos (by assumption)] | rw [if_neg (by assumption)]
                · refine r_iconst d_Fz_passingBetween_84 (v := 3) (by decide) ?_
                  refine r_goto (tgt := 89) d_Fz_passingBetween_85 (by decide) ?_
                  refine r_iret d_Fz_passingBetween_89 rfl rfl ?_
                  refine ⟨?_, rfl⟩
                  unfold pbS
                  first | rw [if_pos (Int32.not_lt.mp c_3)] | rw [if_neg (fun h => Int32.not_lt.mpr h c_3)]
                  first | rw [if_pos (Int32.not_lt.mp c_16)] | rw [if_neg (fun h => Int32.not_lt.mpr h c_16)]
                  try first | rw [if_pos (by assumption)] | rw [if_neg (by assumption)]
                  try first | rw [if_pos (by assumption)] | rw [if_neg (by assumption)]
              · refine r_bipush d_Fz_passingBetween_74 (v := 14) (by decide) ?_
                refine r_iret d_Fz_passingBetween_76 rfl rfl ?_
                refine ⟨?_, rfl⟩
                unfold pbS
                first | rw [if_pos (Int32.not_lt.mp c_3)] | rw [if_neg (fun h => Int32.not_lt.mpr h c_3)]
                first | rw [if_pos (Int32.not_lt.mp c_16)] | rw [if_neg (fun h => Int32.not_lt.mpr h c_16)]
                try first | rw [if_pos (by assumption)] | rw [if_neg (by assumption)]
                try first | rw [if_pos (by assumption)] | rw [if_neg (by assumption)]
            · exact absurd c_53 (by decide)
          · exact absurd c_46 (by decide)
      · exact absurd c_28 (by decide)
  · refine r_iconst d_Fz_passingBetween_6 (v := 1) (by decide) ?_
    refine r_goto (tgt := 11) d_Fz_passingBetween_7 (by decide) ?_
    refine r_istore (lv' := [(4, .int 1), (0, .ref a), (1, .ref b), (2, .int (nI oo)), (3, .int (nI p))]) d_Fz_passingBetween_11 (by decide) rfl ?_
    refine r_aload_n d_Fz_passingBetween_13 rfl 2 rfl ?_
    refine r_iload_n d_Fz_passingBetween_14 rfl 4 rfl ?_
    refine r_iald d_Fz_passingBetween_15 (q0 := 1) rfl (vp_in_nI (by omega) (by omega)) (v := fi p) (by rw [nI_clamp (by omega)]) ?_
    refine r_if_lt (tgt := 23) d_Fz_passingBetween_16 (by decide) (fun c_16 => ?_) (fun c_16 => ?_)
    · refine r_iconst d_Fz_passingBetween_23 (v := 0) (by decide) ?_
      refine r_istore (lv' := [(5, .int 0), (4, .int 1), (0, .ref a), (1, .ref b), (2, .int (nI oo)), (3, .int (nI p))]) d_Fz_passingBetween_24 (by decide) rfl ?_
      refine r_iload d_Fz_passingBetween_26 1 rfl ?_
      refine r_if_eq (tgt := 39) d_Fz_passingBetween_28 (by decide) (fun c_28 => ?_) (fun c_28 => ?_)
      · exact absurd c_28 (by decide)
      · refine r_iload d_Fz_passingBetween_31 0 rfl ?_
        refine r_if_eq (tgt := 39) d_Fz_passingBetween_33 (by decide) (fun c_33 => ?_) (fun c_33 => ?_)
        · refine r_iload d_Fz_passingBetween_39 1 rfl ?_
          refine r_if_ne (tgt := 51) d_Fz_passingBetween_41 (by decide) (fun c_41 => ?_) (fun c_41 => ?_)
          · refine r_iload d_Fz_passingBetween_51 1 rfl ?_
            refine r_if_eq (tgt := 62) d_Fz_passingBetween_53 (by decide) (fun c_53 => ?_) (fun c_53 => ?_)
            · exact absurd c_53 (by decide)
            · refine r_aload_n d_Fz_passingBetween_56 rfl 2 rfl ?_
              refine r_iload_n d_Fz_passingBetween_57 rfl 5 rfl ?_
              refine r_cald d_Fz_passingBetween_58 (q0 := 0) rfl (vp_in_nI (by omega) (by omega)) (v := ce p) (by rw [nI_clamp (by omega)]) ?_
              refine r_goto (tgt := 65) d_Fz_passingBetween_59 (by decide) ?_
              refine r_istore (lv' := [(6, .int (ce p)), (5, .int 0), (4, .int 1), (0, .ref a), (1, .ref b), (2, .int (nI oo)), (3, .int (nI p))]) d_Fz_passingBetween_65 (by decide) rfl ?_
              refine r_iload d_Fz_passingBetween_67 0 rfl ?_
              refine r_bipush d_Fz_passingBetween_69 (v := 107) (by decide) ?_
              refine r_icmp_ne (tgt := 77) d_Fz_passingBetween_71 (by decide) (fun c_71 => ?_) (fun c_71 => ?_)
              · refine r_iload d_Fz_passingBetween_77 0 rfl ?_
                refine r_bipush d_Fz_passingBetween_79 (v := 111) (by decide) ?_
                refine r_icmp_ne (tgt := 88) d_Fz_passingBetween_81 (by decide) (fun c_81 => ?_) (fun c_81 => ?_)
                · refine r_iconst d_Fz_passingBetween_88 (v := 4) (by decide) ?_
                  refine r_iret d_Fz_passingBetween_89 rfl rfl ?_
                  refine ⟨?_, rfl⟩
                  unfold pbS
                  first | rw [if_pos (Int32.not_lt.mp c_3)] | rw [if_neg (fun h => Int32.not_lt.mpr h c_3)]
                  first | rw [if_pos (Int32.not_lt.mp c_16)] | rw [if_neg (fun h => Int32.not_lt.mpr h c_16)]
                  try first | rw [if_pos (by assumption)] | rw [if_neg (by assumption)]
                  try first | rw [if_pos (by assumption)] | rw [if_neg (by assumption)]
                · refine r_iconst d_Fz_passingBetween_84 (v := 3) (by decide) ?_
                  refine r_goto (tgt := 89) d_Fz_passingBetween_85 (by decide) ?_
                  refine r_iret d_Fz_passingBetween_89 rfl rfl ?_
                  refine ⟨?_, rfl⟩
                  unfold pbS
                  first | rw [if_pos (Int32.not_lt.mp c_3)] | rw [if_neg (fun h => Int32.not_lt.mpr h c_3)]
                  first | rw [if_pos (Int32.not_lt.mp c_16)] | rw [if_neg (fun h => Int32.not_lt.mpr h c_16)]
                  try first | rw [if_pos (by assumption)] | rw [if_neg (by assumption)]
                  try first | rw [if_pos (by assumption)] | rw [if_neg (by assumption)]
              · refine r_bipush d_Fz_passingBetween_74 (v := 14) (by decide) ?_
                refine r_iret d_Fz_passingBetween_76 rfl rfl ?_
                refine ⟨?_, rfl⟩
                unfold pbS
                first | rw [if_pos (Int32.not_lt.mp c_3)] | rw [if_neg (fun h => Int32.not_lt.mpr h c_3)]
                first | rw [if_pos (Int32.not_lt.mp c_16)] | rw [if_neg (fun h => Int32.not_lt.mpr h c_16)]
                try first | rw [if_pos (by assumption)] | rw [if_neg (by assumption)]
                try first | rw [if_pos (by assumption)] | rw [if_neg (by assumption)]
          · exact absurd c_41 (by decide)
        · exact absurd c_33 (by decide)
    · refine r_iconst d_Fz_passingBetween_19 (v := 1) (by decide) ?_
      refine r_goto (tgt := 24) d_Fz_passingBetween_20 (by decide) ?_
      refine r_istore (lv' := [(5, .int 1), (4, .int 1), (0, .ref a), (1, .ref b), (2, .int (nI oo)), (3, .int (nI p))]) d_Fz_passingBetween_24 (by decide) rfl ?_
      refine r_iload d_Fz_passingBetween_26 1 rfl ?_
      refine r_if_eq (tgt := 39) d_Fz_passingBetween_28 (by decide) (fun c_28 => ?_) (fun c_28 => ?_)
      · exact absurd c_28 (by decide)
      · refine r_iload d_Fz_passingBetween_31 0 rfl ?_
        refine r_if_eq (tgt := 39) d_Fz_passingBetween_33 (by decide) (fun c_33 => ?_) (fun c_33 => ?_)
        · exact absurd c_33 (by decide)
        · refine r_bipush d_Fz_passingBetween_36 (v := 12) (by decide) ?_
          refine r_iret d_Fz_passingBetween_38 rfl rfl ?_
          refine ⟨?_, rfl⟩
          unfold pbS
          first | rw [if_pos (Int32.not_lt.mp c_3)] | rw [if_neg (fun h => Int32.not_lt.mpr h c_3)]
          first | rw [if_pos (Int32.not_lt.mp c_16)] | rw [if_neg (fun h => Int32.not_lt.mpr h c_16)]
          try first | rw [if_pos (by assumption)] | rw [if_neg (by assumption)]
          try first | rw [if_pos (by assumption)] | rw [if_neg (by assumption)]
abbrev M_Fz_pass : zM := (⟨"Ironpour$Freezing", "pass", "(I)V"⟩, prog_4_method_5_code, 4, (Option.none : Option FieldType), 2, 44, [])
theorem d_Fz_pass_120 : decode prog_4_method_5_code 120 = .ok (.iload_n 2, 1) := zo_28 (zd_b zq_prog_4_method_5_code_3 24 rfl rfl rfl)
theorem d_Fz_pass_121 : decode prog_4_method_5_code 121 = .ok (.bipush 108, 2) := zo_16 (d := 108) (zd_b zq_prog_4_method_5_code_3 25 rfl rfl rfl) (zd_b zq_prog_4_method_5_code_3 26 rfl rfl rfl) (by decide +kernel)
theorem d_Fz_pass_123 : decode prog_4_method_5_code 123 = .ok (.if_icmp .ge 28, 3) := zo_162 (d := 0) (e := 28) (zd_b zq_prog_4_method_5_code_3 27 rfl rfl rfl) (zd_b zq_prog_4_method_5_code_3 28 rfl rfl rfl) (zd_b zq_prog_4_method_5_code_3 29 rfl rfl rfl) (by decide +kernel)
theorem d_Fz_pass_151 : decode prog_4_method_5_code 151 = .ok (.return_, 1) := zo_177 (zd_b zq_prog_4_method_5_code_4 23 rfl rfl rfl)
theorem d_Fz_pass_126 : decode prog_4_method_5_code 126 = .ok (.aload_n 0, 1) := zo_42 (zd_b zq_prog_4_method_5_code_3 30 rfl rfl rfl)
theorem d_Fz_pass_127 : decode prog_4_method_5_code 127 = .ok (.iload_n 2, 1) := zo_28 (zd_b zq_prog_4_method_5_code_3 31 rfl rfl rfl)
theorem d_Fz_pass_128 : decode prog_4_method_5_code 128 = .ok (.aload_n 0, 1) := zo_42 (zd_b zq_prog_4_method_5_code_4 0 rfl rfl rfl)
theorem d_Fz_pass_129 : decode prog_4_method_5_code 129 = .ok (.getfield 9, 3) := zo_180 (d := 0) (e := 9) (zd_b zq_prog_4_method_5_code_4 1 rfl rfl rfl) (zd_b zq_prog_4_method_5_code_4 2 rfl rfl rfl) (zd_b zq_prog_4_method_5_code_4 3 rfl rfl rfl)
theorem d_Fz_pass_132 : decode prog_4_method_5_code 132 = .ok (.iload_n 2, 1) := zo_28 (zd_b zq_prog_4_method_5_code_4 4 rfl rfl rfl)
theorem d_Fz_pass_133 : decode prog_4_method_5_code 133 = .ok (.iaload, 1) := zo_46 (zd_b zq_prog_4_method_5_code_4 5 rfl rfl rfl)
theorem d_Fz_pass_134 : decode prog_4_method_5_code 134 = .ok (.aload_n 0, 1) := zo_42 (zd_b zq_prog_4_method_5_code_4 6 rfl rfl rfl)
theorem d_Fz_pass_135 : decode prog_4_method_5_code 135 = .ok (.getfield 15, 3) := zo_180 (d := 0) (e := 15) (zd_b zq_prog_4_method_5_code_4 7 rfl rfl rfl) (zd_b zq_prog_4_method_5_code_4 8 rfl rfl rfl) (zd_b zq_prog_4_method_5_code_4 9 rfl rfl rfl)
theorem d_Fz_pass_138 : decode prog_4_method_5_code 138 = .ok (.iload_n 2, 1) := zo_28 (zd_b zq_prog_4_method_5_code_4 10 rfl rfl rfl)
theorem d_Fz_pass_139 : decode prog_4_method_5_code 139 = .ok (.iaload, 1) := zo_46 (zd_b zq_prog_4_method_5_code_4 11 rfl rfl rfl)
theorem d_Fz_pass_140 : decode prog_4_method_5_code 140 = .ok (.iadd, 1) := zo_96 (zd_b zq_prog_4_method_5_code_4 12 rfl rfl rfl)
theorem d_Fz_pass_141 : decode prog_4_method_5_code 141 = .ok (.iload_n 1, 1) := zo_27 (zd_b zq_prog_4_method_5_code_4 13 rfl rfl rfl)
theorem d_Fz_pass_142 : decode prog_4_method_5_code 142 = .ok (.invokevirtual 38, 3) := zo_182 (d := 0) (e := 38) (zd_b zq_prog_4_method_5_code_4 14 rfl rfl rfl) (zd_b zq_prog_4_method_5_code_4 15 rfl rfl rfl) (zd_b zq_prog_4_method_5_code_4 16 rfl rfl rfl)
theorem ok_Fz_pass_Fz_becomeHeat : z_ok M_Fz_pass M_Fz_becomeHeat 3 := ⟨z_mj3 (i := 0) rfl (by decide +kernel), rfl, ⟨by decide +kernel, by decide +kernel, by decide +kernel⟩, ⟨by decide, by decide⟩, z_mj1 (i := 4) rfl (by decide +kernel), rfl⟩
theorem ln_Fz_38 : Cond.methodLink "Ironpour$Freezing" 38 M_Fz_becomeHeat.1 ∈ z_gw := z_mj2 (i := 237) rfl (by decide +kernel)
theorem w_im_Fz_becomeHeat : Cond.instanceMethod M_Fz_becomeHeat.1 ∈ z_gw := z_mj2 (i := 239) rfl (by decide +kernel)
theorem w_se_Fz_becomeHeat : Cond.selects M_Fz_becomeHeat.1.cls M_Fz_becomeHeat.1 M_Fz_becomeHeat.1 ∈ z_gw := z_mem (i := 9) (by decide +kernel) (by decide +kernel)
theorem d_Fz_pass_145 : decode prog_4_method_5_code 145 = .ok (.iinc 2 1, 3) := by decide +kernel
theorem d_Fz_pass_148 : decode prog_4_method_5_code 148 = .ok (.goto (-28), 3) := zo_167 (d := 255) (e := 228) (zd_b zq_prog_4_method_5_code_4 20 rfl rfl rfl) (zd_b zq_prog_4_method_5_code_4 21 rfl rfl rfl) (zd_b zq_prog_4_method_5_code_4 22 rfl rfl rfl) (by decide +kernel)
theorem d_Fz_pass_10 : decode prog_4_method_5_code 10 = .ok (.iload_n 2, 1) := zo_28 (zd_b zq_prog_4_method_5_code_0 10 rfl rfl rfl)
theorem d_Fz_pass_11 : decode prog_4_method_5_code 11 = .ok (.bipush 108, 2) := zo_16 (d := 108) (zd_b zq_prog_4_method_5_code_0 11 rfl rfl rfl) (zd_b zq_prog_4_method_5_code_0 12 rfl rfl rfl) (by decide +kernel)
theorem d_Fz_pass_13 : decode prog_4_method_5_code 13 = .ok (.if_icmp .ge 105, 3) := zo_162 (d := 0) (e := 105) (zd_b zq_prog_4_method_5_code_0 13 rfl rfl rfl) (zd_b zq_prog_4_method_5_code_0 14 rfl rfl rfl) (zd_b zq_prog_4_method_5_code_0 15 rfl rfl rfl) (by decide +kernel)
theorem d_Fz_pass_118 : decode prog_4_method_5_code 118 = .ok (.iconst 0, 1) := zo_3 (zd_b zq_prog_4_method_5_code_3 22 rfl rfl rfl)
theorem d_Fz_pass_119 : decode prog_4_method_5_code 119 = .ok (.istore_n 2, 1) := zo_61 (zd_b zq_prog_4_method_5_code_3 23 rfl rfl rfl)
theorem d_Fz_pass_16 : decode prog_4_method_5_code 16 = .ok (.iload_n 2, 1) := zo_28 (zd_b zq_prog_4_method_5_code_0 16 rfl rfl rfl)
theorem d_Fz_pass_17 : decode prog_4_method_5_code 17 = .ok (.bipush 12, 2) := zo_16 (d := 12) (zd_b zq_prog_4_method_5_code_0 17 rfl rfl rfl) (zd_b zq_prog_4_method_5_code_0 18 rfl rfl rfl) (by decide +kernel)
theorem d_Fz_pass_19 : decode prog_4_method_5_code 19 = .ok (.irem, 1) := zo_112 (zd_b zq_prog_4_method_5_code_0 19 rfl rfl rfl)
theorem d_Fz_pass_20 : decode prog_4_method_5_code 20 = .ok (.istore_n 3, 1) := zo_62 (zd_b zq_prog_4_method_5_code_0 20 rfl rfl rfl)
theorem d_Fz_pass_21 : decode prog_4_method_5_code 21 = .ok (.iload_n 3, 1) := zo_29 (zd_b zq_prog_4_method_5_code_0 21 rfl rfl rfl)
