abbrev M_Mo_faultBits : zM := (⟨"Ironpour$Mould", "faultBits", "()I"⟩, prog_9_method_2_code, 2, (Option.some FieldType.int), 1, 20, [])
theorem d_Mo_faultBits_0 : decode prog_9_method_2_code 0 = .ok (.aload_n 0, 1) := zo_42 (zd_b zq_prog_9_method_2_code_0 0 rfl rfl rfl)
theorem d_Mo_faultBits_1 : decode prog_9_method_2_code 1 = .ok (.getfield 43, 3) := zo_180 (d := 0) (e := 43) (zd_b zq_prog_9_method_2_code_0 1 rfl rfl rfl) (zd_b zq_prog_9_method_2_code_0 2 rfl rfl rfl) (zd_b zq_prog_9_method_2_code_0 3 rfl rfl rfl)
theorem fs_Mo_43 : z_fs "Ironpour$Mould" 43 7 3 := ⟨R_Mo, "Ironpour$Mould", F_Mo, 8, rfl, u_Mo, by decide, Or.inl ⟨z_mj6 (i := 8) rfl (by decide +kernel), Or.inl rfl⟩⟩
theorem d_Mo_faultBits_4 : decode prog_9_method_2_code 4 = .ok (.ifCond .eq 8, 3) := zo_153 (d := 0) (e := 8) (zd_b zq_prog_9_method_2_code_0 4 rfl rfl rfl) (zd_b zq_prog_9_method_2_code_0 5 rfl rfl rfl) (zd_b zq_prog_9_method_2_code_0 6 rfl rfl rfl) (by decide +kernel)
theorem d_Mo_faultBits_12 : decode prog_9_method_2_code 12 = .ok (.iconst 0, 1) := zo_3 (zd_b zq_prog_9_method_2_code_0 12 rfl rfl rfl)
theorem d_Mo_faultBits_13 : decode prog_9_method_2_code 13 = .ok (.istore_n 1, 1) := zo_60 (zd_b zq_prog_9_method_2_code_0 13 rfl rfl rfl)
theorem d_Mo_faultBits_14 : decode prog_9_method_2_code 14 = .ok (.aload_n 0, 1) := zo_42 (zd_b zq_prog_9_method_2_code_0 14 rfl rfl rfl)
theorem d_Mo_faultBits_15 : decode prog_9_method_2_code 15 = .ok (.getfield 34, 3) := zo_180 (d := 0) (e := 34) (zd_b zq_prog_9_method_2_code_0 15 rfl rfl rfl) (zd_b zq_prog_9_method_2_code_0 16 rfl rfl rfl) (zd_b zq_prog_9_method_2_code_0 17 rfl rfl rfl)
theorem fs_Mo_34 : z_fs "Ironpour$Mould" 34 7 2 := ⟨R_Mo, "Ironpour$Mould", F_Mo, 8, rfl, u_Mo, by decide, Or.inl ⟨z_mj6 (i := 7) rfl (by decide +kernel), Or.inl rfl⟩⟩
theorem d_Mo_faultBits_18 : decode prog_9_method_2_code 18 = .ok (.aload_n 0, 1) := zo_42 (zd_b zq_prog_9_method_2_code_0 18 rfl rfl rfl)
theorem d_Mo_faultBits_19 : decode prog_9_method_2_code 19 = .ok (.getfield 52, 3) := zo_180 (d := 0) (e := 52) (zd_b zq_prog_9_method_2_code_0 19 rfl rfl rfl) (zd_b zq_prog_9_method_2_code_0 20 rfl rfl rfl) (zd_b zq_prog_9_method_2_code_0 21 rfl rfl rfl)
theorem fs_Mo_52 : z_fs "Ironpour$Mould" 52 7 4 := ⟨R_Mo, "Ironpour$Mould", F_Mo, 8, rfl, u_Mo, by decide, Or.inl ⟨z_mj6 (i := 9) rfl (by decide +kernel), Or.inl rfl⟩⟩
theorem d_Mo_faultBits_22 : decode prog_9_method_2_code 22 = .ok (.if_icmp .le 7, 3) := zo_164 (d := 0) (e := 7) (zd_b zq_prog_9_method_2_code_0 22 rfl rfl rfl) (zd_b zq_prog_9_method_2_code_0 23 rfl rfl rfl) (zd_b zq_prog_9_method_2_code_0 24 rfl rfl rfl) (by decide +kernel)
theorem d_Mo_faultBits_29 : decode prog_9_method_2_code 29 = .ok (.aload_n 0, 1) := zo_42 (zd_b zq_prog_9_method_2_code_0 29 rfl rfl rfl)
theorem d_Mo_faultBits_30 : decode prog_9_method_2_code 30 = .ok (.getfield 57, 3) := zo_180 (d := 0) (e := 57) (zd_b zq_prog_9_method_2_code_0 30 rfl rfl rfl) (zd_b zq_prog_9_method_2_code_0 31 rfl rfl rfl) (zd_b zq_prog_9_method_2_code_1 0 rfl rfl rfl)
theorem fs_Mo_57 : z_fs "Ironpour$Mould" 57 7 5 := ⟨R_Mo, "Ironpour$Mould", F_Mo, 8, rfl, u_Mo, by decide, Or.inl ⟨z_mj6 (i := 10) rfl (by decide +kernel), Or.inl rfl⟩⟩
theorem d_Mo_faultBits_33 : decode prog_9_method_2_code 33 = .ok (.bipush 80, 2) := zo_16 (d := 80) (zd_b zq_prog_9_method_2_code_1 1 rfl rfl rfl) (zd_b zq_prog_9_method_2_code_1 2 rfl rfl rfl) (by decide +kernel)
theorem d_Mo_faultBits_35 : decode prog_9_method_2_code 35 = .ok (.if_icmp .ge 12, 3) := zo_162 (d := 0) (e := 12) (zd_b zq_prog_9_method_2_code_1 3 rfl rfl rfl) (zd_b zq_prog_9_method_2_code_1 4 rfl rfl rfl) (zd_b zq_prog_9_method_2_code_1 5 rfl rfl rfl) (by decide +kernel)
theorem d_Mo_faultBits_47 : decode prog_9_method_2_code 47 = .ok (.aload_n 0, 1) := zo_42 (zd_b zq_prog_9_method_2_code_1 15 rfl rfl rfl)
theorem d_Mo_faultBits_48 : decode prog_9_method_2_code 48 = .ok (.getfield 63, 3) := zo_180 (d := 0) (e := 63) (zd_b zq_prog_9_method_2_code_1 16 rfl rfl rfl) (zd_b zq_prog_9_method_2_code_1 17 rfl rfl rfl) (zd_b zq_prog_9_method_2_code_1 18 rfl rfl rfl)
theorem fs_Mo_63 : z_fs "Ironpour$Mould" 63 7 7 := ⟨R_Mo, "Ironpour$Mould", F_Mo, 8, rfl, u_Mo, by decide, Or.inl ⟨z_mj6 (i := 12) rfl (by decide +kernel), Or.inl rfl⟩⟩
theorem d_Mo_faultBits_51 : decode prog_9_method_2_code 51 = .ok (.bipush 60, 2) := zo_16 (d := 60) (zd_b zq_prog_9_method_2_code_1 19 rfl rfl rfl) (zd_b zq_prog_9_method_2_code_1 20 rfl rfl rfl) (by decide +kernel)
theorem d_Mo_faultBits_53 : decode prog_9_method_2_code 53 = .ok (.if_icmp .le 8, 3) := zo_164 (d := 0) (e := 8) (zd_b zq_prog_9_method_2_code_1 21 rfl rfl rfl) (zd_b zq_prog_9_method_2_code_1 22 rfl rfl rfl) (zd_b zq_prog_9_method_2_code_1 23 rfl rfl rfl) (by decide +kernel)
theorem d_Mo_faultBits_61 : decode prog_9_method_2_code 61 = .ok (.iload_n 1, 1) := zo_27 (zd_b zq_prog_9_method_2_code_1 29 rfl rfl rfl)
theorem d_Mo_faultBits_62 : decode prog_9_method_2_code 62 = .ok (.ireturn, 1) := zo_172 (zd_b zq_prog_9_method_2_code_1 30 rfl rfl rfl)
theorem d_Mo_faultBits_56 : decode prog_9_method_2_code 56 = .ok (.iload_n 1, 1) := zo_27 (zd_b zq_prog_9_method_2_code_1 24 rfl rfl rfl)
theorem d_Mo_faultBits_57 : decode prog_9_method_2_code 57 = .ok (.bipush 8, 2) := zo_16 (d := 8) (zd_b zq_prog_9_method_2_code_1 25 rfl rfl rfl) (zd_b zq_prog_9_method_2_code_1 26 rfl rfl rfl) (by decide +kernel)
theorem d_Mo_faultBits_59 : decode prog_9_method_2_code 59 = .ok (.ior, 1) := zo_128 (zd_b zq_prog_9_method_2_code_1 27 rfl rfl rfl)
theorem d_Mo_faultBits_60 : decode prog_9_method_2_code 60 = .ok (.istore_n 1, 1) := zo_60 (zd_b zq_prog_9_method_2_code_1 28 rfl rfl rfl)
theorem d_Mo_faultBits_38 : decode prog_9_method_2_code 38 = .ok (.aload_n 0, 1) := zo_42 (zd_b zq_prog_9_method_2_code_1 6 rfl rfl rfl)
theorem d_Mo_faultBits_39 : decode prog_9_method_2_code 39 = .ok (.getfield 62, 3) := zo_180 (d := 0) (e := 62) (zd_b zq_prog_9_method_2_code_1 7 rfl rfl rfl) (zd_b zq_prog_9_method_2_code_1 8 rfl rfl rfl) (zd_b zq_prog_9_method_2_code_1 9 rfl rfl rfl)
theorem fs_Mo_62 : z_fs "Ironpour$Mould" 62 7 6 := ⟨R_Mo, "Ironpour$Mould", F_Mo, 8, rfl, u_Mo, by decide, Or.inl ⟨z_mj6 (i := 11) rfl (by decide +kernel), Or.inl rfl⟩⟩
theorem d_Mo_faultBits_42 : decode prog_9_method_2_code 42 = .ok (.bipush 40, 2) := zo_16 (d := 40) (zd_b zq_prog_9_method_2_code_1 10 rfl rfl rfl) (zd_b zq_prog_9_method_2_code_1 11 rfl rfl rfl) (by decide +kernel)
theorem d_Mo_faultBits_44 : decode prog_9_method_2_code 44 = .ok (.if_icmp .gt 12, 3) := zo_163 (d := 0) (e := 12) (zd_b zq_prog_9_method_2_code_1 12 rfl rfl rfl) (zd_b zq_prog_9_method_2_code_1 13 rfl rfl rfl) (zd_b zq_prog_9_method_2_code_1 14 rfl rfl rfl) (by decide +kernel)
theorem d_Mo_faultBits_25 : decode prog_9_method_2_code 25 = .ok (.iload_n 1, 1) := zo_27 (zd_b zq_prog_9_method_2_code_0 25 rfl rfl rfl)
theorem d_Mo_faultBits_26 : decode prog_9_method_2_code 26 = .ok (.iconst 4, 1) := zo_7 (zd_b zq_prog_9_method_2_code_0 26 rfl rfl rfl)
theorem d_Mo_faultBits_27 : decode prog_9_method_2_code 27 = .ok (.ior, 1) := zo_128 (zd_b zq_prog_9_method_2_code_0 27 rfl rfl rfl)
theorem d_Mo_faultBits_28 : decode prog_9_method_2_code 28 = .ok (.istore_n 1, 1) := zo_60 (zd_b zq_prog_9_method_2_code_0 28 rfl rfl rfl)
theorem d_Mo_faultBits_7 : decode prog_9_method_2_code 7 = .ok (.bipush 16, 2) := zo_16 (d := 16) (zd_b zq_prog_9_method_2_code_0 7 rfl rfl rfl) (zd_b zq_prog_9_method_2_code_0 8 rfl rfl rfl) (by decide +kernel)
theorem d_Mo_faultBits_9 : decode prog_9_method_2_code 9 = .ok (.goto 4, 3) := zo_167 (d := 0) (e := 4) (zd_b zq_prog_9_method_2_code_0 9 rfl rfl rfl) (zd_b zq_prog_9_method_2_code_0 10 rfl rfl rfl) (zd_b zq_prog_9_method_2_code_0 11 rfl rfl rfl) (by decide +kernel)
set_option maxHeartbeats 4000000 in
set_option maxRecDepth 100000 in
theorem C_Mo_faultBits (g : zG) (a a1 : Nat) (f : Nat → Int32) (mc sp bad sr dr wa wt : Int32) : CT g M_Mo_faultBits [.ref a] [(a, .inr (7, [.ref a1, .int mc, .int sp, .int bad, .int sr, .int dr, .int wa, .int wt])), (a1, .inl (1, 108, .inl f))] (fun o cs1 => o = .inl (some (.int (moF bad sp sr dr wa wt))) ∧ cs1 = [(a, .inr (7, [.ref a1, .int mc, .int sp, .int bad, .int sr, .int dr, .int wa, .int wt])), (a1, .inl (1, 108, .inl f))]) 0 0 := by
  refine z_of (by decide) rfl (Nat.le_of_ble_eq_true rfl) (fun w0 => ?_)
  refine r_lvE (lv2 := [(0, .ref a)]) rfl ?_
  refine r_aload_n d_Mo_faultBits_0 rfl 0 rfl ?_
  refine r_get fs_Mo_43 d_Mo_faultBits_1 (q0 := 0) rfl rfl ?_
  refine r_if_eq (tgt := 12) d_Mo_faultBits_4 (by decide) (fun c_4 => ?_) (fun c_4 => ?_)
  · refine r_iconst d_Mo_faultBits_12 (v := 0) (by decide) ?_
    refine r_istore_n (lv' := [(1, .int 0), (0, .ref a)]) d_Mo_faultBits_13 rfl (by decide) rfl ?_
    refine r_aload_n d_Mo_faultBits_14 rfl 1 rfl ?_
    refine r_get fs_Mo_34 d_Mo_faultBits_15 (q0 := 0) rfl rfl ?_
    refine r_aload_n d_Mo_faultBits_18 rfl 1 rfl ?_
    refine r_get fs_Mo_52 d_Mo_faultBits_19 (q0 := 0) rfl rfl ?_
    refine r_icmp_le (tgt := 29) d_Mo_faultBits_22 (by decide) (fun c_22 => ?_) (fun c_22 => ?_)
    · refine r_aload_n d_Mo_faultBits_29 rfl 1 rfl ?_
      refine r_get fs_Mo_57 d_Mo_faultBits_30 (q0 := 0) rfl rfl ?_
      refine r_bipush d_Mo_faultBits_33 (v := 80) (by decide) ?_
      refine r_icmp_ge (tgt := 47) d_Mo_faultBits_35 (by decide) (fun c_35 => ?_) (fun c_35 => ?_)
      · refine r_aload_n d_Mo_faultBits_47 rfl 1 rfl ?_
        refine r_get fs_Mo_63 d_Mo_faultBits_48 (q0 := 0) rfl rfl ?_
        refine r_bipush d_Mo_faultBits_51 (v := 60) (by decide) ?_
        refine r_icmp_le (tgt := 61) d_Mo_faultBits_53 (by decide) (fun c_53 => ?_) (fun c_53 => ?_)
        · refine r_iload_n d_Mo_faultBits_61 rfl 0 rfl ?_
          refine r_iret d_Mo_faultBits_62 rfl rfl ?_
          refine ⟨?_, rfl⟩
          unfold moF mo1
          repeat (first | rw [if_pos (by assumption)] | rw [if_neg (by assumption)])
        · refine r_iload_n d_Mo_faultBits_56 rfl 0 rfl ?_
          refine r_bipush d_Mo_faultBits_57 (v := 8) (by decide) ?_
          refine r_ior d_Mo_faultBits_59 (v := 0 ||| 8) rfl ?_
          refine r_istore_n (lv' := [(1, .int (0 ||| 8)), (0, .ref a)]) d_Mo_faultBits_60 rfl (by decide) rfl ?_
          refine r_iload_n d_Mo_faultBits_61 rfl 0 rfl ?_
          refine r_iret d_Mo_faultBits_62 rfl rfl ?_
          refine ⟨?_, rfl⟩
          unfold moF mo1
          repeat (first | rw [if_pos (by assumption)] | rw [if_neg (by assumption)])
      · refine r_aload_n d_Mo_faultBits_38 rfl 1 rfl ?_
        refine r_get fs_Mo_62 d_Mo_faultBits_39 (q0 := 0) rfl rfl ?_
        refine r_bipush d_Mo_faultBits_42 (v := 40) (by decide) ?_
        refine r_icmp_gt (tgt := 56) d_Mo_faultBits_44 (by decide) (fun c_44 => ?_) (fun c_44 => ?_)
        · refine r_iload_n d_Mo_faultBits_56 rfl 0 rfl ?_
          refine r_bipush d_Mo_faultBits_57 (v := 8) (by decide) ?_
          refine r_ior d_Mo_faultBits_59 (v := 0 ||| 8) rfl ?_
          refine r_istore_n (lv' := [(1, .int (0 ||| 8)), (0, .ref a)]) d_Mo_faultBits_60 rfl (by decide) rfl ?_
          refine r_iload_n d_Mo_faultBits_61 rfl 0 rfl ?_
          refine r_iret d_Mo_faultBits_62 rfl rfl ?_
          refine ⟨?_, rfl⟩
          unfold moF mo1
          repeat (first | rw [if_pos (by assumption)] | rw [if_neg (by assumption)])
        · refine r_aload_n d_Mo_faultBits_47 rfl 1 rfl ?_
          refine r_get fs_Mo_63 d_Mo_faultBits_48 (q0 := 0) rfl rfl ?_
          refine r_bipush d_Mo_faultBits_51 (v := 60) (by decide) ?_
          refine r_icmp_le (tgt := 61) d_Mo_faultBits_53 (by decide) (fun c_53 => ?_) (fun c_53 => ?_)
          · refine r_iload_n d_Mo_faultBits_61 rfl 0 rfl ?_
            refine r_iret d_Mo_faultBits_62 rfl rfl ?_
            refine ⟨?_, rfl⟩
            unfold moF mo1
            repeat (first | rw [if_pos (by assumption)] | rw [if_neg (by assumption)])
          · refine r_iload_n d_Mo_faultBits_56 rfl 0 rfl ?_
            refine r_bipush d_Mo_faultBits_57 (v := 8) (by decide) ?_
            refine r_ior d_Mo_faultBits_59 (v := 0 ||| 8) rfl ?_
            refine r_istore_n (lv' := [(1, .int (0 ||| 8)), (0, .ref a)]) d_Mo_faultBits_60 rfl (by decide) rfl ?_
            refine r_iload_n d_Mo_faultBits_61 rfl 0 rfl ?_
            refine r_iret d_Mo_faultBits_62 rfl rfl ?_
            refine ⟨?_, rfl⟩
            unfold moF mo1
            repeat (first | rw [if_pos (by assumption)] | rw [if_neg (by assumption)])
    · refine r_iload_n d_Mo_faultBits_25 rfl 0 rfl ?_
      refine r_iconst d_Mo_faultBits_26 (v := 4) (by decide) ?_
      refine r_ior d_Mo_faultBits_27 (v := 0 ||| 4) rfl ?_
      refine r_istore_n (lv' := [(1, .int (0 ||| 4)), (0, .ref a)]) d_Mo_faultBits_28 rfl (by decide) rfl ?_
      refine r_aload_n d_Mo_faultBits_29 rfl 1 rfl ?_
      refine r_get fs_Mo_57 d_Mo_faultBits_30 (q0 := 0) rfl rfl ?_
      refine r_bipush d_Mo_faultBits_33 (v := 80) (by decide) ?_
      refine r_icmp_ge (tgt := 47) d_Mo_faultBits_35 (by decide) (fun c_35 => ?_) (fun c_35 => ?_)
      · refine r_aload_n d_Mo_faultBits_47 rfl 1 rfl ?_
        refine r_get fs_Mo_63 d_Mo_faultBits_48 (q0 := 0) rfl rfl ?_
        refine r_bipush d_Mo_faultBits_51 (v := 60) (by decide) ?_
        refine r_icmp_le (tgt := 61) d_Mo_faultBits_53 (by decide) (fun c_53 => ?_) (fun c_53 => ?_)
        · refine r_iload_n d_Mo_faultBits_61 rfl 0 rfl ?_
          refine r_iret d_Mo_faultBits_62 rfl rfl ?_
          refine ⟨?_, rfl⟩
          unfold moF mo1
          repeat (first | rw [if_pos (by assumption)] | rw [if_neg (by assumption)])
        · refine r_iload_n d_Mo_faultBits_56 rfl 0 rfl ?_
          refine r_bipush d_Mo_faultBits_57 (v := 8) (by decide) ?_
          refine r_ior d_Mo_faultBits_59 (v := (0 ||| 4) ||| 8) rfl ?_
          refine r_istore_n (lv' := [(1, .int ((0 ||| 4) ||| 8)), (0, .ref a)]) d_Mo_faultBits_60 rfl (by decide) rfl ?_
          refine r_iload_n d_Mo_faultBits_61 rfl 0 rfl ?_
          refine r_iret d_Mo_faultBits_62 rfl rfl ?_
          refine ⟨?_, rfl⟩
          unfold moF mo1
          repeat (first | rw [if_pos (by assumption)] | rw [if_neg (by assumption)])
      · refine r_aload_n d_Mo_faultBits_38 rfl 1 rfl ?_
        refine r_get fs_Mo_62 d_Mo_faultBits_39 (q0 := 0) rfl rfl ?_
        refine r_bipush d_Mo_faultBits_42 (v := 40) (by decide) ?_
        refine r_icmp_gt (tgt := 56) d_Mo_faultBits_44 (by decide) (fun c_44 => ?_) (fun c_44 => ?_)
        · refine r_iload_n d_Mo_faultBits_56 rfl 0 rfl ?_
          refine r_bipush d_Mo_faultBits_57 (v := 8) (by decide) ?_
          refine r_ior d_Mo_faultBits_59 (v := (0 ||| 4) ||| 8) rfl ?_
          refine r_istore_n (lv' := [(1, .int ((0 ||| 4) ||| 8)), (0, .ref a)]) d_Mo_faultBits_60 rfl (by decide) rfl ?_
          refine r_iload_n d_Mo_faultBits_61 rfl 0 rfl ?_
          refine r_iret d_Mo_faultBits_62 rfl rfl ?_
          refine ⟨?_, rfl⟩
          unfold moF mo1
          repeat (first | rw [if_pos (by assumption)] | rw [if_neg (by assumption)])
        · refine r_aload_n d_Mo_faultBits_47 rfl 1 rfl ?_
          refine r_get fs_Mo_63 d_Mo_faultBits_48 (q0 := 0) rfl rfl ?_
          refine r_bipush d_Mo_faultBits_51 (v := 60) (by decide) ?_
          refine r_icmp_le (tgt := 61) d_Mo_faultBits_53 (by decide) (fun c_53 => ?_) (fun c_53 => ?_)
          · refine r_iload_n d_Mo_faultBits_61 rfl 0 rfl ?_
            refine r_iret d_Mo_faultBits_62 rfl rfl ?_
            refine ⟨?_, rfl⟩
            unfold moF mo1
            repeat (first | rw [if_pos (by assumption)] | rw [if_neg (by assumption)])
          · refine r_iload_n d_Mo_faultBits_56 rfl 0 rfl ?_
            refine r_bipush d_Mo_faultBits_57 (v := 8) (by decide) ?_
            refine r_ior d_Mo_faultBits_59 (v := (0 ||| 4) ||| 8) rfl ?_
            refine r_istore_n (lv' := [(1, .int ((0 ||| 4) ||| 8)), (0, .ref a)]) d_Mo_faultBits_60 rfl (by decide) rfl ?_
            refine r_iload_n d_Mo_faultBits_61 rfl 0 rfl ?_
            refine r_iret d_Mo_faultBits_62 rfl rfl ?_
            refine ⟨?_, rfl⟩
            unfold moF mo1
            repeat (first | rw [if_pos (by assumption)] | rw [if_neg (by assumption)])
  · refine r_bipush d_Mo_faultBits_7 (v := 16) (by decide) ?_
    refine r_goto (tgt := 13) d_Mo_faultBits_9 (by decide) ?_
    refine r_istore_n (lv' := [(1, .int 16), (0, .ref a)]) d_Mo_faultBits_13 rfl (by decide) rfl ?_
    refine r_aload_n d_Mo_faultBits_14 rfl 1 rfl ?_
    refine r_get fs_Mo_34 d_Mo_faultBits_15 (q0 := 0) rfl rfl ?_
    refine r_aload_n d_Mo_faultBits_18 rfl 1 rfl ?_
    refine r_get fs_Mo_52 d_Mo_faultBits_19 (q0 := 0) rfl rfl ?_
    refine r_icmp_le (tgt := 29) d_Mo_faultBits_22 (by decide) (fun c_22 => ?_) (fun c_22 => ?_)
    · refine r_aload_n d_Mo_faultBits_29 rfl 1 rfl ?_
      refine r_get fs_Mo_57 d_Mo_faultBits_30 (q0 := 0) rfl rfl ?_
      refine r_bipush d_Mo_faultBits_33 (v := 80) (by decide) ?_
      refine r_icmp_ge (tgt := 47) d_Mo_faultBits_35 (by decide) (fun c_35 => ?_) (fun c_35 => ?_)
      · refine r_aload_n d_Mo_faultBits_47 rfl 1 rfl ?_
        refine r_get fs_Mo_63 d_Mo_faultBits_48 (q0 := 0) rfl rfl ?_
        refine r_bipush d_Mo_faultBits_51 (v := 60) (by decide) ?_
        refine r_icmp_le (tgt := 61) d_Mo_faultBits_53 (by decide) (fun c_53 => ?_) (fun c_53 => ?_)
        · refine r_iload_n d_Mo_faultBits_61 rfl 0 rfl ?_
          refine r_iret d_Mo_faultBits_62 rfl rfl ?_
          refine ⟨?_, rfl⟩
          unfold moF mo1
          repeat (first | rw [if_pos (by assumption)] | rw [if_neg (by assumption)])
        · refine r_iload_n d_Mo_faultBits_56 rfl 0 rfl ?_
          refine r_bipush d_Mo_faultBits_57 (v := 8) (by decide) ?_
          refine r_ior d_Mo_faultBits_59 (v := 16 ||| 8) rfl ?_
          refine r_istore_n (lv' := [(1, .int (16 ||| 8)), (0, .ref a)]) d_Mo_faultBits_60 rfl (by decide) rfl ?_
          refine r_iload_n d_Mo_faultBits_61 rfl 0 rfl ?_
          refine r_iret d_Mo_faultBits_62 rfl rfl ?_
          refine ⟨?_, rfl⟩
          unfold moF mo1
          repeat (first | rw [if_pos (by assumption)] | rw [if_neg (by assumption)])
      · refine r_aload_n d_Mo_faultBits_38 rfl 1 rfl ?_
        refine r_get fs_Mo_62 d_Mo_faultBits_39 (q0 := 0) rfl rfl ?_
        refine r_bipush d_Mo_faultBits_42 (v := 40) (by decide) ?_
        refine r_icmp_gt (tgt := 56) d_Mo_faultBits_44 (by decide) (fun c_44 => ?_) (fun c_44 => ?_)
        · refine r_iload_n d_Mo_faultBits_56 rfl 0 rfl ?_
          refine r_bipush d_Mo_faultBits_57 (v := 8) (by decide) ?_
          refine r_ior d_Mo_faultBits_59 (v := 16 ||| 8) rfl ?_
          refine r_istore_n (lv' := [(1, .int (16 ||| 8)), (0, .ref a)]) d_Mo_faultBits_60 rfl (by decide) rfl ?_
          refine r_iload_n d_Mo_faultBits_61 rfl 0 rfl ?_
          refine r_iret d_Mo_faultBits_62 rfl rfl ?_
          refine ⟨?_, rfl⟩
          unfold moF mo1
          repeat (first | rw [if_pos (by assumption)] | rw [if_neg (by assumption)])
        · refine r_aload_n d_Mo_faultBits_47 rfl 1 rfl ?_
          refine r_get fs_Mo_63 d_Mo_faultBits_48 (q0 := 0) rfl rfl ?_
          refine r_bipush d_Mo_faultBits_51 (v := 60) (by decide) ?_
          refine r_icmp_le (tgt := 61) d_Mo_faultBits_53 (by decide) (fun c_53 => ?_) (fun c_53 => ?_)
          · refine r_iload_n d_Mo_faultBits_61 rfl 0 rfl ?_
            refine r_iret d_Mo_faultBits_62 rfl rfl ?_
            refine ⟨?_, rfl⟩
            unfold moF mo1
            repeat (first | rw [if_pos (by assumption)] | rw [if_neg (by assumption)])
          · refine r_iload_n d_Mo_faultBits_56 rfl 0 rfl ?_
            refine r_bipush d_Mo_faultBits_57 (v := 8) (by decide) ?_
            refine r_ior d_Mo_faultBits_59 (v := 16 ||| 8) rfl ?_
            refine r_istore_n (lv' := [(1, .int (16 ||| 8)), (0, .ref a)]) d_Mo_faultBits_60 rfl (by decide) rfl ?_
            refine r_iload_n d_Mo_faultBits_61 rfl 0 rfl ?_
            refine r_iret d_Mo_faultBits_62 rfl rfl ?_
            refine ⟨?_, rfl⟩
            unfold moF mo1
            repeat (first | rw [if_pos (by assumption)] | rw [if_neg (by assumption)])
    · refine r_iload_n d_Mo_faultBits_25 rfl 0 rfl ?_
      refine r_iconst d_Mo_faultBits_26 (v := 4) (by decide) ?_
      refine r_ior d_Mo_faultBits_27 (v := 16 ||| 4) rfl ?_
      refine r_istore_n (lv' := [(1, .int (16 ||| 4)), (0, .ref a)]) d_Mo_faultBits_28 rfl (by decide) rfl ?_
      refine r_aload_n d_Mo_faultBits_29 rfl 1 rfl ?_
      refine r_get fs_Mo_57 d_Mo_faultBits_30 (q0 := 0) rfl rfl ?_
      refine r_bipush d_Mo_faultBits_33 (v := 80) (by decide) ?_
      refine r_icmp_ge (tgt := 47) d_Mo_faultBits_35 (by decide) (fun c_35 => ?_) (fun c_35 => ?_)
      · refine r_aload_n d_Mo_faultBits_47 rfl 1 rfl ?_
        refine r_get fs_Mo_63 d_Mo_faultBits_48 (q0 := 0) rfl rfl ?_
        refine r_bipush d_Mo_faultBits_51 (v := 60) (by decide) ?_
        refine r_icmp_le (tgt := 61) d_Mo_faultBits_53 (by decide) (fun c_53 => ?_) (fun c_53 => ?_)
        · refine r_iload_n d_Mo_faultBits_61 rfl 0 rfl ?_
          refine r_iret d_Mo_faultBits_62 rfl rfl ?_
          refine ⟨?_, rfl⟩
          unfold moF mo1
          repeat (first | rw [if_pos (by assumption)] | rw [if_neg (by assumption)])
        · refine r_iload_n d_Mo_faultBits_56 rfl 0 rfl ?_
          refine r_bipush d_Mo_faultBits_57 (v := 8) (by decide) ?_
          refine r_ior d_Mo_faultBits_59 (v := (16 ||| 4) ||| 8) rfl ?_
          refine r_istore_n (lv' := [(1, .int ((16 ||| 4) ||| 8)), (0, .ref a)]) d_Mo_faultBits_60 rfl (by decide) rfl ?_
          refine r_iload_n d_Mo_faultBits_61 rfl 0 rfl ?_
          refine r_iret d_Mo_faultBits_62 rfl rfl ?_
          refine ⟨?_, rfl⟩
          unfold moF mo1
          repeat (first | rw [if_pos (by assumption)] | rw [if_neg (by assumption)])
      · refine r_aload_n d_Mo_faultBits_38 rfl 1 rfl ?_
        refine r_get fs_Mo_62 d_Mo_faultBits_39 (q0 := 0) rfl rfl ?_
        refine r_bipush d_Mo_faultBits_42 (v := 40) (by decide) ?_
        refine r_icmp_gt (tgt := 56) d_Mo_faultBits_44 (by decide) (fun c_44 => ?_) (fun c_44 => ?_)
        · refine r_iload_n d_Mo_faultBits_56 rfl 0 rfl ?_
          refine r_bipush d_Mo_faultBits_57 (v := 8) (by decide) ?_
          refine r_ior d_Mo_faultBits_59 (v := (16 ||| 4) ||| 8) rfl ?_
          refine r_istore_n (lv' := [(1, .int ((16 ||| 4) ||| 8)), (0, .ref a)]) d_Mo_faultBits_60 rfl (by decide) rfl ?_
          refine r_iload_n d_Mo_faultBits_61 rfl 0 rfl ?_
          refine r_iret d_Mo_faultBits_62 rfl rfl ?_
          refine ⟨?_, rfl⟩
          unfold moF mo1
          repeat (first | rw [if_pos (by assumption)] | rw [if_neg (by assumption)])
        · refine r_aload_n d_Mo_faultBits_47 rfl 1 rfl ?_
          refine r_get fs_Mo_63 d_Mo_faultBits_48 (q0 := 0) rfl rfl ?_
          refine r_bipush d_Mo_faultBits_51 (v := 60) (by decide) ?_
          refine r_icmp_le (tgt := 61) d_Mo_faultBits_53 (by decide) (fun c_53 => ?_) (fun c_53 => ?_)
          · refine r_iload_n d_Mo_faultBits_61 rfl 0 rfl ?_
            refine r_iret d_Mo_faultBits_62 rfl rfl ?_
            refine ⟨?_, rfl⟩
            unfold moF mo1
            repeat (first | rw [if_pos (by assumption)] | rw [if_neg (by assumption)])
          · refine r_iload_n d_Mo_faultBits_56 rfl 0 rfl ?_
            refine r_bipush d_Mo_faultBits_57 (v := 8) (by decide) ?_
            refine r_ior d_Mo_faultBits_59 (v := (16 ||| 4) ||| 8) rfl ?_
            refine r_istore_n (lv' := [(1, .int ((16 ||| 4) ||| 8)), (0, .ref a)]) d_Mo_faultBits_60 rfl (by decide) rfl ?_
            refine r_iload_n d_Mo_faultBits_61 rfl 0 rfl ?_
            refine r_iret d_Mo_faultBits_62 rfl rfl ?_
            refine ⟨?_, rfl⟩
            unfold moF mo1
            repeat (first | rw [if_pos (by assumption)] | rw [if_neg (by assumption)])
abbrev M_Ca_init : zM := (⟨"Ironpour$Casting", "<init>", "(I)V"⟩, prog_2_method_1_code, 2, (Option.none : Option FieldType), 2, 40, [])
theorem d_Ca_init_0 : decode prog_2_method_1_code 0 = .ok (.aload_n 0, 1) := zo_42 (zd_b zq_prog_2_method_1_code_0 0 rfl rfl rfl)
theorem d_Ca_init_1 : decode prog_2_method_1_code 1 = .ok (.invokespecial 3, 3) := zo_183 (d := 0) (e := 3) (zd_b zq_prog_2_method_1_code_0 1 rfl rfl rfl) (zd_b zq_prog_2_method_1_code_0 2 rfl rfl rfl) (zd_b zq_prog_2_method_1_code_0 3 rfl rfl rfl)
theorem ln_Ca_3 : Cond.methodLink "Ironpour$Casting" 3 Lib.objectInit ∈ z_gw := z_mj6 (i := 137) rfl (by decide +kernel)
theorem d_Ca_init_4 : decode prog_2_method_1_code 4 = .ok (.aload_n 0, 1) := zo_42 (zd_b zq_prog_2_method_1_code_0 4 rfl rfl rfl)
theorem d_Ca_init_5 : decode prog_2_method_1_code 5 = .ok (.new 9, 3) := zo_187 (d := 0) (e := 9) (zd_b zq_prog_2_method_1_code_0 5 rfl rfl rfl) (zd_b zq_prog_2_method_1_code_0 6 rfl rfl rfl) (zd_b zq_prog_2_method_1_code_0 7 rfl rfl rfl)
theorem nc_Ca_9 : z_nc "Ironpour$Casting" 9 6 2 [.null, .int 0] := ⟨R_Me, F_Me, t_Me, rfl, u_Me, t_Me_ok, z_mj6 (i := 138) rfl (by decide +kernel), z_mj1 (i := 192) rfl (by decide +kernel), z_mj1 (i := 8) rfl (by decide +kernel), by decide +kernel⟩
