set_option maxHeartbeats 4000000 in
set_option maxRecDepth 100000 in
theorem C_Mm_cheapestE (g : zG) (m mp mf mh mn mt mz mc_ mq mgr ml mi mr mm mu mk mx : Nat) (th pt cl wa co_ fi bu ho lh mg wd fpi fal : Int32) (po de : Int64) (w : Int32) (hw : z_ix 4 w < 0) : CT g M_Mm_cheapest [.ref m, .int w] [(m, .inr (12, [.int th, .ref mp, .int pt, .ref mf, .ref mh, .ref mn, .ref mt, .ref mz, .ref mc_, .ref mq, .ref mgr, .int cl, .int wa, .int co_, .int fi, .int bu, .int ho, .ref ml, .ref mi, .ref mr, .int lh, .int mg, .int wd, .int fpi, .int fal, .ref mm, .ref mu, .ref mk, .ref mx, .long po, .long de]))] (fun o cs1 => o = .inl (some (.int 0)) ∧ cs1 = [(m, .inr (12, [.int 1, .ref mp, .int pt, .ref mf, .ref mh, .ref mn, .ref mt, .ref mz, .ref mc_, .ref mq, .ref mgr, .int cl, .int wa, .int co_, .int fi, .int bu, .int ho, .ref ml, .ref mi, .ref mr, .int lh, .int mg, .int wd, .int fpi, .int fal, .ref mm, .ref mu, .ref mk, .ref mx, .long po, .long de]))]) 0 0 := by
  refine z_of (by decide) rfl (Nat.le_of_ble_eq_true rfl) (fun w0 => ?_)
  refine r_lvE (lv2 := [(0, .ref m), (1, .int w)]) rfl ?_
  refine r_aload_n d_Mm_cheapest_0 rfl 0 rfl ?_
  refine r_iconst d_Mm_cheapest_1 (v := 0) (by decide) ?_
  refine r_put fp_Mm_84 d_Mm_cheapest_2 (fun h => nomatch h) rfl rfl (q0 := 0) rfl (Nat.le_of_ble_eq_true rfl) (cs' := [(m, .inr (12, [.int 0, .ref mp, .int pt, .ref mf, .ref mh, .ref mn, .ref mt, .ref mz, .ref mc_, .ref mq, .ref mgr, .int cl, .int wa, .int co_, .int fi, .int bu, .int ho, .ref ml, .ref mi, .ref mr, .int lh, .int mg, .int wd, .int fpi, .int fal, .ref mm, .ref mu, .ref mk, .ref mx, .long po, .long de]))]) rfl ?_
  refine r_aload_n d_Mm_cheapest_5 rfl 0 rfl ?_
  refine r_ldcWS (own := "IronpourModel") (i := 4) (by decide) d_Mm_cheapest_6 ?_
  refine r_iload_n d_Mm_cheapest_9 rfl 1 rfl ?_
  refine r_callVS (As := [.int w]) (rest := [.ref m]) (csC := []) (is := []) (i := 4) (by first | assumption | decide) rfl ln_Mm_97 w_im_String_indexOf_0 w_se_String_indexOf_0 ok_Mm_cheapest_String_indexOf_0 d_Mm_cheapest_10 (C_St_indexOf g 4 (by decide) w) rfl rfl (Nat.le_of_ble_eq_true rfl) rfl (by decide) (by omega) (by omega) (fun E cs1 hx => ?_) (fun v cs1 hx => ?_)
  · exact absurd hx.1 (by simp)
  · obtain ⟨e1, rfl⟩ := hx
    cases e1
    refine ⟨rfl, ?_⟩
    refine r_st (st2 := [.int (z_ix 4 w), .ref m]) rfl ?_
    refine r_cs (cs2 := [(m, .inr (12, [.int 0, .ref mp, .int pt, .ref mf, .ref mh, .ref mn, .ref mt, .ref mz, .ref mc_, .ref mq, .ref mgr, .int cl, .int wa, .int co_, .int fi, .int bu, .int ho, .ref ml, .ref mi, .ref mr, .int lh, .int mg, .int wd, .int fpi, .int fal, .ref mm, .ref mu, .ref mk, .ref mx, .long po, .long de]))]) rfl ?_
    refine r_if_ge (tgt := 20) d_Mm_cheapest_13 (by decide) (fun c_13 => ?_) (fun c_13 => ?_)
    · exact absurd hw (Int32.not_lt.mpr c_13)
    · refine r_iconst d_Mm_cheapest_16 (v := 1) (by decide) ?_
      refine r_goto (tgt := 21) d_Mm_cheapest_17 (by decide) ?_
      refine r_iconst d_Mm_cheapest_21 (v := 1) (by decide) ?_
      refine r_callV (As := [.int 1, .int 1]) (rest := []) (csC := [(m, .inr (12, [.int 0, .ref mp, .int pt, .ref mf, .ref mh, .ref mn, .ref mt, .ref mz, .ref mc_, .ref mq, .ref mgr, .int cl, .int wa, .int co_, .int fi, .int bu, .int ho, .ref ml, .ref mi, .ref mr, .int lh, .int mg, .int wd, .int fpi, .int fal, .ref mm, .ref mu, .ref mk, .ref mx, .long po, .long de]))]) (is := [0]) (q0 := 0) rfl rfl ln_Mm_103 w_im_Mm_fails w_se_Mm_fails ok_Mm_cheapest_Mm_fails d_Mm_cheapest_22 (C_Mm_fails1 g m mp mf mh mn mt mz mc_ mq mgr ml mi mr mm mu mk mx th pt cl wa co_ fi bu ho lh mg wd fpi fal po de) rfl rfl (Nat.le_of_ble_eq_true rfl) rfl (by decide) (by omega) (by omega) (fun E cs1 hx => ?_) (fun v cs1 hx => ?_)
      · exact absurd hx.1 (by simp)
      · obtain ⟨e1, rfl⟩ := hx
        cases e1
        refine ⟨rfl, ?_⟩
        refine r_st (st2 := [.int 1]) rfl ?_
        refine r_cs (cs2 := [(m, .inr (12, [.int 1, .ref mp, .int pt, .ref mf, .ref mh, .ref mn, .ref mt, .ref mz, .ref mc_, .ref mq, .ref mgr, .int cl, .int wa, .int co_, .int fi, .int bu, .int ho, .ref ml, .ref mi, .ref mr, .int lh, .int mg, .int wd, .int fpi, .int fal, .ref mm, .ref mu, .ref mk, .ref mx, .long po, .long de]))]) rfl ?_
        refine r_if_ne (tgt := 49) d_Mm_cheapest_25 (by decide) (fun c_25 => ?_) (fun c_25 => ?_)
        · refine r_iconst d_Mm_cheapest_49 (v := 0) (by decide) ?_
          refine r_iret d_Mm_cheapest_50 rfl rfl ?_
          exact ⟨rfl, rfl⟩
        · exact absurd c_25 (by decide)
theorem d_Mm_cheapest_20 : decode prog_14_method_72_code 20 = .ok (.iconst 0, 1) := zo_3 (zd_b zq_prog_14_method_72_code_0 20 rfl rfl rfl)
theorem d_Mm_cheapest_28 : decode prog_14_method_72_code 28 = .ok (.aload_n 0, 1) := zo_42 (zd_b zq_prog_14_method_72_code_0 28 rfl rfl rfl)
theorem d_Mm_cheapest_29 : decode prog_14_method_72_code 29 = .ok (.aload_n 0, 1) := zo_42 (zd_b zq_prog_14_method_72_code_0 29 rfl rfl rfl)
theorem d_Mm_cheapest_30 : decode prog_14_method_72_code 30 = .ok (.getfield 69, 3) := zo_180 (d := 0) (e := 69) (zd_b zq_prog_14_method_72_code_0 30 rfl rfl rfl) (zd_b zq_prog_14_method_72_code_0 31 rfl rfl rfl) (zd_b zq_prog_14_method_72_code_1 0 rfl rfl rfl)
theorem fs_Mm_69 : z_fs "IronpourModel" 69 12 23 := ⟨R_Mm, "IronpourModel", F_Mm, 31, rfl, u_Mm, by decide, Or.inl ⟨z_mj7 (i := 106) rfl (by decide +kernel), Or.inl rfl⟩⟩
theorem d_Mm_cheapest_33 : decode prog_14_method_72_code 33 = .ok (.iconst (-1), 1) := zo_2 (zd_b zq_prog_14_method_72_code_1 1 rfl rfl rfl)
theorem d_Mm_cheapest_34 : decode prog_14_method_72_code 34 = .ok (.if_icmp .ne 7, 3) := zo_160 (d := 0) (e := 7) (zd_b zq_prog_14_method_72_code_1 2 rfl rfl rfl) (zd_b zq_prog_14_method_72_code_1 3 rfl rfl rfl) (zd_b zq_prog_14_method_72_code_1 4 rfl rfl rfl) (by decide +kernel)
theorem d_Mm_cheapest_37 : decode prog_14_method_72_code 37 = .ok (.iconst 1, 1) := zo_4 (zd_b zq_prog_14_method_72_code_1 5 rfl rfl rfl)
theorem d_Mm_cheapest_38 : decode prog_14_method_72_code 38 = .ok (.goto 4, 3) := zo_167 (d := 0) (e := 4) (zd_b zq_prog_14_method_72_code_1 6 rfl rfl rfl) (zd_b zq_prog_14_method_72_code_1 7 rfl rfl rfl) (zd_b zq_prog_14_method_72_code_1 8 rfl rfl rfl) (by decide +kernel)
theorem d_Mm_cheapest_42 : decode prog_14_method_72_code 42 = .ok (.iconst 2, 1) := zo_5 (zd_b zq_prog_14_method_72_code_1 10 rfl rfl rfl)
theorem d_Mm_cheapest_43 : decode prog_14_method_72_code 43 = .ok (.invokevirtual 103, 3) := zo_182 (d := 0) (e := 103) (zd_b zq_prog_14_method_72_code_1 11 rfl rfl rfl) (zd_b zq_prog_14_method_72_code_1 12 rfl rfl rfl) (zd_b zq_prog_14_method_72_code_1 13 rfl rfl rfl)
theorem d_Mm_cheapest_46 : decode prog_14_method_72_code 46 = .ok (.ifCond .eq 5, 3) := zo_153 (d := 0) (e := 5) (zd_b zq_prog_14_method_72_code_1 14 rfl rfl rfl) (zd_b zq_prog_14_method_72_code_1 15 rfl rfl rfl) (zd_b zq_prog_14_method_72_code_1 16 rfl rfl rfl) (by decide +kernel)
abbrev M_Mm_mould : zM := (⟨"IronpourModel", "mould", "()I"⟩, prog_14_method_74_code, 4, (Option.some FieldType.int), 8, 231, [])
theorem d_Mm_mould_0 : decode prog_14_method_74_code 0 = .ok (.aload_n 0, 1) := zo_42 (zd_b zq_prog_14_method_74_code_0 0 rfl rfl rfl)
theorem d_Mm_mould_1 : decode prog_14_method_74_code 1 = .ok (.iconst 0, 1) := zo_3 (zd_b zq_prog_14_method_74_code_0 1 rfl rfl rfl)
theorem d_Mm_mould_2 : decode prog_14_method_74_code 2 = .ok (.putfield 84, 3) := zo_181 (d := 0) (e := 84) (zd_b zq_prog_14_method_74_code_0 2 rfl rfl rfl) (zd_b zq_prog_14_method_74_code_0 3 rfl rfl rfl) (zd_b zq_prog_14_method_74_code_0 4 rfl rfl rfl)
theorem d_Mm_mould_5 : decode prog_14_method_74_code 5 = .ok (.aload_n 0, 1) := zo_42 (zd_b zq_prog_14_method_74_code_0 5 rfl rfl rfl)
theorem d_Mm_mould_6 : decode prog_14_method_74_code 6 = .ok (.aload_n 0, 1) := zo_42 (zd_b zq_prog_14_method_74_code_0 6 rfl rfl rfl)
theorem d_Mm_mould_7 : decode prog_14_method_74_code 7 = .ok (.getfield 7, 3) := zo_180 (d := 0) (e := 7) (zd_b zq_prog_14_method_74_code_0 7 rfl rfl rfl) (zd_b zq_prog_14_method_74_code_0 8 rfl rfl rfl) (zd_b zq_prog_14_method_74_code_0 9 rfl rfl rfl)
theorem d_Mm_mould_10 : decode prog_14_method_74_code 10 = .ok (.invokevirtual 123, 3) := zo_182 (d := 0) (e := 123) (zd_b zq_prog_14_method_74_code_0 10 rfl rfl rfl) (zd_b zq_prog_14_method_74_code_0 11 rfl rfl rfl) (zd_b zq_prog_14_method_74_code_0 12 rfl rfl rfl)
theorem ok_Mm_mould_Mm_groupIn : z_ok M_Mm_mould M_Mm_groupIn 1 := ⟨z_mj7 (i := 222) rfl (by decide +kernel), rfl, ⟨by decide +kernel, by decide +kernel, by decide +kernel⟩, ⟨by decide, by decide⟩, z_mj1 (i := 14) rfl (by decide +kernel), rfl⟩
theorem d_Mm_mould_13 : decode prog_14_method_74_code 13 = .ok (.istore_n 1, 1) := zo_60 (zd_b zq_prog_14_method_74_code_0 13 rfl rfl rfl)
theorem d_Mm_mould_14 : decode prog_14_method_74_code 14 = .ok (.aload_n 0, 1) := zo_42 (zd_b zq_prog_14_method_74_code_0 14 rfl rfl rfl)
theorem d_Mm_mould_15 : decode prog_14_method_74_code 15 = .ok (.aload_n 0, 1) := zo_42 (zd_b zq_prog_14_method_74_code_0 15 rfl rfl rfl)
theorem d_Mm_mould_16 : decode prog_14_method_74_code 16 = .ok (.getfield 7, 3) := zo_180 (d := 0) (e := 7) (zd_b zq_prog_14_method_74_code_0 16 rfl rfl rfl) (zd_b zq_prog_14_method_74_code_0 17 rfl rfl rfl) (zd_b zq_prog_14_method_74_code_0 18 rfl rfl rfl)
theorem d_Mm_mould_19 : decode prog_14_method_74_code 19 = .ok (.invokestatic 137, 3) := zo_184 (d := 0) (e := 137) (zd_b zq_prog_14_method_74_code_0 19 rfl rfl rfl) (zd_b zq_prog_14_method_74_code_0 20 rfl rfl rfl) (zd_b zq_prog_14_method_74_code_0 21 rfl rfl rfl)
theorem ok_Mm_mould_Mm_gates : z_ok M_Mm_mould M_Mm_gates 1 := ⟨z_mj8 (i := 18) rfl (by decide +kernel), rfl, ⟨by decide +kernel, by decide +kernel, by decide +kernel⟩, ⟨by decide, by decide⟩, z_mj1 (i := 14) rfl (by decide +kernel), rfl⟩
theorem d_Mm_mould_22 : decode prog_14_method_74_code 22 = .ok (.ifCond .eq 10, 3) := zo_153 (d := 0) (e := 10) (zd_b zq_prog_14_method_74_code_0 22 rfl rfl rfl) (zd_b zq_prog_14_method_74_code_0 23 rfl rfl rfl) (zd_b zq_prog_14_method_74_code_0 24 rfl rfl rfl) (by decide +kernel)
theorem d_Mm_mould_32 : decode prog_14_method_74_code 32 = .ok (.iconst 1, 1) := zo_4 (zd_b zq_prog_14_method_74_code_1 0 rfl rfl rfl)
theorem d_Mm_mould_33 : decode prog_14_method_74_code 33 = .ok (.goto 4, 3) := zo_167 (d := 0) (e := 4) (zd_b zq_prog_14_method_74_code_1 1 rfl rfl rfl) (zd_b zq_prog_14_method_74_code_1 2 rfl rfl rfl) (zd_b zq_prog_14_method_74_code_1 3 rfl rfl rfl) (by decide +kernel)
theorem d_Mm_mould_37 : decode prog_14_method_74_code 37 = .ok (.iconst 1, 1) := zo_4 (zd_b zq_prog_14_method_74_code_1 5 rfl rfl rfl)
theorem d_Mm_mould_38 : decode prog_14_method_74_code 38 = .ok (.invokevirtual 103, 3) := zo_182 (d := 0) (e := 103) (zd_b zq_prog_14_method_74_code_1 6 rfl rfl rfl) (zd_b zq_prog_14_method_74_code_1 7 rfl rfl rfl) (zd_b zq_prog_14_method_74_code_1 8 rfl rfl rfl)
theorem ok_Mm_mould_Mm_fails : z_ok M_Mm_mould M_Mm_fails 2 := ⟨z_mj7 (i := 196) rfl (by decide +kernel), rfl, ⟨by decide +kernel, by decide +kernel, by decide +kernel⟩, ⟨by decide, by decide⟩, z_mj1 (i := 14) rfl (by decide +kernel), rfl⟩
theorem d_Mm_mould_41 : decode prog_14_method_74_code 41 = .ok (.ifCond .ne 49, 3) := zo_154 (d := 0) (e := 49) (zd_b zq_prog_14_method_74_code_1 9 rfl rfl rfl) (zd_b zq_prog_14_method_74_code_1 10 rfl rfl rfl) (zd_b zq_prog_14_method_74_code_1 11 rfl rfl rfl) (by decide +kernel)
theorem d_Mm_mould_90 : decode prog_14_method_74_code 90 = .ok (.iconst 0, 1) := zo_3 (zd_b zq_prog_14_method_74_code_2 26 rfl rfl rfl)
theorem d_Mm_mould_91 : decode prog_14_method_74_code 91 = .ok (.ireturn, 1) := zo_172 (zd_b zq_prog_14_method_74_code_2 27 rfl rfl rfl)
abbrev M_Mm_waiting : zM := (⟨"IronpourModel", "waiting", "(I)I"⟩, prog_14_method_75_code, 2, (Option.some FieldType.int), 4, 84, [])
theorem d_Mm_waiting_0 : decode prog_14_method_75_code 0 = .ok (.aload_n 0, 1) := zo_42 (zd_b zq_prog_14_method_75_code_0 0 rfl rfl rfl)
theorem d_Mm_waiting_1 : decode prog_14_method_75_code 1 = .ok (.iconst 0, 1) := zo_3 (zd_b zq_prog_14_method_75_code_0 1 rfl rfl rfl)
theorem d_Mm_waiting_2 : decode prog_14_method_75_code 2 = .ok (.putfield 84, 3) := zo_181 (d := 0) (e := 84) (zd_b zq_prog_14_method_75_code_0 2 rfl rfl rfl) (zd_b zq_prog_14_method_75_code_0 3 rfl rfl rfl) (zd_b zq_prog_14_method_75_code_0 4 rfl rfl rfl)
theorem d_Mm_waiting_5 : decode prog_14_method_75_code 5 = .ok (.aload_n 0, 1) := zo_42 (zd_b zq_prog_14_method_75_code_0 5 rfl rfl rfl)
theorem d_Mm_waiting_6 : decode prog_14_method_75_code 6 = .ok (.iload_n 1, 1) := zo_27 (zd_b zq_prog_14_method_75_code_0 6 rfl rfl rfl)
theorem d_Mm_waiting_7 : decode prog_14_method_75_code 7 = .ok (.iconst 0, 1) := zo_3 (zd_b zq_prog_14_method_75_code_0 7 rfl rfl rfl)
theorem d_Mm_waiting_8 : decode prog_14_method_75_code 8 = .ok (.aload_n 0, 1) := zo_42 (zd_b zq_prog_14_method_75_code_0 8 rfl rfl rfl)
theorem d_Mm_waiting_9 : decode prog_14_method_75_code 9 = .ok (.getfield 72, 3) := zo_180 (d := 0) (e := 72) (zd_b zq_prog_14_method_75_code_0 9 rfl rfl rfl) (zd_b zq_prog_14_method_75_code_0 10 rfl rfl rfl) (zd_b zq_prog_14_method_75_code_0 11 rfl rfl rfl)
theorem fs_Mm_72 : z_fs "IronpourModel" 72 12 25 := ⟨R_Mm, "IronpourModel", F_Mm, 31, rfl, u_Mm, by decide, Or.inl ⟨z_mj7 (i := 108) rfl (by decide +kernel), Or.inl rfl⟩⟩
theorem d_Mm_waiting_12 : decode prog_14_method_75_code 12 = .ok (.invokevirtual 208, 3) := zo_182 (d := 0) (e := 208) (zd_b zq_prog_14_method_75_code_0 12 rfl rfl rfl) (zd_b zq_prog_14_method_75_code_0 13 rfl rfl rfl) (zd_b zq_prog_14_method_75_code_0 14 rfl rfl rfl)
theorem ok_Mm_waiting_AL_size : z_ok M_Mm_waiting M_AL_size 0 := ⟨z_mj2 (i := 172) rfl (by decide +kernel), rfl, ⟨by decide +kernel, by decide +kernel, by decide +kernel⟩, ⟨by decide, by decide⟩, z_mj1 (i := 13) rfl (by decide +kernel), rfl⟩
theorem d_Mm_waiting_15 : decode prog_14_method_75_code 15 = .ok (.iconst 1, 1) := zo_4 (zd_b zq_prog_14_method_75_code_0 15 rfl rfl rfl)
theorem d_Mm_waiting_16 : decode prog_14_method_75_code 16 = .ok (.isub, 1) := zo_100 (zd_b zq_prog_14_method_75_code_0 16 rfl rfl rfl)
theorem d_Mm_waiting_17 : decode prog_14_method_75_code 17 = .ok (.invokestatic 87, 3) := zo_184 (d := 0) (e := 87) (zd_b zq_prog_14_method_75_code_0 17 rfl rfl rfl) (zd_b zq_prog_14_method_75_code_0 18 rfl rfl rfl) (zd_b zq_prog_14_method_75_code_0 19 rfl rfl rfl)
theorem ok_Mm_waiting_Mm_in : z_ok M_Mm_waiting M_Mm_in 3 := ⟨z_mj7 (i := 190) rfl (by decide +kernel), rfl, ⟨by decide +kernel, by decide +kernel, by decide +kernel⟩, ⟨by decide, by decide⟩, z_mj1 (i := 14) rfl (by decide +kernel), rfl⟩
theorem d_Mm_waiting_20 : decode prog_14_method_75_code 20 = .ok (.ifCond .ne 7, 3) := zo_154 (d := 0) (e := 7) (zd_b zq_prog_14_method_75_code_0 20 rfl rfl rfl) (zd_b zq_prog_14_method_75_code_0 21 rfl rfl rfl) (zd_b zq_prog_14_method_75_code_0 22 rfl rfl rfl) (by decide +kernel)
theorem d_Mm_waiting_23 : decode prog_14_method_75_code 23 = .ok (.iconst 1, 1) := zo_4 (zd_b zq_prog_14_method_75_code_0 23 rfl rfl rfl)
theorem d_Mm_waiting_24 : decode prog_14_method_75_code 24 = .ok (.goto 4, 3) := zo_167 (d := 0) (e := 4) (zd_b zq_prog_14_method_75_code_0 24 rfl rfl rfl) (zd_b zq_prog_14_method_75_code_0 25 rfl rfl rfl) (zd_b zq_prog_14_method_75_code_0 26 rfl rfl rfl) (by decide +kernel)
theorem d_Mm_waiting_28 : decode prog_14_method_75_code 28 = .ok (.iconst 1, 1) := zo_4 (zd_b zq_prog_14_method_75_code_0 28 rfl rfl rfl)
theorem d_Mm_waiting_29 : decode prog_14_method_75_code 29 = .ok (.invokevirtual 103, 3) := zo_182 (d := 0) (e := 103) (zd_b zq_prog_14_method_75_code_0 29 rfl rfl rfl) (zd_b zq_prog_14_method_75_code_0 30 rfl rfl rfl) (zd_b zq_prog_14_method_75_code_0 31 rfl rfl rfl)
theorem ok_Mm_waiting_Mm_fails : z_ok M_Mm_waiting M_Mm_fails 2 := ⟨z_mj7 (i := 196) rfl (by decide +kernel), rfl, ⟨by decide +kernel, by decide +kernel, by decide +kernel⟩, ⟨by decide, by decide⟩, z_mj1 (i := 14) rfl (by decide +kernel), rfl⟩
theorem d_Mm_waiting_32 : decode prog_14_method_75_code 32 = .ok (.ifCond .eq 7, 3) := zo_153 (d := 0) (e := 7) (zd_b zq_prog_14_method_75_code_1 0 rfl rfl rfl) (zd_b zq_prog_14_method_75_code_1 1 rfl rfl rfl) (zd_b zq_prog_14_method_75_code_1 2 rfl rfl rfl) (by decide +kernel)
theorem d_Mm_waiting_35 : decode prog_14_method_75_code 35 = .ok (.iconst 0, 1) := zo_3 (zd_b zq_prog_14_method_75_code_1 3 rfl rfl rfl)
theorem d_Mm_waiting_36 : decode prog_14_method_75_code 36 = .ok (.goto 16, 3) := zo_167 (d := 0) (e := 16) (zd_b zq_prog_14_method_75_code_1 4 rfl rfl rfl) (zd_b zq_prog_14_method_75_code_1 5 rfl rfl rfl) (zd_b zq_prog_14_method_75_code_1 6 rfl rfl rfl) (by decide +kernel)
theorem d_Mm_waiting_52 : decode prog_14_method_75_code 52 = .ok (.ireturn, 1) := zo_172 (zd_b zq_prog_14_method_75_code_1 20 rfl rfl rfl)
abbrev M_Mm_pour : zM := (⟨"IronpourModel", "pour", "()I"⟩, prog_14_method_77_code, 12, (Option.some FieldType.int), 10, 239, [])
theorem d_Mm_pour_0 : decode prog_14_method_77_code 0 = .ok (.aload_n 0, 1) := zo_42 (zd_b zq_prog_14_method_77_code_0 0 rfl rfl rfl)
theorem d_Mm_pour_1 : decode prog_14_method_77_code 1 = .ok (.iconst 0, 1) := zo_3 (zd_b zq_prog_14_method_77_code_0 1 rfl rfl rfl)
theorem d_Mm_pour_2 : decode prog_14_method_77_code 2 = .ok (.putfield 84, 3) := zo_181 (d := 0) (e := 84) (zd_b zq_prog_14_method_77_code_0 2 rfl rfl rfl) (zd_b zq_prog_14_method_77_code_0 3 rfl rfl rfl) (zd_b zq_prog_14_method_77_code_0 4 rfl rfl rfl)
theorem d_Mm_pour_5 : decode prog_14_method_77_code 5 = .ok (.aload_n 0, 1) := zo_42 (zd_b zq_prog_14_method_77_code_0 5 rfl rfl rfl)
theorem d_Mm_pour_6 : decode prog_14_method_77_code 6 = .ok (.aload_n 0, 1) := zo_42 (zd_b zq_prog_14_method_77_code_0 6 rfl rfl rfl)
theorem d_Mm_pour_7 : decode prog_14_method_77_code 7 = .ok (.getfield 72, 3) := zo_180 (d := 0) (e := 72) (zd_b zq_prog_14_method_77_code_0 7 rfl rfl rfl) (zd_b zq_prog_14_method_77_code_0 8 rfl rfl rfl) (zd_b zq_prog_14_method_77_code_0 9 rfl rfl rfl)
theorem d_Mm_pour_10 : decode prog_14_method_77_code 10 = .ok (.invokevirtual 289, 3) := zo_182 (d := 1) (e := 33) (zd_b zq_prog_14_method_77_code_0 10 rfl rfl rfl) (zd_b zq_prog_14_method_77_code_0 11 rfl rfl rfl) (zd_b zq_prog_14_method_77_code_0 12 rfl rfl rfl)
theorem ok_Mm_pour_AL_isEmpty : z_ok M_Mm_pour M_AL_isEmpty 0 := ⟨z_mj6 (i := 115) rfl (by decide +kernel), rfl, ⟨by decide +kernel, by decide +kernel, by decide +kernel⟩, ⟨by decide, by decide⟩, z_mj1 (i := 13) rfl (by decide +kernel), rfl⟩
theorem ln_Mm_289 : Cond.methodLink "IronpourModel" 289 M_AL_isEmpty.1 ∈ z_gw := z_mj9 (i := 0) rfl (by decide +kernel)
theorem w_im_AL_isEmpty : Cond.instanceMethod M_AL_isEmpty.1 ∈ z_gw := z_mj6 (i := 113) rfl (by decide +kernel)
theorem w_se_AL_isEmpty : Cond.selects M_AL_isEmpty.1.cls M_AL_isEmpty.1 M_AL_isEmpty.1 ∈ z_gw := z_mj6 (i := 114) rfl (by decide +kernel)
theorem d_Mm_pour_13 : decode prog_14_method_77_code 13 = .ok (.iconst 1, 1) := zo_4 (zd_b zq_prog_14_method_77_code_0 13 rfl rfl rfl)
theorem d_Mm_pour_14 : decode prog_14_method_77_code 14 = .ok (.invokevirtual 103, 3) := zo_182 (d := 0) (e := 103) (zd_b zq_prog_14_method_77_code_0 14 rfl rfl rfl) (zd_b zq_prog_14_method_77_code_0 15 rfl rfl rfl) (zd_b zq_prog_14_method_77_code_0 16 rfl rfl rfl)
theorem ok_Mm_pour_Mm_fails : z_ok M_Mm_pour M_Mm_fails 2 := ⟨z_mj7 (i := 196) rfl (by decide +kernel), rfl, ⟨by decide +kernel, by decide +kernel, by decide +kernel⟩, ⟨by decide, by decide⟩, z_mj1 (i := 14) rfl (by decide +kernel), rfl⟩
theorem d_Mm_pour_17 : decode prog_14_method_77_code 17 = .ok (.ifCond .ne 60, 3) := zo_154 (d := 0) (e := 60) (zd_b zq_prog_14_method_77_code_0 17 rfl rfl rfl) (zd_b zq_prog_14_method_77_code_0 18 rfl rfl rfl) (zd_b zq_prog_14_method_77_code_0 19 rfl rfl rfl) (by decide +kernel)
theorem d_Mm_pour_77 : decode prog_14_method_77_code 77 = .ok (.iconst 0, 1) := zo_3 (zd_b zq_prog_14_method_77_code_2 13 rfl rfl rfl)
theorem d_Mm_pour_78 : decode prog_14_method_77_code 78 = .ok (.ireturn, 1) := zo_172 (zd_b zq_prog_14_method_77_code_2 14 rfl rfl rfl)
abbrev M_Mm_castings : zM := (⟨"IronpourModel", "castings", "()I"⟩, prog_14_method_78_code, 1, (Option.some FieldType.int), 2, 40, [])
theorem d_Mm_castings_0 : decode prog_14_method_78_code 0 = .ok (.aload_n 0, 1) := zo_42 (zd_b zq_prog_14_method_78_code_0 0 rfl rfl rfl)
theorem d_Mm_castings_1 : decode prog_14_method_78_code 1 = .ok (.iconst 0, 1) := zo_3 (zd_b zq_prog_14_method_78_code_0 1 rfl rfl rfl)
theorem d_Mm_castings_2 : decode prog_14_method_78_code 2 = .ok (.putfield 84, 3) := zo_181 (d := 0) (e := 84) (zd_b zq_prog_14_method_78_code_0 2 rfl rfl rfl) (zd_b zq_prog_14_method_78_code_0 3 rfl rfl rfl) (zd_b zq_prog_14_method_78_code_0 4 rfl rfl rfl)
theorem d_Mm_castings_5 : decode prog_14_method_78_code 5 = .ok (.aload_n 0, 1) := zo_42 (zd_b zq_prog_14_method_78_code_0 5 rfl rfl rfl)
theorem d_Mm_castings_6 : decode prog_14_method_78_code 6 = .ok (.getfield 78, 3) := zo_180 (d := 0) (e := 78) (zd_b zq_prog_14_method_78_code_0 6 rfl rfl rfl) (zd_b zq_prog_14_method_78_code_0 7 rfl rfl rfl) (zd_b zq_prog_14_method_78_code_0 8 rfl rfl rfl)
theorem fs_Mm_78 : z_fs "IronpourModel" 78 12 27 := ⟨R_Mm, "IronpourModel", F_Mm, 31, rfl, u_Mm, by decide, Or.inl ⟨z_mj7 (i := 110) rfl (by decide +kernel), Or.inl rfl⟩⟩
theorem d_Mm_castings_9 : decode prog_14_method_78_code 9 = .ok (.invokevirtual 208, 3) := zo_182 (d := 0) (e := 208) (zd_b zq_prog_14_method_78_code_0 9 rfl rfl rfl) (zd_b zq_prog_14_method_78_code_0 10 rfl rfl rfl) (zd_b zq_prog_14_method_78_code_0 11 rfl rfl rfl)
theorem ok_Mm_castings_AL_size : z_ok M_Mm_castings M_AL_size 0 := ⟨z_mj2 (i := 172) rfl (by decide +kernel), rfl, ⟨by decide +kernel, by decide +kernel, by decide +kernel⟩, ⟨by decide, by decide⟩, z_mj1 (i := 13) rfl (by decide +kernel), rfl⟩
theorem d_Mm_castings_12 : decode prog_14_method_78_code 12 = .ok (.ireturn, 1) := zo_172 (zd_b zq_prog_14_method_78_code_0 12 rfl rfl rfl)
abbrev M_Mm_noCasting : zM := (⟨"IronpourModel", "noCasting", "(I)Z"⟩, prog_14_method_79_code, 2, (Option.some FieldType.boolean), 2, 42, [])
theorem d_Mm_noCasting_0 : decode prog_14_method_79_code 0 = .ok (.iload_n 1, 1) := zo_27 (zd_b zq_prog_14_method_79_code_0 0 rfl rfl rfl)
theorem d_Mm_noCasting_1 : decode prog_14_method_79_code 1 = .ok (.iconst 0, 1) := zo_3 (zd_b zq_prog_14_method_79_code_0 1 rfl rfl rfl)
theorem d_Mm_noCasting_2 : decode prog_14_method_79_code 2 = .ok (.aload_n 0, 1) := zo_42 (zd_b zq_prog_14_method_79_code_0 2 rfl rfl rfl)
theorem d_Mm_noCasting_3 : decode prog_14_method_79_code 3 = .ok (.getfield 78, 3) := zo_180 (d := 0) (e := 78) (zd_b zq_prog_14_method_79_code_0 3 rfl rfl rfl) (zd_b zq_prog_14_method_79_code_0 4 rfl rfl rfl) (zd_b zq_prog_14_method_79_code_0 5 rfl rfl rfl)
theorem d_Mm_noCasting_6 : decode prog_14_method_79_code 6 = .ok (.invokevirtual 208, 3) := zo_182 (d := 0) (e := 208) (zd_b zq_prog_14_method_79_code_0 6 rfl rfl rfl) (zd_b zq_prog_14_method_79_code_0 7 rfl rfl rfl) (zd_b zq_prog_14_method_79_code_0 8 rfl rfl rfl)
theorem ok_Mm_noCasting_AL_size : z_ok M_Mm_noCasting M_AL_size 0 := ⟨z_mj2 (i := 172) rfl (by decide +kernel), rfl, ⟨by decide +kernel, by decide +kernel, by decide +kernel⟩, ⟨by decide, by decide⟩, z_mj1 (i := 13) rfl (by decide +kernel), rfl⟩
theorem d_Mm_noCasting_9 : decode prog_14_method_79_code 9 = .ok (.iconst 1, 1) := zo_4 (zd_b zq_prog_14_method_79_code_0 9 rfl rfl rfl)
theorem d_Mm_noCasting_10 : decode prog_14_method_79_code 10 = .ok (.isub, 1) := zo_100 (zd_b zq_prog_14_method_79_code_0 10 rfl rfl rfl)
theorem d_Mm_noCasting_11 : decode prog_14_method_79_code 11 = .ok (.invokestatic 87, 3) := zo_184 (d := 0) (e := 87) (zd_b zq_prog_14_method_79_code_0 11 rfl rfl rfl) (zd_b zq_prog_14_method_79_code_0 12 rfl rfl rfl) (zd_b zq_prog_14_method_79_code_0 13 rfl rfl rfl)
theorem ok_Mm_noCasting_Mm_in : z_ok M_Mm_noCasting M_Mm_in 3 := ⟨z_mj7 (i := 190) rfl (by decide +kernel), rfl, ⟨by decide +kernel, by decide +kernel, by decide +kernel⟩, ⟨by decide, by decide⟩, z_mj1 (i := 14) rfl (by decide +kernel), rfl⟩
theorem d_Mm_noCasting_14 : decode prog_14_method_79_code 14 = .ok (.ifCond .ne 7, 3) := zo_154 (d := 0) (e := 7) (zd_b zq_prog_14_method_79_code_0 14 rfl rfl rfl) (zd_b zq_prog_14_method_79_code_0 15 rfl rfl rfl) (zd_b zq_prog_14_method_79_code_0 16 rfl rfl rfl) (by decide +kernel)
theorem d_Mm_noCasting_17 : decode prog_14_method_79_code 17 = .ok (.iconst 1, 1) := zo_4 (zd_b zq_prog_14_method_79_code_0 17 rfl rfl rfl)
theorem d_Mm_noCasting_18 : decode prog_14_method_79_code 18 = .ok (.goto 4, 3) := zo_167 (d := 0) (e := 4) (zd_b zq_prog_14_method_79_code_0 18 rfl rfl rfl) (zd_b zq_prog_14_method_79_code_0 19 rfl rfl rfl) (zd_b zq_prog_14_method_79_code_0 20 rfl rfl rfl) (by decide +kernel)
theorem d_Mm_noCasting_22 : decode prog_14_method_79_code 22 = .ok (.ireturn, 1) := zo_172 (zd_b zq_prog_14_method_79_code_0 22 rfl rfl rfl)
abbrev M_Mm_alloy : zM := (⟨"IronpourModel", "alloy", "(I)C"⟩, prog_14_method_80_code, 2, (Option.some FieldType.char), 4, 84, [])
