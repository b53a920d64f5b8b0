theorem d_Mm_with_6 : decode prog_14_method_90_code 6 = .ok (.getfield 78, 3) := zo_180 (d := 0) (e := 78) (zd_b zq_prog_14_method_90_code_0 6 rfl rfl rfl) (zd_b zq_prog_14_method_90_code_0 7 rfl rfl rfl) (zd_b zq_prog_14_method_90_code_0 8 rfl rfl rfl)
theorem d_Mm_with_9 : decode prog_14_method_90_code 9 = .ok (.invokevirtual 208, 3) := zo_182 (d := 0) (e := 208) (zd_b zq_prog_14_method_90_code_0 9 rfl rfl rfl) (zd_b zq_prog_14_method_90_code_0 10 rfl rfl rfl) (zd_b zq_prog_14_method_90_code_0 11 rfl rfl rfl)
theorem ok_Mm_with_AL_size : z_ok M_Mm_with M_AL_size 0 := ⟨z_mj2 (i := 172) rfl (by decide +kernel), rfl, ⟨by decide +kernel, by decide +kernel, by decide +kernel⟩, ⟨by decide, by decide⟩, z_mj1 (i := 13) rfl (by decide +kernel), rfl⟩
theorem d_Mm_with_12 : decode prog_14_method_90_code 12 = .ok (.if_icmp .ge 35, 3) := zo_162 (d := 0) (e := 35) (zd_b zq_prog_14_method_90_code_0 12 rfl rfl rfl) (zd_b zq_prog_14_method_90_code_0 13 rfl rfl rfl) (zd_b zq_prog_14_method_90_code_0 14 rfl rfl rfl) (by decide +kernel)
theorem d_Mm_with_47 : decode prog_14_method_90_code 47 = .ok (.iload_n 2, 1) := zo_28 (zd_b zq_prog_14_method_90_code_1 15 rfl rfl rfl)
theorem d_Mm_with_48 : decode prog_14_method_90_code 48 = .ok (.ireturn, 1) := zo_172 (zd_b zq_prog_14_method_90_code_1 16 rfl rfl rfl)
abbrev M_Mm_worst : zM := (⟨"IronpourModel", "worst", "()C"⟩, prog_14_method_91_code, 6, (Option.some FieldType.char), 5, 107, [])
theorem d_Mm_worst_0 : decode prog_14_method_91_code 0 = .ok (.aload_n 0, 1) := zo_42 (zd_b zq_prog_14_method_91_code_0 0 rfl rfl rfl)
theorem d_Mm_worst_1 : decode prog_14_method_91_code 1 = .ok (.iconst 0, 1) := zo_3 (zd_b zq_prog_14_method_91_code_0 1 rfl rfl rfl)
theorem d_Mm_worst_2 : decode prog_14_method_91_code 2 = .ok (.putfield 84, 3) := zo_181 (d := 0) (e := 84) (zd_b zq_prog_14_method_91_code_0 2 rfl rfl rfl) (zd_b zq_prog_14_method_91_code_0 3 rfl rfl rfl) (zd_b zq_prog_14_method_91_code_0 4 rfl rfl rfl)
theorem d_Mm_worst_5 : decode prog_14_method_91_code 5 = .ok (.aload_n 0, 1) := zo_42 (zd_b zq_prog_14_method_91_code_0 5 rfl rfl rfl)
theorem d_Mm_worst_6 : decode prog_14_method_91_code 6 = .ok (.bipush 12, 2) := zo_16 (d := 12) (zd_b zq_prog_14_method_91_code_0 6 rfl rfl rfl) (zd_b zq_prog_14_method_91_code_0 7 rfl rfl rfl) (by decide +kernel)
theorem d_Mm_worst_8 : decode prog_14_method_91_code 8 = .ok (.invokevirtual 319, 3) := zo_182 (d := 1) (e := 63) (zd_b zq_prog_14_method_91_code_0 8 rfl rfl rfl) (zd_b zq_prog_14_method_91_code_0 9 rfl rfl rfl) (zd_b zq_prog_14_method_91_code_0 10 rfl rfl rfl)
theorem ok_Mm_worst_Mm_with : z_ok M_Mm_worst M_Mm_with 1 := ⟨z_mj9 (i := 63) rfl (by decide +kernel), rfl, ⟨by decide +kernel, by decide +kernel, by decide +kernel⟩, ⟨by decide, by decide⟩, z_mj1 (i := 14) rfl (by decide +kernel), rfl⟩
theorem ln_Mm_319 : Cond.methodLink "IronpourModel" 319 M_Mm_with.1 ∈ z_gw := z_mj9 (i := 60) rfl (by decide +kernel)
theorem w_im_Mm_with : Cond.instanceMethod M_Mm_with.1 ∈ z_gw := z_mj9 (i := 62) rfl (by decide +kernel)
theorem w_se_Mm_with : Cond.selects M_Mm_with.1.cls M_Mm_with.1 M_Mm_with.1 ∈ z_gw := z_mem (i := 56) (by decide +kernel) (by decide +kernel)
theorem d_Mm_worst_11 : decode prog_14_method_91_code 11 = .ok (.istore_n 1, 1) := zo_60 (zd_b zq_prog_14_method_91_code_0 11 rfl rfl rfl)
theorem d_Mm_worst_12 : decode prog_14_method_91_code 12 = .ok (.aload_n 0, 1) := zo_42 (zd_b zq_prog_14_method_91_code_0 12 rfl rfl rfl)
theorem d_Mm_worst_13 : decode prog_14_method_91_code 13 = .ok (.bipush 32, 2) := zo_16 (d := 32) (zd_b zq_prog_14_method_91_code_0 13 rfl rfl rfl) (zd_b zq_prog_14_method_91_code_0 14 rfl rfl rfl) (by decide +kernel)
theorem d_Mm_worst_15 : decode prog_14_method_91_code 15 = .ok (.invokevirtual 319, 3) := zo_182 (d := 1) (e := 63) (zd_b zq_prog_14_method_91_code_0 15 rfl rfl rfl) (zd_b zq_prog_14_method_91_code_0 16 rfl rfl rfl) (zd_b zq_prog_14_method_91_code_0 17 rfl rfl rfl)
theorem d_Mm_worst_18 : decode prog_14_method_91_code 18 = .ok (.istore_n 2, 1) := zo_61 (zd_b zq_prog_14_method_91_code_0 18 rfl rfl rfl)
theorem d_Mm_worst_19 : decode prog_14_method_91_code 19 = .ok (.aload_n 0, 1) := zo_42 (zd_b zq_prog_14_method_91_code_0 19 rfl rfl rfl)
theorem d_Mm_worst_20 : decode prog_14_method_91_code 20 = .ok (.iconst 2, 1) := zo_5 (zd_b zq_prog_14_method_91_code_0 20 rfl rfl rfl)
theorem d_Mm_worst_21 : decode prog_14_method_91_code 21 = .ok (.invokevirtual 319, 3) := zo_182 (d := 1) (e := 63) (zd_b zq_prog_14_method_91_code_0 21 rfl rfl rfl) (zd_b zq_prog_14_method_91_code_0 22 rfl rfl rfl) (zd_b zq_prog_14_method_91_code_0 23 rfl rfl rfl)
theorem d_Mm_worst_24 : decode prog_14_method_91_code 24 = .ok (.istore_n 3, 1) := zo_62 (zd_b zq_prog_14_method_91_code_0 24 rfl rfl rfl)
theorem d_Mm_worst_25 : decode prog_14_method_91_code 25 = .ok (.aload_n 0, 1) := zo_42 (zd_b zq_prog_14_method_91_code_0 25 rfl rfl rfl)
theorem d_Mm_worst_26 : decode prog_14_method_91_code 26 = .ok (.bipush 17, 2) := zo_16 (d := 17) (zd_b zq_prog_14_method_91_code_0 26 rfl rfl rfl) (zd_b zq_prog_14_method_91_code_0 27 rfl rfl rfl) (by decide +kernel)
theorem d_Mm_worst_28 : decode prog_14_method_91_code 28 = .ok (.invokevirtual 319, 3) := zo_182 (d := 1) (e := 63) (zd_b zq_prog_14_method_91_code_0 28 rfl rfl rfl) (zd_b zq_prog_14_method_91_code_0 29 rfl rfl rfl) (zd_b zq_prog_14_method_91_code_0 30 rfl rfl rfl)
theorem d_Mm_worst_31 : decode prog_14_method_91_code 31 = .ok (.istore 4, 2) := zo_54 (d := 4) (zd_b zq_prog_14_method_91_code_0 31 rfl rfl rfl) (zd_b zq_prog_14_method_91_code_1 0 rfl rfl rfl)
theorem d_Mm_worst_33 : decode prog_14_method_91_code 33 = .ok (.iload_n 1, 1) := zo_27 (zd_b zq_prog_14_method_91_code_1 1 rfl rfl rfl)
theorem d_Mm_worst_34 : decode prog_14_method_91_code 34 = .ok (.iload_n 2, 1) := zo_28 (zd_b zq_prog_14_method_91_code_1 2 rfl rfl rfl)
theorem d_Mm_worst_35 : decode prog_14_method_91_code 35 = .ok (.invokestatic 193, 3) := zo_184 (d := 0) (e := 193) (zd_b zq_prog_14_method_91_code_1 3 rfl rfl rfl) (zd_b zq_prog_14_method_91_code_1 4 rfl rfl rfl) (zd_b zq_prog_14_method_91_code_1 5 rfl rfl rfl)
theorem d_Mm_worst_38 : decode prog_14_method_91_code 38 = .ok (.iload_n 3, 1) := zo_29 (zd_b zq_prog_14_method_91_code_1 6 rfl rfl rfl)
theorem d_Mm_worst_39 : decode prog_14_method_91_code 39 = .ok (.iload 4, 2) := zo_21 (d := 4) (zd_b zq_prog_14_method_91_code_1 7 rfl rfl rfl) (zd_b zq_prog_14_method_91_code_1 8 rfl rfl rfl)
theorem d_Mm_worst_41 : decode prog_14_method_91_code 41 = .ok (.invokestatic 193, 3) := zo_184 (d := 0) (e := 193) (zd_b zq_prog_14_method_91_code_1 9 rfl rfl rfl) (zd_b zq_prog_14_method_91_code_1 10 rfl rfl rfl) (zd_b zq_prog_14_method_91_code_1 11 rfl rfl rfl)
theorem d_Mm_worst_44 : decode prog_14_method_91_code 44 = .ok (.invokestatic 193, 3) := zo_184 (d := 0) (e := 193) (zd_b zq_prog_14_method_91_code_1 12 rfl rfl rfl) (zd_b zq_prog_14_method_91_code_1 13 rfl rfl rfl) (zd_b zq_prog_14_method_91_code_1 14 rfl rfl rfl)
theorem d_Mm_worst_47 : decode prog_14_method_91_code 47 = .ok (.istore 5, 2) := zo_54 (d := 5) (zd_b zq_prog_14_method_91_code_1 15 rfl rfl rfl) (zd_b zq_prog_14_method_91_code_1 16 rfl rfl rfl)
theorem d_Mm_worst_49 : decode prog_14_method_91_code 49 = .ok (.aload_n 0, 1) := zo_42 (zd_b zq_prog_14_method_91_code_1 17 rfl rfl rfl)
theorem d_Mm_worst_50 : decode prog_14_method_91_code 50 = .ok (.iload 5, 2) := zo_21 (d := 5) (zd_b zq_prog_14_method_91_code_1 18 rfl rfl rfl) (zd_b zq_prog_14_method_91_code_1 19 rfl rfl rfl)
theorem d_Mm_worst_52 : decode prog_14_method_91_code 52 = .ok (.ifCond .ne 7, 3) := zo_154 (d := 0) (e := 7) (zd_b zq_prog_14_method_91_code_1 20 rfl rfl rfl) (zd_b zq_prog_14_method_91_code_1 21 rfl rfl rfl) (zd_b zq_prog_14_method_91_code_1 22 rfl rfl rfl) (by decide +kernel)
theorem d_Mm_worst_55 : decode prog_14_method_91_code 55 = .ok (.iconst 1, 1) := zo_4 (zd_b zq_prog_14_method_91_code_1 23 rfl rfl rfl)
theorem d_Mm_worst_56 : decode prog_14_method_91_code 56 = .ok (.goto 4, 3) := zo_167 (d := 0) (e := 4) (zd_b zq_prog_14_method_91_code_1 24 rfl rfl rfl) (zd_b zq_prog_14_method_91_code_1 25 rfl rfl rfl) (zd_b zq_prog_14_method_91_code_1 26 rfl rfl rfl) (by decide +kernel)
theorem d_Mm_worst_60 : decode prog_14_method_91_code 60 = .ok (.iconst 1, 1) := zo_4 (zd_b zq_prog_14_method_91_code_1 28 rfl rfl rfl)
theorem d_Mm_worst_61 : decode prog_14_method_91_code 61 = .ok (.invokevirtual 103, 3) := zo_182 (d := 0) (e := 103) (zd_b zq_prog_14_method_91_code_1 29 rfl rfl rfl) (zd_b zq_prog_14_method_91_code_1 30 rfl rfl rfl) (zd_b zq_prog_14_method_91_code_1 31 rfl rfl rfl)
theorem ok_Mm_worst_Mm_fails : z_ok M_Mm_worst M_Mm_fails 2 := ⟨z_mj7 (i := 196) rfl (by decide +kernel), rfl, ⟨by decide +kernel, by decide +kernel, by decide +kernel⟩, ⟨by decide, by decide⟩, z_mj1 (i := 14) rfl (by decide +kernel), rfl⟩
theorem d_Mm_worst_64 : decode prog_14_method_91_code 64 = .ok (.ifCond .eq 5, 3) := zo_153 (d := 0) (e := 5) (zd_b zq_prog_14_method_91_code_2 0 rfl rfl rfl) (zd_b zq_prog_14_method_91_code_2 1 rfl rfl rfl) (zd_b zq_prog_14_method_91_code_2 2 rfl rfl rfl) (by decide +kernel)
theorem d_Mm_worst_67 : decode prog_14_method_91_code 67 = .ok (.iconst 0, 1) := zo_3 (zd_b zq_prog_14_method_91_code_2 3 rfl rfl rfl)
theorem d_Mm_worst_68 : decode prog_14_method_91_code 68 = .ok (.ireturn, 1) := zo_172 (zd_b zq_prog_14_method_91_code_2 4 rfl rfl rfl)
abbrev M_Mm_delivered : zM := (⟨"IronpourModel", "delivered", "()J"⟩, prog_14_method_92_code, 1, (Option.some FieldType.long), 1, 20, [])
theorem d_Mm_delivered_0 : decode prog_14_method_92_code 0 = .ok (.aload_n 0, 1) := zo_42 (zd_b zq_prog_14_method_92_code_0 0 rfl rfl rfl)
theorem d_Mm_delivered_1 : decode prog_14_method_92_code 1 = .ok (.iconst 0, 1) := zo_3 (zd_b zq_prog_14_method_92_code_0 1 rfl rfl rfl)
theorem d_Mm_delivered_2 : decode prog_14_method_92_code 2 = .ok (.putfield 84, 3) := zo_181 (d := 0) (e := 84) (zd_b zq_prog_14_method_92_code_0 2 rfl rfl rfl) (zd_b zq_prog_14_method_92_code_0 3 rfl rfl rfl) (zd_b zq_prog_14_method_92_code_0 4 rfl rfl rfl)
theorem d_Mm_delivered_5 : decode prog_14_method_92_code 5 = .ok (.aload_n 0, 1) := zo_42 (zd_b zq_prog_14_method_92_code_0 5 rfl rfl rfl)
theorem d_Mm_delivered_6 : decode prog_14_method_92_code 6 = .ok (.getfield 316, 3) := zo_180 (d := 1) (e := 60) (zd_b zq_prog_14_method_92_code_0 6 rfl rfl rfl) (zd_b zq_prog_14_method_92_code_0 7 rfl rfl rfl) (zd_b zq_prog_14_method_92_code_0 8 rfl rfl rfl)
theorem fs_Mm_316 : z_fs "IronpourModel" 316 12 30 := ⟨R_Mm, "IronpourModel", F_Mm, 31, rfl, u_Mm, by decide, Or.inl ⟨z_mj7 (i := 113) rfl (by decide +kernel), Or.inl rfl⟩⟩
theorem d_Mm_delivered_9 : decode prog_14_method_92_code 9 = .ok (.lreturn, 1) := zo_173 (zd_b zq_prog_14_method_92_code_0 9 rfl rfl rfl)
set_option maxHeartbeats 4000000 in
set_option maxRecDepth 100000 in
theorem C_Mm_delivered (g : zG) (m mp mf mh mn mt mz mc_ mq mgr ml mi mr mm mu mk mx : Nat) (th pt cl wa co_ fi bu ho lh mg wd fpi fal : Int32) (po de : Int64) : CT g M_Mm_delivered [.ref m] [(m, .inr (12, [.int th, .ref mp, .int pt, .ref mf, .ref mh, .ref mn, .ref mt, .ref mz, .ref mc_, .ref mq, .ref mgr, .int cl, .int wa, .int co_, .int fi, .int bu, .int ho, .ref ml, .ref mi, .ref mr, .int lh, .int mg, .int wd, .int fpi, .int fal, .ref mm, .ref mu, .ref mk, .ref mx, .long po, .long de]))] (fun o cs1 => o = .inl (some (.long de)) ∧ cs1 = [(m, .inr (12, [.int 0, .ref mp, .int pt, .ref mf, .ref mh, .ref mn, .ref mt, .ref mz, .ref mc_, .ref mq, .ref mgr, .int cl, .int wa, .int co_, .int fi, .int bu, .int ho, .ref ml, .ref mi, .ref mr, .int lh, .int mg, .int wd, .int fpi, .int fal, .ref mm, .ref mu, .ref mk, .ref mx, .long po, .long de]))]) 0 0 := by
  refine z_of (by decide) rfl (Nat.le_of_ble_eq_true rfl) (fun w0 => ?_)
  refine r_lvE (lv2 := [(0, .ref m)]) rfl ?_
  refine r_aload_n d_Mm_delivered_0 rfl 0 rfl ?_
  refine r_iconst d_Mm_delivered_1 (v := 0) (by decide) ?_
  refine r_put fp_Mm_84 d_Mm_delivered_2 (fun h => nomatch h) rfl rfl (q0 := 0) rfl (Nat.le_of_ble_eq_true rfl) (cs' := [(m, .inr (12, [.int 0, .ref mp, .int pt, .ref mf, .ref mh, .ref mn, .ref mt, .ref mz, .ref mc_, .ref mq, .ref mgr, .int cl, .int wa, .int co_, .int fi, .int bu, .int ho, .ref ml, .ref mi, .ref mr, .int lh, .int mg, .int wd, .int fpi, .int fal, .ref mm, .ref mu, .ref mk, .ref mx, .long po, .long de]))]) rfl ?_
  refine r_aload_n d_Mm_delivered_5 rfl 0 rfl ?_
  refine r_get fs_Mm_316 d_Mm_delivered_6 (q0 := 0) rfl rfl ?_
  refine r_lret d_Mm_delivered_9 rfl ?_
  exact ⟨rfl, rfl⟩
abbrev M_Mm_goodShare : zM := (⟨"IronpourModel", "goodShare", "()F"⟩, prog_14_method_93_code, 1, (Option.some FieldType.float), 2, 42, [])
theorem d_Mm_goodShare_0 : decode prog_14_method_93_code 0 = .ok (.aload_n 0, 1) := zo_42 (zd_b zq_prog_14_method_93_code_0 0 rfl rfl rfl)
theorem d_Mm_goodShare_1 : decode prog_14_method_93_code 1 = .ok (.iconst 0, 1) := zo_3 (zd_b zq_prog_14_method_93_code_0 1 rfl rfl rfl)
theorem d_Mm_goodShare_2 : decode prog_14_method_93_code 2 = .ok (.putfield 84, 3) := zo_181 (d := 0) (e := 84) (zd_b zq_prog_14_method_93_code_0 2 rfl rfl rfl) (zd_b zq_prog_14_method_93_code_0 3 rfl rfl rfl) (zd_b zq_prog_14_method_93_code_0 4 rfl rfl rfl)
theorem d_Mm_goodShare_5 : decode prog_14_method_93_code 5 = .ok (.aload_n 0, 1) := zo_42 (zd_b zq_prog_14_method_93_code_0 5 rfl rfl rfl)
theorem d_Mm_goodShare_6 : decode prog_14_method_93_code 6 = .ok (.aload_n 0, 1) := zo_42 (zd_b zq_prog_14_method_93_code_0 6 rfl rfl rfl)
theorem d_Mm_goodShare_7 : decode prog_14_method_93_code 7 = .ok (.getfield 293, 3) := zo_180 (d := 1) (e := 37) (zd_b zq_prog_14_method_93_code_0 7 rfl rfl rfl) (zd_b zq_prog_14_method_93_code_0 8 rfl rfl rfl) (zd_b zq_prog_14_method_93_code_0 9 rfl rfl rfl)
theorem fs_Mm_293 : z_fs "IronpourModel" 293 12 29 := ⟨R_Mm, "IronpourModel", F_Mm, 31, rfl, u_Mm, by decide, Or.inl ⟨z_mj7 (i := 112) rfl (by decide +kernel), Or.inl rfl⟩⟩
theorem d_Mm_goodShare_10 : decode prog_14_method_93_code 10 = .ok (.lconst 0, 1) := zo_9 (zd_b zq_prog_14_method_93_code_0 10 rfl rfl rfl)
theorem d_Mm_goodShare_11 : decode prog_14_method_93_code 11 = .ok (.lcmp, 1) := zo_148 (zd_b zq_prog_14_method_93_code_0 11 rfl rfl rfl)
theorem d_Mm_goodShare_12 : decode prog_14_method_93_code 12 = .ok (.ifCond .ne 7, 3) := zo_154 (d := 0) (e := 7) (zd_b zq_prog_14_method_93_code_0 12 rfl rfl rfl) (zd_b zq_prog_14_method_93_code_0 13 rfl rfl rfl) (zd_b zq_prog_14_method_93_code_0 14 rfl rfl rfl) (by decide +kernel)
theorem d_Mm_goodShare_15 : decode prog_14_method_93_code 15 = .ok (.iconst 1, 1) := zo_4 (zd_b zq_prog_14_method_93_code_0 15 rfl rfl rfl)
theorem d_Mm_goodShare_16 : decode prog_14_method_93_code 16 = .ok (.goto 4, 3) := zo_167 (d := 0) (e := 4) (zd_b zq_prog_14_method_93_code_0 16 rfl rfl rfl) (zd_b zq_prog_14_method_93_code_0 17 rfl rfl rfl) (zd_b zq_prog_14_method_93_code_0 18 rfl rfl rfl) (by decide +kernel)
theorem d_Mm_goodShare_20 : decode prog_14_method_93_code 20 = .ok (.iconst 1, 1) := zo_4 (zd_b zq_prog_14_method_93_code_0 20 rfl rfl rfl)
theorem d_Mm_goodShare_21 : decode prog_14_method_93_code 21 = .ok (.invokevirtual 103, 3) := zo_182 (d := 0) (e := 103) (zd_b zq_prog_14_method_93_code_0 21 rfl rfl rfl) (zd_b zq_prog_14_method_93_code_0 22 rfl rfl rfl) (zd_b zq_prog_14_method_93_code_0 23 rfl rfl rfl)
theorem ok_Mm_goodShare_Mm_fails : z_ok M_Mm_goodShare M_Mm_fails 2 := ⟨z_mj7 (i := 196) rfl (by decide +kernel), rfl, ⟨by decide +kernel, by decide +kernel, by decide +kernel⟩, ⟨by decide, by decide⟩, z_mj1 (i := 14) rfl (by decide +kernel), rfl⟩
theorem d_Mm_goodShare_24 : decode prog_14_method_93_code 24 = .ok (.ifCond .eq 7, 3) := zo_153 (d := 0) (e := 7) (zd_b zq_prog_14_method_93_code_0 24 rfl rfl rfl) (zd_b zq_prog_14_method_93_code_0 25 rfl rfl rfl) (zd_b zq_prog_14_method_93_code_0 26 rfl rfl rfl) (by decide +kernel)
theorem d_Mm_goodShare_27 : decode prog_14_method_93_code 27 = .ok (.fconst 0, 1) := zo_11 (zd_b zq_prog_14_method_93_code_0 27 rfl rfl rfl)
theorem d_Mm_goodShare_28 : decode prog_14_method_93_code 28 = .ok (.goto 14, 3) := zo_167 (d := 0) (e := 14) (zd_b zq_prog_14_method_93_code_0 28 rfl rfl rfl) (zd_b zq_prog_14_method_93_code_0 29 rfl rfl rfl) (zd_b zq_prog_14_method_93_code_0 30 rfl rfl rfl) (by decide +kernel)
theorem d_Mm_goodShare_42 : decode prog_14_method_93_code 42 = .ok (.freturn, 1) := zo_174 (zd_b zq_prog_14_method_93_code_1 10 rfl rfl rfl)
abbrev M_Mm_meanBar : zM := (⟨"IronpourModel", "meanBar", "()D"⟩, prog_14_method_94_code, 3, (Option.some FieldType.double), 6, 130, [])
theorem d_Mm_meanBar_0 : decode prog_14_method_94_code 0 = .ok (.aload_n 0, 1) := zo_42 (zd_b zq_prog_14_method_94_code_0 0 rfl rfl rfl)
theorem d_Mm_meanBar_1 : decode prog_14_method_94_code 1 = .ok (.iconst 0, 1) := zo_3 (zd_b zq_prog_14_method_94_code_0 1 rfl rfl rfl)
theorem d_Mm_meanBar_2 : decode prog_14_method_94_code 2 = .ok (.putfield 84, 3) := zo_181 (d := 0) (e := 84) (zd_b zq_prog_14_method_94_code_0 2 rfl rfl rfl) (zd_b zq_prog_14_method_94_code_0 3 rfl rfl rfl) (zd_b zq_prog_14_method_94_code_0 4 rfl rfl rfl)
theorem d_Mm_meanBar_5 : decode prog_14_method_94_code 5 = .ok (.aload_n 0, 1) := zo_42 (zd_b zq_prog_14_method_94_code_0 5 rfl rfl rfl)
theorem d_Mm_meanBar_6 : decode prog_14_method_94_code 6 = .ok (.aload_n 0, 1) := zo_42 (zd_b zq_prog_14_method_94_code_0 6 rfl rfl rfl)
theorem d_Mm_meanBar_7 : decode prog_14_method_94_code 7 = .ok (.getfield 78, 3) := zo_180 (d := 0) (e := 78) (zd_b zq_prog_14_method_94_code_0 7 rfl rfl rfl) (zd_b zq_prog_14_method_94_code_0 8 rfl rfl rfl) (zd_b zq_prog_14_method_94_code_0 9 rfl rfl rfl)
theorem d_Mm_meanBar_10 : decode prog_14_method_94_code 10 = .ok (.invokevirtual 289, 3) := zo_182 (d := 1) (e := 33) (zd_b zq_prog_14_method_94_code_0 10 rfl rfl rfl) (zd_b zq_prog_14_method_94_code_0 11 rfl rfl rfl) (zd_b zq_prog_14_method_94_code_0 12 rfl rfl rfl)
theorem ok_Mm_meanBar_AL_isEmpty : z_ok M_Mm_meanBar M_AL_isEmpty 0 := ⟨z_mj6 (i := 115) rfl (by decide +kernel), rfl, ⟨by decide +kernel, by decide +kernel, by decide +kernel⟩, ⟨by decide, by decide⟩, z_mj1 (i := 13) rfl (by decide +kernel), rfl⟩
theorem d_Mm_meanBar_13 : decode prog_14_method_94_code 13 = .ok (.iconst 1, 1) := zo_4 (zd_b zq_prog_14_method_94_code_0 13 rfl rfl rfl)
theorem d_Mm_meanBar_14 : decode prog_14_method_94_code 14 = .ok (.invokevirtual 103, 3) := zo_182 (d := 0) (e := 103) (zd_b zq_prog_14_method_94_code_0 14 rfl rfl rfl) (zd_b zq_prog_14_method_94_code_0 15 rfl rfl rfl) (zd_b zq_prog_14_method_94_code_0 16 rfl rfl rfl)
theorem ok_Mm_meanBar_Mm_fails : z_ok M_Mm_meanBar M_Mm_fails 2 := ⟨z_mj7 (i := 196) rfl (by decide +kernel), rfl, ⟨by decide +kernel, by decide +kernel, by decide +kernel⟩, ⟨by decide, by decide⟩, z_mj1 (i := 14) rfl (by decide +kernel), rfl⟩
theorem d_Mm_meanBar_17 : decode prog_14_method_94_code 17 = .ok (.ifCond .eq 5, 3) := zo_153 (d := 0) (e := 5) (zd_b zq_prog_14_method_94_code_0 17 rfl rfl rfl) (zd_b zq_prog_14_method_94_code_0 18 rfl rfl rfl) (zd_b zq_prog_14_method_94_code_0 19 rfl rfl rfl) (by decide +kernel)
theorem d_Mm_meanBar_20 : decode prog_14_method_94_code 20 = .ok (.dconst 0, 1) := zo_14 (zd_b zq_prog_14_method_94_code_0 20 rfl rfl rfl)
theorem d_Mm_meanBar_21 : decode prog_14_method_94_code 21 = .ok (.dreturn, 1) := zo_175 (zd_b zq_prog_14_method_94_code_0 21 rfl rfl rfl)
abbrev M_Mm_isSound : zM := (⟨"IronpourModel", "isSound", "()Z"⟩, prog_14_method_95_code, 1, (Option.some FieldType.boolean), 1, 20, [])
theorem d_Mm_isSound_0 : decode prog_14_method_95_code 0 = .ok (.aload_n 0, 1) := zo_42 (zd_b zq_prog_14_method_95_code_0 0 rfl rfl rfl)
theorem d_Mm_isSound_1 : decode prog_14_method_95_code 1 = .ok (.iconst 0, 1) := zo_3 (zd_b zq_prog_14_method_95_code_0 1 rfl rfl rfl)
theorem d_Mm_isSound_2 : decode prog_14_method_95_code 2 = .ok (.putfield 84, 3) := zo_181 (d := 0) (e := 84) (zd_b zq_prog_14_method_95_code_0 2 rfl rfl rfl) (zd_b zq_prog_14_method_95_code_0 3 rfl rfl rfl) (zd_b zq_prog_14_method_95_code_0 4 rfl rfl rfl)
theorem d_Mm_isSound_5 : decode prog_14_method_95_code 5 = .ok (.iconst 1, 1) := zo_4 (zd_b zq_prog_14_method_95_code_0 5 rfl rfl rfl)
theorem d_Mm_isSound_6 : decode prog_14_method_95_code 6 = .ok (.ireturn, 1) := zo_172 (zd_b zq_prog_14_method_95_code_0 6 rfl rfl rfl)
set_option maxHeartbeats 4000000 in
set_option maxRecDepth 100000 in
theorem C_Mm_isSound (g : zG) (m mp mf mh mn mt mz mc_ mq mgr ml mi mr mm mu mk mx : Nat) (th pt cl wa co_ fi bu ho lh mg wd fpi fal : Int32) (po de : Int64) : CT g M_Mm_isSound [.ref m] [(m, .inr (12, [.int th, .ref mp, .int pt, .ref mf, .ref mh, .ref mn, .ref mt, .ref mz, .ref mc_, .ref mq, .ref mgr, .int cl, .int wa, .int co_, .int fi, .int bu, .int ho, .ref ml, .ref mi, .ref mr, .int lh, .int mg, .int wd, .int fpi, .int fal, .ref mm, .ref mu, .ref mk, .ref mx, .long po, .long de]))] (fun o cs1 => o = .inl (some (.int 1)) ∧ cs1 = [(m, .inr (12, [.int 0, .ref mp, .int pt, .ref mf, .ref mh, .ref mn, .ref mt, .ref mz, .ref mc_, .ref mq, .ref mgr, .int cl, .int wa, .int co_, .int fi, .int bu, .int ho, .ref ml, .ref mi, .ref mr, .int lh, .int mg, .int wd, .int fpi, .int fal, .ref mm, .ref mu, .ref mk, .ref mx, .long po, .long de]))]) 0 0 := by
  refine z_of (by decide) rfl (Nat.le_of_ble_eq_true rfl) (fun w0 => ?_)
  refine r_lvE (lv2 := [(0, .ref m)]) rfl ?_
  refine r_aload_n d_Mm_isSound_0 rfl 0 rfl ?_
  refine r_iconst d_Mm_isSound_1 (v := 0) (by decide) ?_
  refine r_put fp_Mm_84 d_Mm_isSound_2 (fun h => nomatch h) rfl rfl (q0 := 0) rfl (Nat.le_of_ble_eq_true rfl) (cs' := [(m, .inr (12, [.int 0, .ref mp, .int pt, .ref mf, .ref mh, .ref mn, .ref mt, .ref mz, .ref mc_, .ref mq, .ref mgr, .int cl, .int wa, .int co_, .int fi, .int bu, .int ho, .ref ml, .ref mi, .ref mr, .int lh, .int mg, .int wd, .int fpi, .int fal, .ref mm, .ref mu, .ref mk, .ref mx, .long po, .long de]))]) rfl ?_
  refine r_iconst d_Mm_isSound_5 (v := 1) (by decide) ?_
  refine r_iret d_Mm_isSound_6 rfl rfl ?_
  exact ⟨rfl, rfl⟩
abbrev M_Mm_init : zM := (⟨"IronpourModel", "<init>", "()V"⟩, prog_14_method_1_code, 2, (Option.none : Option FieldType), 4, 80, [])
theorem d_Mm_init_182 : decode prog_14_method_1_code 182 = .ok (.iload_n 1, 1) := zo_27 (zd_b zq_prog_14_method_1_code_5 22 rfl rfl rfl)
theorem d_Mm_init_183 : decode prog_14_method_1_code 183 = .ok (.bipush 108, 2) := zo_16 (d := 108) (zd_b zq_prog_14_method_1_code_5 23 rfl rfl rfl) (zd_b zq_prog_14_method_1_code_5 24 rfl rfl rfl) (by decide +kernel)
theorem d_Mm_init_185 : decode prog_14_method_1_code 185 = .ok (.if_icmp .ge 17, 3) := zo_162 (d := 0) (e := 17) (zd_b zq_prog_14_method_1_code_5 25 rfl rfl rfl) (zd_b zq_prog_14_method_1_code_5 26 rfl rfl rfl) (zd_b zq_prog_14_method_1_code_5 27 rfl rfl rfl) (by decide +kernel)
theorem d_Mm_init_202 : decode prog_14_method_1_code 202 = .ok (.return_, 1) := zo_177 (zd_b zq_prog_14_method_1_code_6 10 rfl rfl rfl)
theorem d_Mm_init_188 : decode prog_14_method_1_code 188 = .ok (.aload_n 0, 1) := zo_42 (zd_b zq_prog_14_method_1_code_5 28 rfl rfl rfl)
theorem d_Mm_init_189 : decode prog_14_method_1_code 189 = .ok (.getfield 7, 3) := zo_180 (d := 0) (e := 7) (zd_b zq_prog_14_method_1_code_5 29 rfl rfl rfl) (zd_b zq_prog_14_method_1_code_5 30 rfl rfl rfl) (zd_b zq_prog_14_method_1_code_5 31 rfl rfl rfl)
theorem d_Mm_init_192 : decode prog_14_method_1_code 192 = .ok (.iload_n 1, 1) := zo_27 (zd_b zq_prog_14_method_1_code_6 0 rfl rfl rfl)
theorem d_Mm_init_193 : decode prog_14_method_1_code 193 = .ok (.bipush 46, 2) := zo_16 (d := 46) (zd_b zq_prog_14_method_1_code_6 1 rfl rfl rfl) (zd_b zq_prog_14_method_1_code_6 2 rfl rfl rfl) (by decide +kernel)
theorem d_Mm_init_195 : decode prog_14_method_1_code 195 = .ok (.castore, 1) := zo_85 (zd_b zq_prog_14_method_1_code_6 3 rfl rfl rfl)
theorem d_Mm_init_196 : decode prog_14_method_1_code 196 = .ok (.iinc 1 1, 3) := by decide +kernel
theorem d_Mm_init_199 : decode prog_14_method_1_code 199 = .ok (.goto (-17), 3) := zo_167 (d := 255) (e := 239) (zd_b zq_prog_14_method_1_code_6 7 rfl rfl rfl) (zd_b zq_prog_14_method_1_code_6 8 rfl rfl rfl) (zd_b zq_prog_14_method_1_code_6 9 rfl rfl rfl) (by decide +kernel)
theorem d_Mm_init_0 : decode prog_14_method_1_code 0 = .ok (.aload_n 0, 1) := zo_42 (zd_b zq_prog_14_method_1_code_0 0 rfl rfl rfl)
theorem d_Mm_init_1 : decode prog_14_method_1_code 1 = .ok (.invokespecial 1, 3) := zo_183 (d := 0) (e := 1) (zd_b zq_prog_14_method_1_code_0 1 rfl rfl rfl) (zd_b zq_prog_14_method_1_code_0 2 rfl rfl rfl) (zd_b zq_prog_14_method_1_code_0 3 rfl rfl rfl)
theorem ln_Mm_1 : Cond.methodLink "IronpourModel" 1 Lib.objectInit ∈ z_gw := z_mj7 (i := 80) rfl (by decide +kernel)
theorem d_Mm_init_4 : decode prog_14_method_1_code 4 = .ok (.aload_n 0, 1) := zo_42 (zd_b zq_prog_14_method_1_code_0 4 rfl rfl rfl)
theorem d_Mm_init_5 : decode prog_14_method_1_code 5 = .ok (.bipush 108, 2) := zo_16 (d := 108) (zd_b zq_prog_14_method_1_code_0 5 rfl rfl rfl) (zd_b zq_prog_14_method_1_code_0 6 rfl rfl rfl) (by decide +kernel)
