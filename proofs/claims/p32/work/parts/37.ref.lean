theorem C_Mm_tenths112 (g : zG) (e : Nat) (he : e < 4) : CT g M_Mm_tenths [.int 112, .int (nI e)] [] (fun o cs1 => o = .inl (some (.int ((z_sv 0).getD e 0))) ∧ cs1 = []) 0 0 := by
  rcases (show e = 0 ∨ e = 1 ∨ e = 2 ∨ e = 3 by omega) with rfl | rfl | rfl | rfl
  · exact C_Mm_tenths112_0 g
  · exact C_Mm_tenths112_1 g
  · exact C_Mm_tenths112_2 g
  · exact C_Mm_tenths112_3 g
theorem C_Mm_tenths115 (g : zG) (e : Nat) (he : e < 4) : CT g M_Mm_tenths [.int 115, .int (nI e)] [] (fun o cs1 => o = .inl (some (.int ((z_sv 1).getD e 0))) ∧ cs1 = []) 0 0 := by
  rcases (show e = 0 ∨ e = 1 ∨ e = 2 ∨ e = 3 by omega) with rfl | rfl | rfl | rfl
  · exact C_Mm_tenths115_0 g
  · exact C_Mm_tenths115_1 g
  · exact C_Mm_tenths115_2 g
  · exact C_Mm_tenths115_3 g
theorem C_Mm_tenths102 (g : zG) (e : Nat) (he : e < 4) : CT g M_Mm_tenths [.int 102, .int (nI e)] [] (fun o cs1 => o = .inl (some (.int ((z_sv 2).getD e 0))) ∧ cs1 = []) 0 0 := by
  rcases (show e = 0 ∨ e = 1 ∨ e = 2 ∨ e = 3 by omega) with rfl | rfl | rfl | rfl
  · exact C_Mm_tenths102_0 g
  · exact C_Mm_tenths102_1 g
  · exact C_Mm_tenths102_2 g
  · exact C_Mm_tenths102_3 g
theorem C_Mm_tenths107 (g : zG) (e : Nat) (he : e < 4) : CT g M_Mm_tenths [.int 107, .int (nI e)] [] (fun o cs1 => o = .inl (some (.int ((z_sv 3).getD e 0))) ∧ cs1 = []) 0 0 := by
  rcases (show e = 0 ∨ e = 1 ∨ e = 2 ∨ e = 3 by omega) with rfl | rfl | rfl | rfl
  · exact C_Mm_tenths107_0 g
  · exact C_Mm_tenths107_1 g
  · exact C_Mm_tenths107_2 g
  · exact C_Mm_tenths107_3 g

abbrev M_Mm_charge : zM := (⟨"IronpourModel", "charge", "(CI)I"⟩, prog_14_method_58_code, 5, (Option.some FieldType.int), 8, 179, [])
theorem d_Mm_charge_0 : decode prog_14_method_58_code 0 = .ok (.aload_n 0, 1) := zo_42 (zd_b zq_prog_14_method_58_code_0 0 rfl rfl rfl)
theorem d_Mm_charge_1 : decode prog_14_method_58_code 1 = .ok (.iconst 0, 1) := zo_3 (zd_b zq_prog_14_method_58_code_0 1 rfl rfl rfl)
theorem d_Mm_charge_2 : decode prog_14_method_58_code 2 = .ok (.putfield 84, 3) := zo_181 (d := 0) (e := 84) (zd_b zq_prog_14_method_58_code_0 2 rfl rfl rfl) (zd_b zq_prog_14_method_58_code_0 3 rfl rfl rfl) (zd_b zq_prog_14_method_58_code_0 4 rfl rfl rfl)
theorem d_Mm_charge_5 : decode prog_14_method_58_code 5 = .ok (.iload_n 1, 1) := zo_27 (zd_b zq_prog_14_method_58_code_0 5 rfl rfl rfl)
theorem d_Mm_charge_6 : decode prog_14_method_58_code 6 = .ok (.bipush 103, 2) := zo_16 (d := 103) (zd_b zq_prog_14_method_58_code_0 6 rfl rfl rfl) (zd_b zq_prog_14_method_58_code_0 7 rfl rfl rfl) (by decide +kernel)
theorem d_Mm_charge_8 : decode prog_14_method_58_code 8 = .ok (.if_icmp .ne 7, 3) := zo_160 (d := 0) (e := 7) (zd_b zq_prog_14_method_58_code_0 8 rfl rfl rfl) (zd_b zq_prog_14_method_58_code_0 9 rfl rfl rfl) (zd_b zq_prog_14_method_58_code_0 10 rfl rfl rfl) (by decide +kernel)
theorem d_Mm_charge_15 : decode prog_14_method_58_code 15 = .ok (.iload_n 1, 1) := zo_27 (zd_b zq_prog_14_method_58_code_0 15 rfl rfl rfl)
theorem d_Mm_charge_16 : decode prog_14_method_58_code 16 = .ok (.bipush 100, 2) := zo_16 (d := 100) (zd_b zq_prog_14_method_58_code_0 16 rfl rfl rfl) (zd_b zq_prog_14_method_58_code_0 17 rfl rfl rfl) (by decide +kernel)
theorem d_Mm_charge_18 : decode prog_14_method_58_code 18 = .ok (.if_icmp .ne 7, 3) := zo_160 (d := 0) (e := 7) (zd_b zq_prog_14_method_58_code_0 18 rfl rfl rfl) (zd_b zq_prog_14_method_58_code_0 19 rfl rfl rfl) (zd_b zq_prog_14_method_58_code_0 20 rfl rfl rfl) (by decide +kernel)
theorem d_Mm_charge_25 : decode prog_14_method_58_code 25 = .ok (.iconst (-1), 1) := zo_2 (zd_b zq_prog_14_method_58_code_0 25 rfl rfl rfl)
theorem d_Mm_charge_26 : decode prog_14_method_58_code 26 = .ok (.istore_n 3, 1) := zo_62 (zd_b zq_prog_14_method_58_code_0 26 rfl rfl rfl)
theorem d_Mm_charge_27 : decode prog_14_method_58_code 27 = .ok (.aload_n 0, 1) := zo_42 (zd_b zq_prog_14_method_58_code_0 27 rfl rfl rfl)
theorem d_Mm_charge_28 : decode prog_14_method_58_code 28 = .ok (.ldc 234, 2) := zo_18 (d := 234) (zd_b zq_prog_14_method_58_code_0 28 rfl rfl rfl) (zd_b zq_prog_14_method_58_code_0 29 rfl rfl rfl)
theorem d_Mm_charge_30 : decode prog_14_method_58_code 30 = .ok (.iload_n 1, 1) := zo_27 (zd_b zq_prog_14_method_58_code_0 30 rfl rfl rfl)
theorem d_Mm_charge_31 : decode prog_14_method_58_code 31 = .ok (.invokevirtual 97, 3) := zo_182 (d := 0) (e := 97) (zd_b zq_prog_14_method_58_code_0 31 rfl rfl rfl) (zd_b zq_prog_14_method_58_code_1 0 rfl rfl rfl) (zd_b zq_prog_14_method_58_code_1 1 rfl rfl rfl)
theorem ok_Mm_charge_String_indexOf_0 : z_ok M_Mm_charge M_String_indexOf_0 1 := ⟨z_mj3 (i := 58) rfl (by decide +kernel), rfl, ⟨by decide +kernel, by decide +kernel, by decide +kernel⟩, ⟨by decide, by decide⟩, z_mj1 (i := 15) rfl (by decide +kernel), rfl⟩
theorem d_Mm_charge_34 : decode prog_14_method_58_code 34 = .ok (.ifCond .lt 14, 3) := zo_155 (d := 0) (e := 14) (zd_b zq_prog_14_method_58_code_1 2 rfl rfl rfl) (zd_b zq_prog_14_method_58_code_1 3 rfl rfl rfl) (zd_b zq_prog_14_method_58_code_1 4 rfl rfl rfl) (by decide +kernel)
theorem d_Mm_charge_48 : decode prog_14_method_58_code 48 = .ok (.iconst 1, 1) := zo_4 (zd_b zq_prog_14_method_58_code_1 16 rfl rfl rfl)
theorem d_Mm_charge_49 : decode prog_14_method_58_code 49 = .ok (.goto 4, 3) := zo_167 (d := 0) (e := 4) (zd_b zq_prog_14_method_58_code_1 17 rfl rfl rfl) (zd_b zq_prog_14_method_58_code_1 18 rfl rfl rfl) (zd_b zq_prog_14_method_58_code_1 19 rfl rfl rfl) (by decide +kernel)
theorem d_Mm_charge_53 : decode prog_14_method_58_code 53 = .ok (.iconst 1, 1) := zo_4 (zd_b zq_prog_14_method_58_code_1 21 rfl rfl rfl)
theorem d_Mm_charge_54 : decode prog_14_method_58_code 54 = .ok (.invokevirtual 103, 3) := zo_182 (d := 0) (e := 103) (zd_b zq_prog_14_method_58_code_1 22 rfl rfl rfl) (zd_b zq_prog_14_method_58_code_1 23 rfl rfl rfl) (zd_b zq_prog_14_method_58_code_1 24 rfl rfl rfl)
theorem ok_Mm_charge_Mm_fails : z_ok M_Mm_charge M_Mm_fails 2 := ⟨z_mj7 (i := 196) rfl (by decide +kernel), rfl, ⟨by decide +kernel, by decide +kernel, by decide +kernel⟩, ⟨by decide, by decide⟩, z_mj1 (i := 14) rfl (by decide +kernel), rfl⟩
theorem d_Mm_charge_57 : decode prog_14_method_58_code 57 = .ok (.ifCond .ne 31, 3) := zo_154 (d := 0) (e := 31) (zd_b zq_prog_14_method_58_code_1 25 rfl rfl rfl) (zd_b zq_prog_14_method_58_code_1 26 rfl rfl rfl) (zd_b zq_prog_14_method_58_code_1 27 rfl rfl rfl) (by decide +kernel)
theorem d_Mm_charge_88 : decode prog_14_method_58_code 88 = .ok (.iconst 0, 1) := zo_3 (zd_b zq_prog_14_method_58_code_2 24 rfl rfl rfl)
theorem d_Mm_charge_89 : decode prog_14_method_58_code 89 = .ok (.ireturn, 1) := zo_172 (zd_b zq_prog_14_method_58_code_2 25 rfl rfl rfl)
theorem d_Mm_charge_37 : decode prog_14_method_58_code 37 = .ok (.iload_n 2, 1) := zo_28 (zd_b zq_prog_14_method_58_code_1 5 rfl rfl rfl)
theorem d_Mm_charge_38 : decode prog_14_method_58_code 38 = .ok (.iconst 1, 1) := zo_4 (zd_b zq_prog_14_method_58_code_1 6 rfl rfl rfl)
theorem d_Mm_charge_39 : decode prog_14_method_58_code 39 = .ok (.sipush 1000, 3) := zo_17 (d := 3) (e := 232) (zd_b zq_prog_14_method_58_code_1 7 rfl rfl rfl) (zd_b zq_prog_14_method_58_code_1 8 rfl rfl rfl) (zd_b zq_prog_14_method_58_code_1 9 rfl rfl rfl) (by decide +kernel)
theorem d_Mm_charge_42 : decode prog_14_method_58_code 42 = .ok (.invokestatic 87, 3) := zo_184 (d := 0) (e := 87) (zd_b zq_prog_14_method_58_code_1 10 rfl rfl rfl) (zd_b zq_prog_14_method_58_code_1 11 rfl rfl rfl) (zd_b zq_prog_14_method_58_code_1 12 rfl rfl rfl)
theorem ok_Mm_charge_Mm_in : z_ok M_Mm_charge M_Mm_in 3 := ⟨z_mj7 (i := 190) rfl (by decide +kernel), rfl, ⟨by decide +kernel, by decide +kernel, by decide +kernel⟩, ⟨by decide, by decide⟩, z_mj1 (i := 14) rfl (by decide +kernel), rfl⟩
theorem d_Mm_charge_45 : decode prog_14_method_58_code 45 = .ok (.ifCond .ne 7, 3) := zo_154 (d := 0) (e := 7) (zd_b zq_prog_14_method_58_code_1 13 rfl rfl rfl) (zd_b zq_prog_14_method_58_code_1 14 rfl rfl rfl) (zd_b zq_prog_14_method_58_code_1 15 rfl rfl rfl) (by decide +kernel)
theorem d_Mm_charge_21 : decode prog_14_method_58_code 21 = .ok (.iconst 3, 1) := zo_6 (zd_b zq_prog_14_method_58_code_0 21 rfl rfl rfl)
theorem d_Mm_charge_22 : decode prog_14_method_58_code 22 = .ok (.goto 4, 3) := zo_167 (d := 0) (e := 4) (zd_b zq_prog_14_method_58_code_0 22 rfl rfl rfl) (zd_b zq_prog_14_method_58_code_0 23 rfl rfl rfl) (zd_b zq_prog_14_method_58_code_0 24 rfl rfl rfl) (by decide +kernel)
theorem d_Mm_charge_11 : decode prog_14_method_58_code 11 = .ok (.iconst 2, 1) := zo_5 (zd_b zq_prog_14_method_58_code_0 11 rfl rfl rfl)
theorem d_Mm_charge_12 : decode prog_14_method_58_code 12 = .ok (.goto 14, 3) := zo_167 (d := 0) (e := 14) (zd_b zq_prog_14_method_58_code_0 12 rfl rfl rfl) (zd_b zq_prog_14_method_58_code_0 13 rfl rfl rfl) (zd_b zq_prog_14_method_58_code_0 14 rfl rfl rfl) (by decide +kernel)
set_option maxHeartbeats 4000000 in
set_option maxRecDepth 100000 in
theorem C_Mm_chargeE (g : zG) (m mp mf mh mn mt mz mc_ mq mgr ml mi mr mm mu mk mx : Nat) (th pt cl wa co_ fi bu ho lh mg wd fpi fal : Int32) (po de : Int64) (k m1 : Int32) (hw : ¬ (0 ≤ z_ix 1 k ∧ (1 ≤ m1 ∧ m1 ≤ 1000))) : CT g M_Mm_charge [.ref m, .int k, .int m1] [(m, .inr (12, [.int th, .ref mp, .int pt, .ref mf, .ref mh, .ref mn, .ref mt, .ref mz, .ref mc_, .ref mq, .ref mgr, .int cl, .int wa, .int co_, .int fi, .int bu, .int ho, .ref ml, .ref mi, .ref mr, .int lh, .int mg, .int wd, .int fpi, .int fal, .ref mm, .ref mu, .ref mk, .ref mx, .long po, .long de]))] (fun o cs1 => o = .inl (some (.int 0)) ∧ cs1 = [(m, .inr (12, [.int 1, .ref mp, .int pt, .ref mf, .ref mh, .ref mn, .ref mt, .ref mz, .ref mc_, .ref mq, .ref mgr, .int cl, .int wa, .int co_, .int fi, .int bu, .int ho, .ref ml, .ref mi, .ref mr, .int lh, .int mg, .int wd, .int fpi, .int fal, .ref mm, .ref mu, .ref mk, .ref mx, .long po, .long de]))]) 0 0 := by
  refine z_of (by decide) rfl (Nat.le_of_ble_eq_true rfl) (fun w0 => ?_)
  refine r_lvE (lv2 := [(0, .ref m), (1, .int k), (2, .int m1)]) rfl ?_
  refine r_aload_n d_Mm_charge_0 rfl 0 rfl ?_
  refine r_iconst d_Mm_charge_1 (v := 0) (by decide) ?_
  refine r_put fp_Mm_84 d_Mm_charge_2 (fun h => nomatch h) rfl rfl (q0 := 0) rfl (Nat.le_of_ble_eq_true rfl) (cs' := [(m, .inr (12, [.int 0, .ref mp, .int pt, .ref mf, .ref mh, .ref mn, .ref mt, .ref mz, .ref mc_, .ref mq, .ref mgr, .int cl, .int wa, .int co_, .int fi, .int bu, .int ho, .ref ml, .ref mi, .ref mr, .int lh, .int mg, .int wd, .int fpi, .int fal, .ref mm, .ref mu, .ref mk, .ref mx, .long po, .long de]))]) rfl ?_
  refine r_iload_n d_Mm_charge_5 rfl 1 rfl ?_
  refine r_bipush d_Mm_charge_6 (v := 103) (by decide) ?_
  refine r_icmp_ne (tgt := 15) d_Mm_charge_8 (by decide) (fun c_8 => ?_) (fun c_8 => ?_)
  · refine r_iload_n d_Mm_charge_15 rfl 1 rfl ?_
    refine r_bipush d_Mm_charge_16 (v := 100) (by decide) ?_
    refine r_icmp_ne (tgt := 25) d_Mm_charge_18 (by decide) (fun c_18 => ?_) (fun c_18 => ?_)
    · refine r_iconst d_Mm_charge_25 (v := (-1)) (by decide) ?_
      refine r_istore_n (lv' := [(3, .int (-1)), (0, .ref m), (1, .int k), (2, .int m1)]) d_Mm_charge_26 rfl (by decide) rfl ?_
      refine r_aload_n d_Mm_charge_27 rfl 1 rfl ?_
      refine r_ldcS (own := "IronpourModel") (i := 1) (by decide) d_Mm_charge_28 ?_
      refine r_iload_n d_Mm_charge_30 rfl 2 rfl ?_
      refine r_callVS (As := [.int k]) (rest := [.ref m]) (csC := []) (is := []) (i := 1) (by first | assumption | decide) rfl ln_Mm_97 w_im_String_indexOf_0 w_se_String_indexOf_0 ok_Mm_charge_String_indexOf_0 d_Mm_charge_31 (C_St_indexOf g 1 (by decide) k) rfl rfl (Nat.le_of_ble_eq_true rfl) rfl (by decide) (by omega) (by omega) (fun E cs1 hx => ?_) (fun v cs1 hx => ?_)
      · exact absurd hx.1 (by simp)
      · obtain ⟨e1, rfl⟩ := hx
        cases e1
        refine ⟨rfl, ?_⟩
        refine r_st (st2 := [.int (z_ix 1 k), .ref m]) rfl ?_
        refine r_cs (cs2 := [(m, .inr (12, [.int 0, .ref mp, .int pt, .ref mf, .ref mh, .ref mn, .ref mt, .ref mz, .ref mc_, .ref mq, .ref mgr, .int cl, .int wa, .int co_, .int fi, .int bu, .int ho, .ref ml, .ref mi, .ref mr, .int lh, .int mg, .int wd, .int fpi, .int fal, .ref mm, .ref mu, .ref mk, .ref mx, .long po, .long de]))]) rfl ?_
        refine r_if_lt (tgt := 48) d_Mm_charge_34 (by decide) (fun c_34 => ?_) (fun c_34 => ?_)
        · refine r_iconst d_Mm_charge_48 (v := 1) (by decide) ?_
          refine r_goto (tgt := 53) d_Mm_charge_49 (by decide) ?_
          refine r_iconst d_Mm_charge_53 (v := 1) (by decide) ?_
          refine r_callV (As := [.int 1, .int 1]) (rest := []) (csC := [(m, .inr (12, [.int 0, .ref mp, .int pt, .ref mf, .ref mh, .ref mn, .ref mt, .ref mz, .ref mc_, .ref mq, .ref mgr, .int cl, .int wa, .int co_, .int fi, .int bu, .int ho, .ref ml, .ref mi, .ref mr, .int lh, .int mg, .int wd, .int fpi, .int fal, .ref mm, .ref mu, .ref mk, .ref mx, .long po, .long de]))]) (is := [0]) (q0 := 0) rfl rfl ln_Mm_103 w_im_Mm_fails w_se_Mm_fails ok_Mm_charge_Mm_fails d_Mm_charge_54 (C_Mm_fails1 g m mp mf mh mn mt mz mc_ mq mgr ml mi mr mm mu mk mx th pt cl wa co_ fi bu ho lh mg wd fpi fal po de) rfl rfl (Nat.le_of_ble_eq_true rfl) rfl (by decide) (by omega) (by omega) (fun E cs1 hx => ?_) (fun v cs1 hx => ?_)
          · exact absurd hx.1 (by simp)
          · obtain ⟨e1, rfl⟩ := hx
            cases e1
            refine ⟨rfl, ?_⟩
            refine r_st (st2 := [.int 1]) rfl ?_
            refine r_cs (cs2 := [(m, .inr (12, [.int 1, .ref mp, .int pt, .ref mf, .ref mh, .ref mn, .ref mt, .ref mz, .ref mc_, .ref mq, .ref mgr, .int cl, .int wa, .int co_, .int fi, .int bu, .int ho, .ref ml, .ref mi, .ref mr, .int lh, .int mg, .int wd, .int fpi, .int fal, .ref mm, .ref mu, .ref mk, .ref mx, .long po, .long de]))]) rfl ?_
            refine r_if_ne (tgt := 88) d_Mm_charge_57 (by decide) (fun c_57 => ?_) (fun c_57 => ?_)
            · refine r_iconst d_Mm_charge_88 (v := 0) (by decide) ?_
              refine r_iret d_Mm_charge_89 rfl rfl ?_
              exact ⟨rfl, rfl⟩
            · exact absurd c_57 (by decide)
        · refine r_iload_n d_Mm_charge_37 rfl 3 rfl ?_
          refine r_iconst d_Mm_charge_38 (v := 1) (by decide) ?_
          refine r_sipush d_Mm_charge_39 (v := 1000) (by decide) ?_
          refine r_callS (As := [.int m1, .int 1, .int 1000]) (rest := [.ref m]) (csC := []) (is := []) ln_Mm_87 w_st_Mm_in ok_Mm_charge_Mm_in d_Mm_charge_42 (C_Mm_in g m1 1 1000) rfl rfl (Nat.le_of_ble_eq_true rfl) rfl (by decide) (by omega) (by omega) (fun E cs1 hx => ?_) (fun v cs1 hx => ?_)
          · exact absurd hx.1 (by simp)
          · obtain ⟨e1, rfl⟩ := hx
            cases e1
            refine ⟨rfl, ?_⟩
            refine r_st (st2 := [.int (if 1 ≤ m1 ∧ m1 ≤ 1000 then 1 else 0), .ref m]) rfl ?_
            refine r_cs (cs2 := [(m, .inr (12, [.int 0, .ref mp, .int pt, .ref mf, .ref mh, .ref mn, .ref mt, .ref mz, .ref mc_, .ref mq, .ref mgr, .int cl, .int wa, .int co_, .int fi, .int bu, .int ho, .ref ml, .ref mi, .ref mr, .int lh, .int mg, .int wd, .int fpi, .int fal, .ref mm, .ref mu, .ref mk, .ref mx, .long po, .long de]))]) rfl ?_
            refine r_if_ne (tgt := 52) d_Mm_charge_45 (by decide) (fun c_45 => ?_) (fun c_45 => ?_)
            · exact absurd ⟨Int32.not_lt.mp c_34, z_b1 c_45⟩ hw
            · refine r_iconst d_Mm_charge_48 (v := 1) (by decide) ?_
              refine r_goto (tgt := 53) d_Mm_charge_49 (by decide) ?_
              refine r_iconst d_Mm_charge_53 (v := 1) (by decide) ?_
              refine r_callV (As := [.int 1, .int 1]) (rest := []) (csC := [(m, .inr (12, [.int 0, .ref mp, .int pt, .ref mf, .ref mh, .ref mn, .ref mt, .ref mz, .ref mc_, .ref mq, .ref mgr, .int cl, .int wa, .int co_, .int fi, .int bu, .int ho, .ref ml, .ref mi, .ref mr, .int lh, .int mg, .int wd, .int fpi, .int fal, .ref mm, .ref mu, .ref mk, .ref mx, .long po, .long de]))]) (is := [0]) (q0 := 0) rfl rfl ln_Mm_103 w_im_Mm_fails w_se_Mm_fails ok_Mm_charge_Mm_fails d_Mm_charge_54 (C_Mm_fails1 g m mp mf mh mn mt mz mc_ mq mgr ml mi mr mm mu mk mx th pt cl wa co_ fi bu ho lh mg wd fpi fal po de) rfl rfl (Nat.le_of_ble_eq_true rfl) rfl (by decide) (by omega) (by omega) (fun E cs1 hx => ?_) (fun v cs1 hx => ?_)
              · exact absurd hx.1 (by simp)
              · obtain ⟨e1, rfl⟩ := hx
                cases e1
                refine ⟨rfl, ?_⟩
                refine r_st (st2 := [.int 1]) rfl ?_
                refine r_cs (cs2 := [(m, .inr (12, [.int 1, .ref mp, .int pt, .ref mf, .ref mh, .ref mn, .ref mt, .ref mz, .ref mc_, .ref mq, .ref mgr, .int cl, .int wa, .int co_, .int fi, .int bu, .int ho, .ref ml, .ref mi, .ref mr, .int lh, .int mg, .int wd, .int fpi, .int fal, .ref mm, .ref mu, .ref mk, .ref mx, .long po, .long de]))]) rfl ?_
                refine r_if_ne (tgt := 88) d_Mm_charge_57 (by decide) (fun c_57 => ?_) (fun c_57 => ?_)
                · refine r_iconst d_Mm_charge_88 (v := 0) (by decide) ?_
                  refine r_iret d_Mm_charge_89 rfl rfl ?_
                  exact ⟨rfl, rfl⟩
                · exact absurd c_57 (by decide)
    · refine r_iconst d_Mm_charge_21 (v := 3) (by decide) ?_
      refine r_goto (tgt := 26) d_Mm_charge_22 (by decide) ?_
      refine r_istore_n (lv' := [(3, .int 3), (0, .ref m), (1, .int k), (2, .int m1)]) d_Mm_charge_26 rfl (by decide) rfl ?_
      refine r_aload_n d_Mm_charge_27 rfl 1 rfl ?_
      refine r_ldcS (own := "IronpourModel") (i := 1) (by decide) d_Mm_charge_28 ?_
      refine r_iload_n d_Mm_charge_30 rfl 2 rfl ?_
      refine r_callVS (As := [.int k]) (rest := [.ref m]) (csC := []) (is := []) (i := 1) (by first | assumption | decide) rfl ln_Mm_97 w_im_String_indexOf_0 w_se_String_indexOf_0 ok_Mm_charge_String_indexOf_0 d_Mm_charge_31 (C_St_indexOf g 1 (by decide) k) rfl rfl (Nat.le_of_ble_eq_true rfl) rfl (by decide) (by omega) (by omega) (fun E cs1 hx => ?_) (fun v cs1 hx => ?_)
      · exact absurd hx.1 (by simp)
      · obtain ⟨e1, rfl⟩ := hx
        cases e1
        refine ⟨rfl, ?_⟩
        refine r_st (st2 := [.int (z_ix 1 k), .ref m]) rfl ?_
        refine r_cs (cs2 := [(m, .inr (12, [.int 0, .ref mp, .int pt, .ref mf, .ref mh, .ref mn, .ref mt, .ref mz, .ref mc_, .ref mq, .ref mgr, .int cl, .int wa, .int co_, .int fi, .int bu, .int ho, .ref ml, .ref mi, .ref mr, .int lh, .int mg, .int wd, .int fpi, .int fal, .ref mm, .ref mu, .ref mk, .ref mx, .long po, .long de]))]) rfl ?_
        refine r_if_lt (tgt := 48) d_Mm_charge_34 (by decide) (fun c_34 => ?_) (fun c_34 => ?_)
        · refine r_iconst d_Mm_charge_48 (v := 1) (by decide) ?_
          refine r_goto (tgt := 53) d_Mm_charge_49 (by decide) ?_
          refine r_iconst d_Mm_charge_53 (v := 1) (by decide) ?_
          refine r_callV (As := [.int 1, .int 1]) (rest := []) (csC := [(m, .inr (12, [.int 0, .ref mp, .int pt, .ref mf, .ref mh, .ref mn, .ref mt, .ref mz, .ref mc_, .ref mq, .ref mgr, .int cl, .int wa, .int co_, .int fi, .int bu, .int ho, .ref ml, .ref mi, .ref mr, .int lh, .int mg, .int wd, .int fpi, .int fal, .ref mm, .ref mu, .ref mk, .ref mx, .long po, .long de]))]) (is := [0]) (q0 := 0) rfl rfl ln_Mm_103 w_im_Mm_fails w_se_Mm_fails ok_Mm_charge_Mm_fails d_Mm_charge_54 (C_Mm_fails1 g m mp mf mh mn mt mz mc_ mq mgr ml mi mr mm mu mk mx th pt cl wa co_ fi bu ho lh mg wd fpi fal po de) rfl rfl (Nat.le_of_ble_eq_true rfl) rfl (by decide) (by omega) (by omega) (fun E cs1 hx => ?_) (fun v cs1 hx => ?_)
          · exact absurd hx.1 (by simp)
          · obtain ⟨e1, rfl⟩ := hx
            cases e1
            refine ⟨rfl, ?_⟩
            refine r_st (st2 := [.int 1]) rfl ?_
            refine r_cs (cs2 := [(m, .inr (12, [.int 1, .ref mp, .int pt, .ref mf, .ref mh, .ref mn, .ref mt, .ref mz, .ref mc_, .ref mq, .ref mgr, .int cl, .int wa, .int co_, .int fi, .int bu, .int ho, .ref ml, .ref mi, .ref mr, .int lh, .int mg, .int wd, .int fpi, .int fal, .ref mm, .ref mu, .ref mk, .ref mx, .long po, .long de]))]) rfl ?_
            refine r_if_ne (tgt := 88) d_Mm_charge_57 (by decide) (fun c_57 => ?_) (fun c_57 => ?_)
            · refine r_iconst d_Mm_charge_88 (v := 0) (by decide) ?_
              refine r_iret d_Mm_charge_89 rfl rfl ?_
              exact ⟨rfl, rfl⟩
            · exact absurd c_57 (by decide)
        · refine r_iload_n d_Mm_charge_37 rfl 3 rfl ?_
          refine r_iconst d_Mm_charge_38 (v := 1) (by decide) ?_
          refine r_sipush d_Mm_charge_39 (v := 1000) (by decide) ?_
          refine r_callS (As := [.int m1, .int 1, .int 1000]) (rest := [.ref m]) (csC := []) (is := []) ln_Mm_87 w_st_Mm_in ok_Mm_charge_Mm_in d_Mm_charge_42 (C_Mm_in g m1 1 1000) rfl rfl (Nat.le_of_ble_eq_true rfl) rfl (by decide) (by omega) (by omega) (fun E cs1 hx => ?_) (fun v cs1 hx => ?_)
          · exact absurd hx.1 (by simp)
          · obtain ⟨e1, rfl⟩ := hx
            cases e1
            refine ⟨rfl, ?_⟩
            refine r_st (st2 := [.int (if 1 ≤ m1 ∧ m1 ≤ 1000 then 1 else 0), .ref m]) rfl ?_
            refine r_cs (cs2 := [(m, .inr (12, [.int 0, .ref mp, .int pt, .ref mf, .ref mh, .ref mn, .ref mt, .ref mz, .ref mc_, .ref mq, .ref mgr, .int cl, .int wa, .int co_, .int fi, .int bu, .int ho, .ref ml, .ref mi, .ref mr, .int lh, .int mg, .int wd, .int fpi, .int fal, .ref mm, .ref mu, .ref mk, .ref mx, .long po, .long de]))]) rfl ?_
            refine r_if_ne (tgt := 52) d_Mm_charge_45 (by decide) (fun c_45 => ?_) (fun c_45 => ?_)
            · exact absurd ⟨Int32.not_lt.mp c_34, z_b1 c_45⟩ hw
            · refine r_iconst d_Mm_charge_48 (v := 1) (by decide) ?_
              refine r_goto (tgt := 53) d_Mm_charge_49 (by decide) ?_
              refine r_iconst d_Mm_charge_53 (v := 1) (by decide) ?_
              refine r_callV (As := [.int 1, .int 1]) (rest := []) (csC := [(m, .inr (12, [.int 0, .ref mp, .int pt, .ref mf, .ref mh, .ref mn, .ref mt, .ref mz, .ref mc_, .ref mq, .ref mgr, .int cl, .int wa, .int co_, .int fi, .int bu, .int ho, .ref ml, .ref mi, .ref mr, .int lh, .int mg, .int wd, .int fpi, .int fal, .ref mm, .ref mu, .ref mk, .ref mx, .long po, .long de]))]) (is := [0]) (q0 := 0) rfl rfl ln_Mm_103 w_im_Mm_fails w_se_Mm_fails ok_Mm_charge_Mm_fails d_Mm_charge_54 (C_Mm_fails1 g m mp mf mh mn mt mz mc_ mq mgr ml mi mr mm mu mk mx th pt cl wa co_ fi bu ho lh mg wd fpi fal po de) rfl rfl (Nat.le_of_ble_eq_true rfl) rfl (by decide) (by omega) (by omega) (fun E cs1 hx => ?_) (fun v cs1 hx => ?_)
              · exact absurd hx.1 (by simp)
              · obtain ⟨e1, rfl⟩ := hx
                cases e1
                refine ⟨rfl, ?_⟩
                refine r_st (st2 := [.int 1]) rfl ?_
                refine r_cs (cs2 := [(m, .inr (12, [.int 1, .ref mp, .int pt, .ref mf, .ref mh, .ref mn, .ref mt, .ref mz, .ref mc_, .ref mq, .ref mgr, .int cl, .int wa, .int co_, .int fi, .int bu, .int ho, .ref ml, .ref mi, .ref mr, .int lh, .int mg, .int wd, .int fpi, .int fal, .ref mm, .ref mu, .ref mk, .ref mx, .long po, .long de]))]) rfl ?_
                refine r_if_ne (tgt := 88) d_Mm_charge_57 (by decide) (fun c_57 => ?_) (fun c_57 => ?_)
                · refine r_iconst d_Mm_charge_88 (v := 0) (by decide) ?_
                  refine r_iret d_Mm_charge_89 rfl rfl ?_
                  exact ⟨rfl, rfl⟩
                · exact absurd c_57 (by decide)
  · refine r_iconst d_Mm_charge_11 (v := 2) (by decide) ?_
    refine r_goto (tgt := 26) d_Mm_charge_12 (by decide) ?_
    refine r_istore_n (lv' := [(3, .int 2), (0, .ref m), (1, .int k), (2, .int m1)]) d_Mm_charge_26 rfl (by decide) rfl ?_
    refine r_aload_n d_Mm_charge_27 rfl 1 rfl ?_
    refine r_ldcS (own := "IronpourModel") (i := 1) (by decide) d_Mm_charge_28 ?_
    refine r_iload_n d_Mm_charge_30 rfl 2 rfl ?_
    refine r_callVS (As := [.int k]) (rest := [.ref m]) (csC := []) (is := []) (i := 1) (by first | assumption | decide) rfl ln_Mm_97 w_im_String_indexOf_0 w_se_String_indexOf_0 ok_Mm_charge_String_indexOf_0 d_Mm_charge_31 (C_St_indexOf g 1 (by decide) k) rfl rfl (Nat.le_of_ble_eq_true rfl) rfl (by decide) (by omega) (by omega) (fun E cs1 hx => ?_) (fun v cs1 hx => ?_)
    · exact absurd hx.1 (by simp)
    · obtain ⟨e1, rfl⟩ := hx
      cases e1
      refine ⟨rfl, ?_⟩
      refine r_st (st2 := [.int (z_ix 1 k), .ref m]) rfl ?_
      refine r_cs (cs2 := [(m, .inr (12, [.int 0, .ref mp, .int pt, .ref mf, .ref mh, .ref mn, .ref mt, .ref mz, .ref mc_, .ref mq, .ref mgr, .int cl, .int wa, .int co_, .int fi, .int bu, .int ho, .ref ml, .ref mi, .ref mr, .int lh, .int mg, .int wd, .int fpi, .int fal, .ref mm, .ref mu, .ref mk, .ref mx, .long po, .long de]))]) rfl ?_
      refine r_if_lt (tgt := 48) d_Mm_charge_34 (by decide) (fun c_34 => ?_) (fun c_34 => ?_)
      · refine r_iconst d_Mm_charge_48 (v := 1) (by decide) ?_
        refine r_goto (tgt := 53) d_Mm_charge_49 (by decide) ?_
        refine r_iconst d_Mm_charge_53 (v := 1) (by decide) ?_
        refine r_callV (As := [.int 1, .int 1]) (rest := []) (csC := [(m, .inr (12, [.int 0, .ref mp, .int pt, .ref mf, .ref mh, .ref mn, .ref mt, .ref mz, .ref mc_, .ref mq, .ref mgr, .int cl, .int wa, .int co_, .int fi, .int bu, .int ho, .ref ml, .ref mi, .ref mr, .int lh, .int mg, .int wd, .int fpi, .int fal, .ref mm, .ref mu, .ref mk, .ref mx, .long po, .long de]))]) (is := [0]) (q0 := 0) rfl rfl ln_Mm_103 w_im_Mm_fails w_se_Mm_fails ok_Mm_charge_Mm_fails d_Mm_charge_54 (C_Mm_fails1 g m mp mf mh mn mt mz mc_ mq mgr ml mi mr mm mu mk mx th pt cl wa co_ fi bu ho lh mg wd fpi fal po de) rfl rfl (Nat.le_of_ble_eq_true rfl) rfl (by decide) (by omega) (by omega) (fun E cs1 hx => ?_) (fun v cs1 hx => ?_)
        · exact absurd hx.1 (by simp)
        · obtain ⟨e1, rfl⟩ := hx
          cases e1
          refine ⟨rfl, ?_⟩
          refine r_st (st2 := [.int 1]) rfl ?_
          refine r_cs (cs2 := [(m, .inr (12, [.int 1, .ref mp, .int pt, .ref mf, .ref mh, .ref mn, .ref mt, .ref mz, .ref mc_, .ref mq, .ref mgr, .int cl, .int wa, .int co_, .int fi, .int bu, .int ho, .ref ml, .ref mi, .ref mr, .int lh, .int mg, .int wd, .int fpi, .int fal, .ref mm, .ref mu, .ref mk, .ref mx, .long po, .long de]))]) rfl ?_
          refine r_if_ne (tgt := 88) d_Mm_charge_57 (by decide) (fun c_57 => ?_) (fun c_57 => ?_)
          · refine r_iconst d_Mm_charge_88 (v := 0) (by decide) ?_
            refine r_iret d_Mm_charge_89 rfl rfl ?_
            exact ⟨rfl, rfl⟩
          · exact absurd c_57 (by decide)
      · refine r_iload_n d_Mm_charge_37 rfl 3 rfl ?_
        refine r_iconst d_Mm_charge_38 (v := 1) (by decide) ?_
        refine r_sipush d_Mm_charge_39 (v := 1000) (by decide) ?_
        refine r_callS (As := [.int m1, .int 1, .int 1000]) (rest := [.ref m]) (csC := []) (is := []) ln_Mm_87 w_st_Mm_in ok_Mm_charge_Mm_in d_Mm_charge_42 (C_Mm_in g m1 1 1000) rfl rfl (Nat.le_of_ble_eq_true rfl) rfl (by decide) (by omega) (by omega) (fun E cs1 hx => ?_) (fun v cs1 hx => ?_)
        · exact absurd hx.1 (by simp)
        · obtain ⟨e1, rfl⟩ := hx
          cases e1
          refine ⟨rfl, ?_⟩
          refine r_st (st2 := [.int (if 1 ≤ m1 ∧ m1 ≤ 1000 then 1 else 0), .ref m]) rfl ?_
          refine r_cs (cs2 := [(m, .inr (12, [.int 0, .ref mp, .int pt, .ref mf, .ref mh, .ref mn, .ref mt, .ref mz, .ref mc_, .ref mq, .ref mgr, .int cl, .int wa, .int co_, .int fi, .int bu, .int ho, .ref ml, .ref mi, .ref mr, .int lh, .int mg, .int wd, .int fpi, .int fal, .ref mm, .ref mu, .ref mk, .ref mx, .long po, .long de]))]) rfl ?_
          refine r_if_ne (tgt := 52) d_Mm_charge_45 (by decide) (fun c_45 => ?_) (fun c_45 => ?_)
          · exact absurd ⟨Int32.not_lt.mp c_34, z_b1 c_45⟩ hw
          · refine r_iconst d_Mm_charge_48 (v := 1) (by decide) ?_
            refine r_goto (tgt := 53) d_Mm_charge_49 (by decide) ?_
            refine r_iconst d_Mm_charge_53 (v := 1) (by decide) ?_
            refine r_callV (As := [.int 1, .int 1]) (rest := []) (csC := [(m, .inr (12, [.int 0, .ref mp, .int pt, .ref mf, .ref mh, .ref mn, .ref mt, .ref mz, .ref mc_, .ref mq, .ref mgr, .int cl, .int wa, .int co_, .int fi, .int bu, .int ho, .ref ml, .ref mi, .ref mr, .int lh, .int mg, .int wd, .int fpi, .int fal, .ref mm, .ref mu, .ref mk, .ref mx, .long po, .long de]))]) (is := [0]) (q0 := 0) rfl rfl ln_Mm_103 w_im_Mm_fails w_se_Mm_fails ok_Mm_charge_Mm_fails d_Mm_charge_54 (C_Mm_fails1 g m mp mf mh mn mt mz mc_ mq mgr ml mi mr mm mu mk mx th pt cl wa co_ fi bu ho lh mg wd fpi fal po de) rfl rfl (Nat.le_of_ble_eq_true rfl) rfl (by decide) (by omega) (by omega) (fun E cs1 hx => ?_) (fun v cs1 hx => ?_)
            · exact absurd hx.1 (by simp)
            · obtain ⟨e1, rfl⟩ := hx
              cases e1
              refine ⟨rfl, ?_⟩
              refine r_st (st2 := [.int 1]) rfl ?_
              refine r_cs (cs2 := [(m, .inr (12, [.int 1, .ref mp, .int pt, .ref mf, .ref mh, .ref mn, .ref mt, .ref mz, .ref mc_, .ref mq, .ref mgr, .int cl, .int wa, .int co_, .int fi, .int bu, .int ho, .ref ml, .ref mi, .ref mr, .int lh, .int mg, .int wd, .int fpi, .int fal, .ref mm, .ref mu, .ref mk, .ref mx, .long po, .long de]))]) rfl ?_
              refine r_if_ne (tgt := 88) d_Mm_charge_57 (by decide) (fun c_57 => ?_) (fun c_57 => ?_)
              · refine r_iconst d_Mm_charge_88 (v := 0) (by decide) ?_
                refine r_iret d_Mm_charge_89 rfl rfl ?_
                exact ⟨rfl, rfl⟩
              · exact absurd c_57 (by decide)
theorem d_Mm_charge_52 : decode prog_14_method_58_code 52 = .ok (.iconst 0, 1) := zo_3 (zd_b zq_prog_14_method_58_code_1 20 rfl rfl rfl)
theorem d_Mm_charge_60 : decode prog_14_method_58_code 60 = .ok (.aload_n 0, 1) := zo_42 (zd_b zq_prog_14_method_58_code_1 28 rfl rfl rfl)
theorem d_Mm_charge_61 : decode prog_14_method_58_code 61 = .ok (.iload_n 3, 1) := zo_29 (zd_b zq_prog_14_method_58_code_1 29 rfl rfl rfl)
theorem d_Mm_charge_62 : decode prog_14_method_58_code 62 = .ok (.iconst (-1), 1) := zo_2 (zd_b zq_prog_14_method_58_code_1 30 rfl rfl rfl)
theorem d_Mm_charge_63 : decode prog_14_method_58_code 63 = .ok (.if_icmp .eq 17, 3) := zo_159 (d := 0) (e := 17) (zd_b zq_prog_14_method_58_code_1 31 rfl rfl rfl) (zd_b zq_prog_14_method_58_code_2 0 rfl rfl rfl) (zd_b zq_prog_14_method_58_code_2 1 rfl rfl rfl) (by decide +kernel)
theorem d_Mm_charge_66 : decode prog_14_method_58_code 66 = .ok (.aload_n 0, 1) := zo_42 (zd_b zq_prog_14_method_58_code_2 2 rfl rfl rfl)
theorem d_Mm_charge_67 : decode prog_14_method_58_code 67 = .ok (.getfield 62, 3) := zo_180 (d := 0) (e := 62) (zd_b zq_prog_14_method_58_code_2 3 rfl rfl rfl) (zd_b zq_prog_14_method_58_code_2 4 rfl rfl rfl) (zd_b zq_prog_14_method_58_code_2 5 rfl rfl rfl)
theorem fs_Mm_62 : z_fs "IronpourModel" 62 12 18 := ⟨R_Mm, "IronpourModel", F_Mm, 31, rfl, u_Mm, by decide, Or.inl ⟨z_mj7 (i := 101) rfl (by decide +kernel), Or.inl rfl⟩⟩
theorem d_Mm_charge_70 : decode prog_14_method_58_code 70 = .ok (.iload_n 3, 1) := zo_29 (zd_b zq_prog_14_method_58_code_2 6 rfl rfl rfl)
theorem d_Mm_charge_71 : decode prog_14_method_58_code 71 = .ok (.iaload, 1) := zo_46 (zd_b zq_prog_14_method_58_code_2 7 rfl rfl rfl)
theorem d_Mm_charge_72 : decode prog_14_method_58_code 72 = .ok (.iload_n 2, 1) := zo_28 (zd_b zq_prog_14_method_58_code_2 8 rfl rfl rfl)
theorem d_Mm_charge_73 : decode prog_14_method_58_code 73 = .ok (.if_icmp .ge 7, 3) := zo_162 (d := 0) (e := 7) (zd_b zq_prog_14_method_58_code_2 9 rfl rfl rfl) (zd_b zq_prog_14_method_58_code_2 10 rfl rfl rfl) (zd_b zq_prog_14_method_58_code_2 11 rfl rfl rfl) (by decide +kernel)
theorem d_Mm_charge_76 : decode prog_14_method_58_code 76 = .ok (.iconst 1, 1) := zo_4 (zd_b zq_prog_14_method_58_code_2 12 rfl rfl rfl)
theorem d_Mm_charge_77 : decode prog_14_method_58_code 77 = .ok (.goto 4, 3) := zo_167 (d := 0) (e := 4) (zd_b zq_prog_14_method_58_code_2 13 rfl rfl rfl) (zd_b zq_prog_14_method_58_code_2 14 rfl rfl rfl) (zd_b zq_prog_14_method_58_code_2 15 rfl rfl rfl) (by decide +kernel)
theorem d_Mm_charge_81 : decode prog_14_method_58_code 81 = .ok (.iconst 2, 1) := zo_5 (zd_b zq_prog_14_method_58_code_2 17 rfl rfl rfl)
theorem d_Mm_charge_82 : decode prog_14_method_58_code 82 = .ok (.invokevirtual 103, 3) := zo_182 (d := 0) (e := 103) (zd_b zq_prog_14_method_58_code_2 18 rfl rfl rfl) (zd_b zq_prog_14_method_58_code_2 19 rfl rfl rfl) (zd_b zq_prog_14_method_58_code_2 20 rfl rfl rfl)
theorem d_Mm_charge_85 : decode prog_14_method_58_code 85 = .ok (.ifCond .eq 5, 3) := zo_153 (d := 0) (e := 5) (zd_b zq_prog_14_method_58_code_2 21 rfl rfl rfl) (zd_b zq_prog_14_method_58_code_2 22 rfl rfl rfl) (zd_b zq_prog_14_method_58_code_2 23 rfl rfl rfl) (by decide +kernel)
set_option maxHeartbeats 4000000 in
set_option maxRecDepth 100000 in
theorem C_Mm_charge103F (g : zG) (m mp mf mh mn mt mz mc_ mq mgr ml mi mr mm mu mk mx : Nat) (th pt cl wa co_ fi bu ho lh mg wd fpi fal : Int32) (po de : Int64) (ir : Nat → Int32) (m1 : Int32) (hw : (1 ≤ m1 ∧ m1 ≤ 1000)) (hf : ir 2 < m1) : CT g M_Mm_charge [.ref m, .int 103, .int m1] [(m, .inr (12, [.int th, .ref mp, .int pt, .ref mf, .ref mh, .ref mn, .ref mt, .ref mz, .ref mc_, .ref mq, .ref mgr, .int cl, .int wa, .int co_, .int fi, .int bu, .int ho, .ref ml, .ref mi, .ref mr, .int lh, .int mg, .int wd, .int fpi, .int fal, .ref mm, .ref mu, .ref mk, .ref mx, .long po, .long de])), (mi, .inl (0, 4, .inl ir))] (fun o cs1 => o = .inl (some (.int 0)) ∧ cs1 = [(m, .inr (12, [.int 2, .ref mp, .int pt, .ref mf, .ref mh, .ref mn, .ref mt, .ref mz, .ref mc_, .ref mq, .ref mgr, .int cl, .int wa, .int co_, .int fi, .int bu, .int ho, .ref ml, .ref mi, .ref mr, .int lh, .int mg, .int wd, .int fpi, .int fal, .ref mm, .ref mu, .ref mk, .ref mx, .long po, .long de])), (mi, .inl (0, 4, .inl ir))]) 0 0 := by
  refine z_of (by decide) rfl (Nat.le_of_ble_eq_true rfl) (fun w0 => ?_)
  refine r_lvE (lv2 := [(0, .ref m), (1, .int 103), (2, .int m1)]) rfl ?_
  refine r_aload_n d_Mm_charge_0 rfl 0 rfl ?_
  refine r_iconst d_Mm_charge_1 (v := 0) (by decide) ?_
  refine r_put fp_Mm_84 d_Mm_charge_2 (fun h => nomatch h) rfl rfl (q0 := 0) rfl (Nat.le_of_ble_eq_true rfl) (cs' := [(m, .inr (12, [.int 0, .ref mp, .int pt, .ref mf, .ref mh, .ref mn, .ref mt, .ref mz, .ref mc_, .ref mq, .ref mgr, .int cl, .int wa, .int co_, .int fi, .int bu, .int ho, .ref ml, .ref mi, .ref mr, .int lh, .int mg, .int wd, .int fpi, .int fal, .ref mm, .ref mu, .ref mk, .ref mx, .long po, .long de])), (mi, .inl (0, 4, .inl ir))]) rfl ?_
  refine r_iload_n d_Mm_charge_5 rfl 1 rfl ?_
  refine r_bipush d_Mm_charge_6 (v := 103) (by decide) ?_
  refine r_icmp_ne (tgt := 15) d_Mm_charge_8 (by decide) (fun c_8 => ?_) (fun c_8 => ?_)
  · exact absurd c_8 (by decide)
  · refine r_iconst d_Mm_charge_11 (v := 2) (by decide) ?_
    refine r_goto (tgt := 26) d_Mm_charge_12 (by decide) ?_
    refine r_istore_n (lv' := [(3, .int 2), (0, .ref m), (1, .int 103), (2, .int m1)]) d_Mm_charge_26 rfl (by decide) rfl ?_
    refine r_aload_n d_Mm_charge_27 rfl 1 rfl ?_
    refine r_ldcS (own := "IronpourModel") (i := 1) (by decide) d_Mm_charge_28 ?_
    refine r_iload_n d_Mm_charge_30 rfl 2 rfl ?_
    refine r_callVS (As := [.int 103]) (rest := [.ref m]) (csC := []) (is := []) (i := 1) (by first | assumption | decide) rfl ln_Mm_97 w_im_String_indexOf_0 w_se_String_indexOf_0 ok_Mm_charge_String_indexOf_0 d_Mm_charge_31 (C_St_indexOf g 1 (by decide) 103) rfl rfl (Nat.le_of_ble_eq_true rfl) rfl (by decide) (by omega) (by omega) (fun E cs1 hx => ?_) (fun v cs1 hx => ?_)
    · exact absurd hx.1 (by simp)
    · obtain ⟨e1, rfl⟩ := hx
      cases e1
      refine ⟨rfl, ?_⟩
      refine r_st (st2 := [.int (z_ix 1 103), .ref m]) rfl ?_
      refine r_cs (cs2 := [(m, .inr (12, [.int 0, .ref mp, .int pt, .ref mf, .ref mh, .ref mn, .ref mt, .ref mz, .ref mc_, .ref mq, .ref mgr, .int cl, .int wa, .int co_, .int fi, .int bu, .int ho, .ref ml, .ref mi, .ref mr, .int lh, .int mg, .int wd, .int fpi, .int fal, .ref mm, .ref mu, .ref mk, .ref mx, .long po, .long de])), (mi, .inl (0, 4, .inl ir))]) rfl ?_
      refine r_if_lt (tgt := 48) d_Mm_charge_34 (by decide) (fun c_34 => ?_) (fun c_34 => ?_)
      · exact absurd c_34 (by decide)
      · refine r_iload_n d_Mm_charge_37 rfl 3 rfl ?_
        refine r_iconst d_Mm_charge_38 (v := 1) (by decide) ?_
        refine r_sipush d_Mm_charge_39 (v := 1000) (by decide) ?_
        refine r_callS (As := [.int m1, .int 1, .int 1000]) (rest := [.ref m]) (csC := []) (is := []) ln_Mm_87 w_st_Mm_in ok_Mm_charge_Mm_in d_Mm_charge_42 (C_Mm_in g m1 1 1000) rfl rfl (Nat.le_of_ble_eq_true rfl) rfl (by decide) (by omega) (by omega) (fun E cs1 hx => ?_) (fun v cs1 hx => ?_)
        · exact absurd hx.1 (by simp)
        · obtain ⟨e1, rfl⟩ := hx
          rw [if_pos hw] at e1
          cases e1
          refine ⟨rfl, ?_⟩
          refine r_st (st2 := [.int 1, .ref m]) rfl ?_
          refine r_cs (cs2 := [(m, .inr (12, [.int 0, .ref mp, .int pt, .ref mf, .ref mh, .ref mn, .ref mt, .ref mz, .ref mc_, .ref mq, .ref mgr, .int cl, .int wa, .int co_, .int fi, .int bu, .int ho, .ref ml, .ref mi, .ref mr, .int lh, .int mg, .int wd, .int fpi, .int fal, .ref mm, .ref mu, .ref mk, .ref mx, .long po, .long de])), (mi, .inl (0, 4, .inl ir))]) rfl ?_
          refine r_if_ne (tgt := 52) d_Mm_charge_45 (by decide) (fun c_45 => ?_) (fun c_45 => ?_)
          · refine r_iconst d_Mm_charge_52 (v := 0) (by decide) ?_
            refine r_iconst d_Mm_charge_53 (v := 1) (by decide) ?_
            refine r_callV (As := [.int 0, .int 1]) (rest := []) (csC := [(m, .inr (12, [.int 0, .ref mp, .int pt, .ref mf, .ref mh, .ref mn, .ref mt, .ref mz, .ref mc_, .ref mq, .ref mgr, .int cl, .int wa, .int co_, .int fi, .int bu, .int ho, .ref ml, .ref mi, .ref mr, .int lh, .int mg, .int wd, .int fpi, .int fal, .ref mm, .ref mu, .ref mk, .ref mx, .long po, .long de]))]) (is := [0]) (q0 := 0) rfl rfl ln_Mm_103 w_im_Mm_fails w_se_Mm_fails ok_Mm_charge_Mm_fails d_Mm_charge_54 (C_Mm_fails0 g m mp mf mh mn mt mz mc_ mq mgr ml mi mr mm mu mk mx th pt cl wa co_ fi bu ho lh mg wd fpi fal po de 1) rfl rfl (Nat.le_of_ble_eq_true rfl) rfl (by decide) (by omega) (by omega) (fun E cs1 hx => ?_) (fun v cs1 hx => ?_)
            · exact absurd hx.1 (by simp)
            · obtain ⟨e1, rfl⟩ := hx
              cases e1
              refine ⟨rfl, ?_⟩
              refine r_st (st2 := [.int 0]) rfl ?_
              refine r_cs (cs2 := [(m, .inr (12, [.int 0, .ref mp, .int pt, .ref mf, .ref mh, .ref mn, .ref mt, .ref mz, .ref mc_, .ref mq, .ref mgr, .int cl, .int wa, .int co_, .int fi, .int bu, .int ho, .ref ml, .ref mi, .ref mr, .int lh, .int mg, .int wd, .int fpi, .int fal, .ref mm, .ref mu, .ref mk, .ref mx, .long po, .long de])), (mi, .inl (0, 4, .inl ir))]) rfl ?_
              refine r_if_ne (tgt := 88) d_Mm_charge_57 (by decide) (fun c_57 => ?_) (fun c_57 => ?_)
              · exact absurd c_57 (by decide)
              · refine r_aload_n d_Mm_charge_60 rfl 1 rfl ?_
                refine r_iload_n d_Mm_charge_61 rfl 0 rfl ?_
                refine r_iconst d_Mm_charge_62 (v := (-1)) (by decide) ?_
                refine r_icmp_eq (tgt := 80) d_Mm_charge_63 (by decide) (fun c_63 => ?_) (fun c_63 => ?_)
                · exact absurd c_63 (by decide)
                · refine r_aload_n d_Mm_charge_66 rfl 1 rfl ?_
                  refine r_get fs_Mm_62 d_Mm_charge_67 (q0 := 0) rfl rfl ?_
                  refine r_iload_n d_Mm_charge_70 rfl 0 rfl ?_
                  refine r_iald d_Mm_charge_71 (q0 := 1) rfl (fun q => q.elim (by decide) (by decide)) (v := ir 2) rfl ?_
                  refine r_iload_n d_Mm_charge_72 rfl 3 rfl ?_
                  refine r_icmp_ge (tgt := 80) d_Mm_charge_73 (by decide) (fun c_73 => ?_) (fun c_73 => ?_)
                  · exact absurd hf (Int32.not_lt.mpr c_73)
                  · refine r_iconst d_Mm_charge_76 (v := 1) (by decide) ?_
                    refine r_goto (tgt := 81) d_Mm_charge_77 (by decide) ?_
                    refine r_iconst d_Mm_charge_81 (v := 2) (by decide) ?_
                    refine r_callV (As := [.int 1, .int 2]) (rest := []) (csC := [(m, .inr (12, [.int 0, .ref mp, .int pt, .ref mf, .ref mh, .ref mn, .ref mt, .ref mz, .ref mc_, .ref mq, .ref mgr, .int cl, .int wa, .int co_, .int fi, .int bu, .int ho, .ref ml, .ref mi, .ref mr, .int lh, .int mg, .int wd, .int fpi, .int fal, .ref mm, .ref mu, .ref mk, .ref mx, .long po, .long de]))]) (is := [0]) (q0 := 0) rfl rfl ln_Mm_103 w_im_Mm_fails w_se_Mm_fails ok_Mm_charge_Mm_fails d_Mm_charge_82 (C_Mm_fails2 g m mp mf mh mn mt mz mc_ mq mgr ml mi mr mm mu mk mx th pt cl wa co_ fi bu ho lh mg wd fpi fal po de) rfl rfl (Nat.le_of_ble_eq_true rfl) rfl (by decide) (by omega) (by omega) (fun E cs1 hx => ?_) (fun v cs1 hx => ?_)
                    · exact absurd hx.1 (by simp)
                    · obtain ⟨e1, rfl⟩ := hx
                      cases e1
                      refine ⟨rfl, ?_⟩
                      refine r_st (st2 := [.int 1]) rfl ?_
                      refine r_cs (cs2 := [(m, .inr (12, [.int 2, .ref mp, .int pt, .ref mf, .ref mh, .ref mn, .ref mt, .ref mz, .ref mc_, .ref mq, .ref mgr, .int cl, .int wa, .int co_, .int fi, .int bu, .int ho, .ref ml, .ref mi, .ref mr, .int lh, .int mg, .int wd, .int fpi, .int fal, .ref mm, .ref mu, .ref mk, .ref mx, .long po, .long de])), (mi, .inl (0, 4, .inl ir))]) rfl ?_
                      refine r_if_eq (tgt := 90) d_Mm_charge_85 (by decide) (fun c_85 => ?_) (fun c_85 => ?_)
                      · exact absurd c_85 (by decide)
                      · refine r_iconst d_Mm_charge_88 (v := 0) (by decide) ?_
                        refine r_iret d_Mm_charge_89 rfl rfl ?_
                        exact ⟨rfl, rfl⟩
          · exact absurd c_45 (by decide)
set_option maxHeartbeats 4000000 in
set_option maxRecDepth 100000 in
theorem C_Mm_charge100F (g : zG) (m mp mf mh mn mt mz mc_ mq mgr ml mi mr mm mu mk mx : Nat) (th pt cl wa co_ fi bu ho lh mg wd fpi fal : Int32) (po de : Int64) (ir : Nat → Int32) (m1 : Int32) (hw : (1 ≤ m1 ∧ m1 ≤ 1000)) (hf : ir 3 < m1) : CT g M_Mm_charge [.ref m, .int 100, .int m1] [(m, .inr (12, [.int th, .ref mp, .int pt, .ref mf, .ref mh, .ref mn, .ref mt, .ref mz, .ref mc_, .ref mq, .ref mgr, .int cl, .int wa, .int co_, .int fi, .int bu, .int ho, .ref ml, .ref mi, .ref mr, .int lh, .int mg, .int wd, .int fpi, .int fal, .ref mm, .ref mu, .ref mk, .ref mx, .long po, .long de])), (mi, .inl (0, 4, .inl ir))] (fun o cs1 => o = .inl (some (.int 0)) ∧ cs1 = [(m, .inr (12, [.int 2, .ref mp, .int pt, .ref mf, .ref mh, .ref mn, .ref mt, .ref mz, .ref mc_, .ref mq, .ref mgr, .int cl, .int wa, .int co_, .int fi, .int bu, .int ho, .ref ml, .ref mi, .ref mr, .int lh, .int mg, .int wd, .int fpi, .int fal, .ref mm, .ref mu, .ref mk, .ref mx, .long po, .long de])), (mi, .inl (0, 4, .inl ir))]) 0 0 := by
  refine z_of (by decide) rfl (Nat.le_of_ble_eq_true rfl) (fun w0 => ?_)
  refine r_lvE (lv2 := [(0, .ref m), (1, .int 100), (2, .int m1)]) rfl ?_
  refine r_aload_n d_Mm_charge_0 rfl 0 rfl ?_
  refine r_iconst d_Mm_charge_1 (v := 0) (by decide) ?_
  refine r_put fp_Mm_84 d_Mm_charge_2 (fun h => nomatch h) rfl rfl (q0 := 0) rfl (Nat.le_of_ble_eq_true rfl) (cs' := [(m, .inr (12, [.int 0, .ref mp, .int pt, .ref mf, .ref mh, .ref mn, .ref mt, .ref mz, .ref mc_, .ref mq, .ref mgr, .int cl, .int wa, .int co_, .int fi, .int bu, .int ho, .ref ml, .ref mi, .ref mr, .int lh, .int mg, .int wd, .int fpi, .int fal, .ref mm, .ref mu, .ref mk, .ref mx, .long po, .long de])), (mi, .inl (0, 4, .inl ir))]) rfl ?_
  refine r_iload_n d_Mm_charge_5 rfl 1 rfl ?_
  refine r_bipush d_Mm_charge_6 (v := 103) (by decide) ?_
  refine r_icmp_ne (tgt := 15) d_Mm_charge_8 (by decide) (fun c_8 => ?_) (fun c_8 => ?_)
  · refine r_iload_n d_Mm_charge_15 rfl 1 rfl ?_
    refine r_bipush d_Mm_charge_16 (v := 100) (by decide) ?_
    refine r_icmp_ne (tgt := 25) d_Mm_charge_18 (by decide) (fun c_18 => ?_) (fun c_18 => ?_)
    · exact absurd c_18 (by decide)
    · refine r_iconst d_Mm_charge_21 (v := 3) (by decide) ?_
      refine r_goto (tgt := 26) d_Mm_charge_22 (by decide) ?_
      refine r_istore_n (lv' := [(3, .int 3), (0, .ref m), (1, .int 100), (2, .int m1)]) d_Mm_charge_26 rfl (by decide) rfl ?_
      refine r_aload_n d_Mm_charge_27 rfl 1 rfl ?_
      refine r_ldcS (own := "IronpourModel") (i := 1) (by decide) d_Mm_charge_28 ?_
      refine r_iload_n d_Mm_charge_30 rfl 2 rfl ?_
      refine r_callVS (As := [.int 100]) (rest := [.ref m]) (csC := []) (is := []) (i := 1) (by first | assumption | decide) rfl ln_Mm_97 w_im_String_indexOf_0 w_se_String_indexOf_0 ok_Mm_charge_String_indexOf_0 d_Mm_charge_31 (C_St_indexOf g 1 (by decide) 100) rfl rfl (Nat.le_of_ble_eq_true rfl) rfl (by decide) (by omega) (by omega) (fun E cs1 hx => ?_) (fun v cs1 hx => ?_)
      · exact absurd hx.1 (by simp)
      · obtain ⟨e1, rfl⟩ := hx
        cases e1
        refine ⟨rfl, ?_⟩
        refine r_st (st2 := [.int (z_ix 1 100), .ref m]) rfl ?_
        refine r_cs (cs2 := [(m, .inr (12, [.int 0, .ref mp, .int pt, .ref mf, .ref mh, .ref mn, .ref mt, .ref mz, .ref mc_, .ref mq, .ref mgr, .int cl, .int wa, .int co_, .int fi, .int bu, .int ho, .ref ml, .ref mi, .ref mr, .int lh, .int mg, .int wd, .int fpi, .int fal, .ref mm, .ref mu, .ref mk, .ref mx, .long po, .long de])), (mi, .inl (0, 4, .inl ir))]) rfl ?_
        refine r_if_lt (tgt := 48) d_Mm_charge_34 (by decide) (fun c_34 => ?_) (fun c_34 => ?_)
        · exact absurd c_34 (by decide)
        · refine r_iload_n d_Mm_charge_37 rfl 3 rfl ?_
          refine r_iconst d_Mm_charge_38 (v := 1) (by decide) ?_
          refine r_sipush d_Mm_charge_39 (v := 1000) (by decide) ?_
          refine r_callS (As := [.int m1, .int 1, .int 1000]) (rest := [.ref m]) (csC := []) (is := []) ln_Mm_87 w_st_Mm_in ok_Mm_charge_Mm_in d_Mm_charge_42 (C_Mm_in g m1 1 1000) rfl rfl (Nat.le_of_ble_eq_true rfl) rfl (by decide) (by omega) (by omega) (fun E cs1 hx => ?_) (fun v cs1 hx => ?_)
          · exact absurd hx.1 (by simp)
          · obtain ⟨e1, rfl⟩ := hx
            rw [if_pos hw] at e1
            cases e1
            refine ⟨rfl, ?_⟩
            refine r_st (st2 := [.int 1, .ref m]) rfl ?_
            refine r_cs (cs2 := [(m, .inr (12, [.int 0, .ref mp, .int pt, .ref mf, .ref mh, .ref mn, .ref mt, .ref mz, .ref mc_, .ref mq, .ref mgr, .int cl, .int wa, .int co_, .int fi, .int bu, .int ho, .ref ml, .ref mi, .ref mr, .int lh, .int mg, .int wd, .int fpi, .int fal, .ref mm, .ref mu, .ref mk, .ref mx, .long po, .long de])), (mi, .inl (0, 4, .inl ir))]) rfl ?_
            refine r_if_ne (tgt := 52) d_Mm_charge_45 (by decide) (fun c_45 => ?_) (fun c_45 => ?_)
            · refine r_iconst d_Mm_charge_52 (v := 0) (by decide) ?_
              refine r_iconst d_Mm_charge_53 (v := 1) (by decide) ?_
              refine r_callV (As := [.int 0, .int 1]) (rest := []) (csC := [(m, .inr (12, [.int 0, .ref mp, .int pt, .ref mf, .ref mh, .ref mn, .ref mt, .ref mz, .ref mc_, .ref mq, .ref mgr, .int cl, .int wa, .int co_, .int fi, .int bu, .int ho, .ref ml, .ref mi, .ref mr, .int lh, .int mg, .int wd, .int fpi, .int fal, .ref mm, .ref mu, .ref mk, .ref mx, .long po, .long de]))]) (is := [0]) (q0 := 0) rfl rfl ln_Mm_103 w_im_Mm_fails w_se_Mm_fails ok_Mm_charge_Mm_fails d_Mm_charge_54 (C_Mm_fails0 g m mp mf mh mn mt mz mc_ mq mgr ml mi mr mm mu mk mx th pt cl wa co_ fi bu ho lh mg wd fpi fal po de 1) rfl rfl (Nat.le_of_ble_eq_true rfl) rfl (by decide) (by omega) (by omega) (fun E cs1 hx => ?_) (fun v cs1 hx => ?_)
              · exact absurd hx.1 (by simp)
              · obtain ⟨e1, rfl⟩ := hx
                cases e1
                refine ⟨rfl, ?_⟩
                refine r_st (st2 := [.int 0]) rfl ?_
                refine r_cs (cs2 := [(m, .inr (12, [.int 0, .ref mp, .int pt, .ref mf, .ref mh, .ref mn, .ref mt, .ref mz, .ref mc_, .ref mq, .ref mgr, .int cl, .int wa, .int co_, .int fi, .int bu, .int ho, .ref ml, .ref mi, .ref mr, .int lh, .int mg, .int wd, .int fpi, .int fal, .ref mm, .ref mu, .ref mk, .ref mx, .long po, .long de])), (mi, .inl (0, 4, .inl ir))]) rfl ?_
                refine r_if_ne (tgt := 88) d_Mm_charge_57 (by decide) (fun c_57 => ?_) (fun c_57 => ?_)
                · exact absurd c_57 (by decide)
                · refine r_aload_n d_Mm_charge_60 rfl 1 rfl ?_
                  refine r_iload_n d_Mm_charge_61 rfl 0 rfl ?_
                  refine r_iconst d_Mm_charge_62 (v := (-1)) (by decide) ?_
                  refine r_icmp_eq (tgt := 80) d_Mm_charge_63 (by decide) (fun c_63 => ?_) (fun c_63 => ?_)
                  · exact absurd c_63 (by decide)
                  · refine r_aload_n d_Mm_charge_66 rfl 1 rfl ?_
                    refine r_get fs_Mm_62 d_Mm_charge_67 (q0 := 0) rfl rfl ?_
                    refine r_iload_n d_Mm_charge_70 rfl 0 rfl ?_
                    refine r_iald d_Mm_charge_71 (q0 := 1) rfl (fun q => q.elim (by decide) (by decide)) (v := ir 3) rfl ?_
                    refine r_iload_n d_Mm_charge_72 rfl 3 rfl ?_
                    refine r_icmp_ge (tgt := 80) d_Mm_charge_73 (by decide) (fun c_73 => ?_) (fun c_73 => ?_)
                    · exact absurd hf (Int32.not_lt.mpr c_73)
                    · refine r_iconst d_Mm_charge_76 (v := 1) (by decide) ?_
                      refine r_goto (tgt := 81) d_Mm_charge_77 (by decide) ?_
                      refine r_iconst d_Mm_charge_81 (v := 2) (by decide) ?_
                      refine r_callV (As := [.int 1, .int 2]) (rest := []) (csC := [(m, .inr (12, [.int 0, .ref mp, .int pt, .ref mf, .ref mh, .ref mn, .ref mt, .ref mz, .ref mc_, .ref mq, .ref mgr, .int cl, .int wa, .int co_, .int fi, .int bu, .int ho, .ref ml, .ref mi, .ref mr, .int lh, .int mg, .int wd, .int fpi, .int fal, .ref mm, .ref mu, .ref mk, .ref mx, .long po, .long de]))]) (is := [0]) (q0 := 0) rfl rfl ln_Mm_103 w_im_Mm_fails w_se_Mm_fails ok_Mm_charge_Mm_fails d_Mm_charge_82 (C_Mm_fails2 g m mp mf mh mn mt mz mc_ mq mgr ml mi mr mm mu mk mx th pt cl wa co_ fi bu ho lh mg wd fpi fal po de) rfl rfl (Nat.le_of_ble_eq_true rfl) rfl (by decide) (by omega) (by omega) (fun E cs1 hx => ?_) (fun v cs1 hx => ?_)
                      · exact absurd hx.1 (by simp)
                      · obtain ⟨e1, rfl⟩ := hx
                        cases e1
                        refine ⟨rfl, ?_⟩
                        refine r_st (st2 := [.int 1]) rfl ?_
                        refine r_cs (cs2 := [(m, .inr (12, [.int 2, .ref mp, .int pt, .ref mf, .ref mh, .ref mn, .ref mt, .ref mz, .ref mc_, .ref mq, .ref mgr, .int cl, .int wa, .int co_, .int fi, .int bu, .int ho, .ref ml, .ref mi, .ref mr, .int lh, .int mg, .int wd, .int fpi, .int fal, .ref mm, .ref mu, .ref mk, .ref mx, .long po, .long de])), (mi, .inl (0, 4, .inl ir))]) rfl ?_
                        refine r_if_eq (tgt := 90) d_Mm_charge_85 (by decide) (fun c_85 => ?_) (fun c_85 => ?_)
                        · exact absurd c_85 (by decide)
                        · refine r_iconst d_Mm_charge_88 (v := 0) (by decide) ?_
                          refine r_iret d_Mm_charge_89 rfl rfl ?_
                          exact ⟨rfl, rfl⟩
            · exact absurd c_45 (by decide)
  · exact absurd c_8 (by decide)
theorem d_Mm_charge_143 : decode prog_14_method_58_code 143 = .ok (.iload 4, 2) := zo_21 (d := 4) (zd_b zq_prog_14_method_58_code_4 15 rfl rfl rfl) (zd_b zq_prog_14_method_58_code_4 16 rfl rfl rfl)
theorem d_Mm_charge_145 : decode prog_14_method_58_code 145 = .ok (.iconst 4, 1) := zo_7 (zd_b zq_prog_14_method_58_code_4 17 rfl rfl rfl)
theorem d_Mm_charge_146 : decode prog_14_method_58_code 146 = .ok (.if_icmp .ge 33, 3) := zo_162 (d := 0) (e := 33) (zd_b zq_prog_14_method_58_code_4 18 rfl rfl rfl) (zd_b zq_prog_14_method_58_code_4 19 rfl rfl rfl) (zd_b zq_prog_14_method_58_code_4 20 rfl rfl rfl) (by decide +kernel)
theorem d_Mm_charge_179 : decode prog_14_method_58_code 179 = .ok (.aload_n 0, 1) := zo_42 (zd_b zq_prog_14_method_58_code_5 19 rfl rfl rfl)
theorem d_Mm_charge_180 : decode prog_14_method_58_code 180 = .ok (.getfield 62, 3) := zo_180 (d := 0) (e := 62) (zd_b zq_prog_14_method_58_code_5 20 rfl rfl rfl) (zd_b zq_prog_14_method_58_code_5 21 rfl rfl rfl) (zd_b zq_prog_14_method_58_code_5 22 rfl rfl rfl)
theorem d_Mm_charge_183 : decode prog_14_method_58_code 183 = .ok (.iconst 0, 1) := zo_3 (zd_b zq_prog_14_method_58_code_5 23 rfl rfl rfl)
theorem d_Mm_charge_184 : decode prog_14_method_58_code 184 = .ok (.dup2, 1) := zo_92 (zd_b zq_prog_14_method_58_code_5 24 rfl rfl rfl)
theorem d_Mm_charge_185 : decode prog_14_method_58_code 185 = .ok (.iaload, 1) := zo_46 (zd_b zq_prog_14_method_58_code_5 25 rfl rfl rfl)
theorem d_Mm_charge_186 : decode prog_14_method_58_code 186 = .ok (.iload_n 1, 1) := zo_27 (zd_b zq_prog_14_method_58_code_5 26 rfl rfl rfl)
theorem d_Mm_charge_187 : decode prog_14_method_58_code 187 = .ok (.bipush 107, 2) := zo_16 (d := 107) (zd_b zq_prog_14_method_58_code_5 27 rfl rfl rfl) (zd_b zq_prog_14_method_58_code_5 28 rfl rfl rfl) (by decide +kernel)
theorem d_Mm_charge_189 : decode prog_14_method_58_code 189 = .ok (.if_icmp .ne 7, 3) := zo_160 (d := 0) (e := 7) (zd_b zq_prog_14_method_58_code_5 29 rfl rfl rfl) (zd_b zq_prog_14_method_58_code_5 30 rfl rfl rfl) (zd_b zq_prog_14_method_58_code_5 31 rfl rfl rfl) (by decide +kernel)
theorem d_Mm_charge_196 : decode prog_14_method_58_code 196 = .ok (.iload_n 2, 1) := zo_28 (zd_b zq_prog_14_method_58_code_6 4 rfl rfl rfl)
theorem d_Mm_charge_197 : decode prog_14_method_58_code 197 = .ok (.iadd, 1) := zo_96 (zd_b zq_prog_14_method_58_code_6 5 rfl rfl rfl)
theorem d_Mm_charge_198 : decode prog_14_method_58_code 198 = .ok (.iastore, 1) := zo_79 (zd_b zq_prog_14_method_58_code_6 6 rfl rfl rfl)
theorem d_Mm_charge_199 : decode prog_14_method_58_code 199 = .ok (.aload_n 0, 1) := zo_42 (zd_b zq_prog_14_method_58_code_6 7 rfl rfl rfl)
theorem d_Mm_charge_200 : decode prog_14_method_58_code 200 = .ok (.getfield 62, 3) := zo_180 (d := 0) (e := 62) (zd_b zq_prog_14_method_58_code_6 8 rfl rfl rfl) (zd_b zq_prog_14_method_58_code_6 9 rfl rfl rfl) (zd_b zq_prog_14_method_58_code_6 10 rfl rfl rfl)
theorem d_Mm_charge_203 : decode prog_14_method_58_code 203 = .ok (.iconst 0, 1) := zo_3 (zd_b zq_prog_14_method_58_code_6 11 rfl rfl rfl)
theorem d_Mm_charge_204 : decode prog_14_method_58_code 204 = .ok (.iaload, 1) := zo_46 (zd_b zq_prog_14_method_58_code_6 12 rfl rfl rfl)
theorem d_Mm_charge_205 : decode prog_14_method_58_code 205 = .ok (.ireturn, 1) := zo_172 (zd_b zq_prog_14_method_58_code_6 13 rfl rfl rfl)
theorem d_Mm_charge_149 : decode prog_14_method_58_code 149 = .ok (.aload_n 0, 1) := zo_42 (zd_b zq_prog_14_method_58_code_4 21 rfl rfl rfl)
theorem d_Mm_charge_150 : decode prog_14_method_58_code 150 = .ok (.getfield 65, 3) := zo_180 (d := 0) (e := 65) (zd_b zq_prog_14_method_58_code_4 22 rfl rfl rfl) (zd_b zq_prog_14_method_58_code_4 23 rfl rfl rfl) (zd_b zq_prog_14_method_58_code_4 24 rfl rfl rfl)
theorem fs_Mm_65 : z_fs "IronpourModel" 65 12 19 := ⟨R_Mm, "IronpourModel", F_Mm, 31, rfl, u_Mm, by decide, Or.inl ⟨z_mj7 (i := 102) rfl (by decide +kernel), Or.inl rfl⟩⟩
theorem d_Mm_charge_153 : decode prog_14_method_58_code 153 = .ok (.iload 4, 2) := zo_21 (d := 4) (zd_b zq_prog_14_method_58_code_4 25 rfl rfl rfl) (zd_b zq_prog_14_method_58_code_4 26 rfl rfl rfl)
theorem d_Mm_charge_155 : decode prog_14_method_58_code 155 = .ok (.dup2, 1) := zo_92 (zd_b zq_prog_14_method_58_code_4 27 rfl rfl rfl)
theorem d_Mm_charge_156 : decode prog_14_method_58_code 156 = .ok (.laload, 1) := zo_47 (zd_b zq_prog_14_method_58_code_4 28 rfl rfl rfl)
theorem d_Mm_charge_157 : decode prog_14_method_58_code 157 = .ok (.iload_n 2, 1) := zo_28 (zd_b zq_prog_14_method_58_code_4 29 rfl rfl rfl)
theorem d_Mm_charge_158 : decode prog_14_method_58_code 158 = .ok (.i2l, 1) := zo_133 (zd_b zq_prog_14_method_58_code_4 30 rfl rfl rfl)
theorem d_Mm_charge_159 : decode prog_14_method_58_code 159 = .ok (.iload_n 1, 1) := zo_27 (zd_b zq_prog_14_method_58_code_4 31 rfl rfl rfl)
theorem d_Mm_charge_160 : decode prog_14_method_58_code 160 = .ok (.iload 4, 2) := zo_21 (d := 4) (zd_b zq_prog_14_method_58_code_5 0 rfl rfl rfl) (zd_b zq_prog_14_method_58_code_5 1 rfl rfl rfl)
theorem d_Mm_charge_162 : decode prog_14_method_58_code 162 = .ok (.invokestatic 240, 3) := zo_184 (d := 0) (e := 240) (zd_b zq_prog_14_method_58_code_5 2 rfl rfl rfl) (zd_b zq_prog_14_method_58_code_5 3 rfl rfl rfl) (zd_b zq_prog_14_method_58_code_5 4 rfl rfl rfl)
theorem ok_Mm_charge_Mm_tenths : z_ok M_Mm_charge M_Mm_tenths 2 := ⟨z_mj8 (i := 156) rfl (by decide +kernel), rfl, ⟨by decide +kernel, by decide +kernel, by decide +kernel⟩, ⟨by decide, by decide⟩, z_mj1 (i := 14) rfl (by decide +kernel), rfl⟩
theorem ln_Mm_240 : Cond.methodLink "IronpourModel" 240 M_Mm_tenths.1 ∈ z_gw := z_mj8 (i := 154) rfl (by decide +kernel)
theorem w_st_Mm_tenths : Cond.static M_Mm_tenths.1 ∈ z_gw := z_mj8 (i := 155) rfl (by decide +kernel)
theorem d_Mm_charge_165 : decode prog_14_method_58_code 165 = .ok (.i2l, 1) := zo_133 (zd_b zq_prog_14_method_58_code_5 5 rfl rfl rfl)
theorem d_Mm_charge_166 : decode prog_14_method_58_code 166 = .ok (.lmul, 1) := zo_105 (zd_b zq_prog_14_method_58_code_5 6 rfl rfl rfl)
theorem d_Mm_charge_167 : decode prog_14_method_58_code 167 = .ok (.ldc2_w 244, 3) := zo_20 (d := 0) (e := 244) (zd_b zq_prog_14_method_58_code_5 7 rfl rfl rfl) (zd_b zq_prog_14_method_58_code_5 8 rfl rfl rfl) (zd_b zq_prog_14_method_58_code_5 9 rfl rfl rfl)
theorem ct_Mm_244 : Cond.constantLong "IronpourModel" 244 10 ∈ z_gw := z_mj8 (i := 157) rfl (by decide +kernel)
theorem d_Mm_charge_170 : decode prog_14_method_58_code 170 = .ok (.ldiv, 1) := zo_109 (zd_b zq_prog_14_method_58_code_5 10 rfl rfl rfl)
theorem d_Mm_charge_171 : decode prog_14_method_58_code 171 = .ok (.ladd, 1) := zo_97 (zd_b zq_prog_14_method_58_code_5 11 rfl rfl rfl)
theorem d_Mm_charge_172 : decode prog_14_method_58_code 172 = .ok (.lastore, 1) := zo_80 (zd_b zq_prog_14_method_58_code_5 12 rfl rfl rfl)
theorem d_Mm_charge_173 : decode prog_14_method_58_code 173 = .ok (.iinc 4 1, 3) := by decide +kernel
theorem d_Mm_charge_176 : decode prog_14_method_58_code 176 = .ok (.goto (-33), 3) := zo_167 (d := 255) (e := 223) (zd_b zq_prog_14_method_58_code_5 16 rfl rfl rfl) (zd_b zq_prog_14_method_58_code_5 17 rfl rfl rfl) (zd_b zq_prog_14_method_58_code_5 18 rfl rfl rfl) (by decide +kernel)
theorem d_Mm_charge_80 : decode prog_14_method_58_code 80 = .ok (.iconst 0, 1) := zo_3 (zd_b zq_prog_14_method_58_code_2 16 rfl rfl rfl)
theorem d_Mm_charge_90 : decode prog_14_method_58_code 90 = .ok (.aload_n 0, 1) := zo_42 (zd_b zq_prog_14_method_58_code_2 26 rfl rfl rfl)
theorem d_Mm_charge_91 : decode prog_14_method_58_code 91 = .ok (.iload_n 1, 1) := zo_27 (zd_b zq_prog_14_method_58_code_2 27 rfl rfl rfl)
theorem d_Mm_charge_92 : decode prog_14_method_58_code 92 = .ok (.bipush 107, 2) := zo_16 (d := 107) (zd_b zq_prog_14_method_58_code_2 28 rfl rfl rfl) (zd_b zq_prog_14_method_58_code_2 29 rfl rfl rfl) (by decide +kernel)
theorem d_Mm_charge_94 : decode prog_14_method_58_code 94 = .ok (.if_icmp .eq 21, 3) := zo_159 (d := 0) (e := 21) (zd_b zq_prog_14_method_58_code_2 30 rfl rfl rfl) (zd_b zq_prog_14_method_58_code_2 31 rfl rfl rfl) (zd_b zq_prog_14_method_58_code_3 0 rfl rfl rfl) (by decide +kernel)
theorem d_Mm_charge_97 : decode prog_14_method_58_code 97 = .ok (.aload_n 0, 1) := zo_42 (zd_b zq_prog_14_method_58_code_3 1 rfl rfl rfl)
theorem d_Mm_charge_98 : decode prog_14_method_58_code 98 = .ok (.getfield 62, 3) := zo_180 (d := 0) (e := 62) (zd_b zq_prog_14_method_58_code_3 2 rfl rfl rfl) (zd_b zq_prog_14_method_58_code_3 3 rfl rfl rfl) (zd_b zq_prog_14_method_58_code_3 4 rfl rfl rfl)
theorem d_Mm_charge_101 : decode prog_14_method_58_code 101 = .ok (.iconst 0, 1) := zo_3 (zd_b zq_prog_14_method_58_code_3 5 rfl rfl rfl)
theorem d_Mm_charge_102 : decode prog_14_method_58_code 102 = .ok (.iaload, 1) := zo_46 (zd_b zq_prog_14_method_58_code_3 6 rfl rfl rfl)
theorem d_Mm_charge_103 : decode prog_14_method_58_code 103 = .ok (.iload_n 2, 1) := zo_28 (zd_b zq_prog_14_method_58_code_3 7 rfl rfl rfl)
theorem d_Mm_charge_104 : decode prog_14_method_58_code 104 = .ok (.iadd, 1) := zo_96 (zd_b zq_prog_14_method_58_code_3 8 rfl rfl rfl)
theorem d_Mm_charge_105 : decode prog_14_method_58_code 105 = .ok (.sipush 3000, 3) := zo_17 (d := 11) (e := 184) (zd_b zq_prog_14_method_58_code_3 9 rfl rfl rfl) (zd_b zq_prog_14_method_58_code_3 10 rfl rfl rfl) (zd_b zq_prog_14_method_58_code_3 11 rfl rfl rfl) (by decide +kernel)
theorem d_Mm_charge_108 : decode prog_14_method_58_code 108 = .ok (.if_icmp .le 7, 3) := zo_164 (d := 0) (e := 7) (zd_b zq_prog_14_method_58_code_3 12 rfl rfl rfl) (zd_b zq_prog_14_method_58_code_3 13 rfl rfl rfl) (zd_b zq_prog_14_method_58_code_3 14 rfl rfl rfl) (by decide +kernel)
theorem d_Mm_charge_115 : decode prog_14_method_58_code 115 = .ok (.iconst 0, 1) := zo_3 (zd_b zq_prog_14_method_58_code_3 19 rfl rfl rfl)
theorem d_Mm_charge_116 : decode prog_14_method_58_code 116 = .ok (.iconst 3, 1) := zo_6 (zd_b zq_prog_14_method_58_code_3 20 rfl rfl rfl)
theorem d_Mm_charge_117 : decode prog_14_method_58_code 117 = .ok (.invokevirtual 103, 3) := zo_182 (d := 0) (e := 103) (zd_b zq_prog_14_method_58_code_3 21 rfl rfl rfl) (zd_b zq_prog_14_method_58_code_3 22 rfl rfl rfl) (zd_b zq_prog_14_method_58_code_3 23 rfl rfl rfl)
theorem d_Mm_charge_120 : decode prog_14_method_58_code 120 = .ok (.ifCond .eq 5, 3) := zo_153 (d := 0) (e := 5) (zd_b zq_prog_14_method_58_code_3 24 rfl rfl rfl) (zd_b zq_prog_14_method_58_code_3 25 rfl rfl rfl) (zd_b zq_prog_14_method_58_code_3 26 rfl rfl rfl) (by decide +kernel)
theorem d_Mm_charge_125 : decode prog_14_method_58_code 125 = .ok (.iload_n 3, 1) := zo_29 (zd_b zq_prog_14_method_58_code_3 29 rfl rfl rfl)
theorem d_Mm_charge_126 : decode prog_14_method_58_code 126 = .ok (.iconst (-1), 1) := zo_2 (zd_b zq_prog_14_method_58_code_3 30 rfl rfl rfl)
theorem d_Mm_charge_127 : decode prog_14_method_58_code 127 = .ok (.if_icmp .eq 13, 3) := zo_159 (d := 0) (e := 13) (zd_b zq_prog_14_method_58_code_3 31 rfl rfl rfl) (zd_b zq_prog_14_method_58_code_4 0 rfl rfl rfl) (zd_b zq_prog_14_method_58_code_4 1 rfl rfl rfl) (by decide +kernel)
theorem d_Mm_charge_140 : decode prog_14_method_58_code 140 = .ok (.iconst 0, 1) := zo_3 (zd_b zq_prog_14_method_58_code_4 12 rfl rfl rfl)
theorem d_Mm_charge_141 : decode prog_14_method_58_code 141 = .ok (.istore 4, 2) := zo_54 (d := 4) (zd_b zq_prog_14_method_58_code_4 13 rfl rfl rfl) (zd_b zq_prog_14_method_58_code_4 14 rfl rfl rfl)
set_option maxHeartbeats 4000000 in
set_option maxRecDepth 100000 in
theorem L_Mm_charge112N_143 (g : zG) (m mp mf mh mn mt mz mc_ mq mgr ml mi mr mm mu mk mx : Nat) (th pt cl wa co_ fi bu ho lh mg wd fpi fal : Int32) (po de : Int64) (ir : Nat → Int32) (gr : Nat → Int64) (m1 : Int32) (hw : (1 ≤ m1 ∧ m1 ≤ 1000)) (hg3 : ¬ 3000 < ir 0 + m1) (w0 : zW) (n : Nat) : ∀ (d i : Nat), i ≤ 4 → 4 < i + d → DV g M_Mm_charge (fun o cs1 => o = .inl (some (.int (ir 0 + m1))) ∧ cs1 = [(m, .inr (12, [.int 0, .ref mp, .int pt, .ref mf, .ref mh, .ref mn, .ref mt, .ref mz, .ref mc_, .ref mq, .ref mgr, .int cl, .int wa, .int co_, .int fi, .int bu, .int ho, .ref ml, .ref mi, .ref mr, .int lh, .int mg, .int wd, .int fpi, .int fal, .ref mm, .ref mu, .ref mk, .ref mx, .long po, .long de])), (mi, .inl (0, 4, .inl (upd ir 0 (ir 0 + m1)))), (mr, .inl (3, 16, .inr (.inl (lfd gr (fun e => chS m1 0 e / 10) 4))))]) w0 n 143 [(4, .int (nI i)), (2, .int m1), (1, .int 112), (0, .ref m)] [] [(m, .inr (12, [.int 0, .ref mp, .int pt, .ref mf, .ref mh, .ref mn, .ref mt, .ref mz, .ref mc_, .ref mq, .ref mgr, .int cl, .int wa, .int co_, .int fi, .int bu, .int ho, .ref ml, .ref mi, .ref mr, .int lh, .int mg, .int wd, .int fpi, .int fal, .ref mm, .ref mu, .ref mk, .ref mx, .long po, .long de])), (mi, .inl (0, 4, .inl ir)), (mr, .inl (3, 16, .inr (.inl (lfd gr (fun e => chS m1 0 e / 10) i))))] 0 0 := by
  intro d
  induction d with
  | zero => intro i h1 h2 ; exact absurd h2 (by omega)
  | succ d ih =>
    intro i h1 h2 
    refine r_iload d_Mm_charge_143 0 rfl ?_
    refine r_iconst d_Mm_charge_145 (v := 4) (by decide) ?_
    refine r_icmp_ge (tgt := 179) d_Mm_charge_146 (by decide) (fun c_146 => ?_) (fun c_146 => ?_)
    · have hn := z_le (a := 4) (by omega) (by decide) c_146
      obtain rfl : i = 4 := by omega
      refine r_aload_n d_Mm_charge_179 rfl 3 rfl ?_
      refine r_get fs_Mm_62 d_Mm_charge_180 (q0 := 0) rfl rfl ?_
      refine r_iconst d_Mm_charge_183 (v := 0) (by decide) ?_
      refine r_dup2_11 d_Mm_charge_184 rfl rfl ?_
      refine r_iald d_Mm_charge_185 (q0 := 1) rfl (fun q => q.elim (by decide) (by decide)) (v := ir 0) rfl ?_
      refine r_iload_n d_Mm_charge_186 rfl 2 rfl ?_
      refine r_bipush d_Mm_charge_187 (v := 107) (by decide) ?_
      refine r_icmp_ne (tgt := 196) d_Mm_charge_189 (by decide) (fun c_189 => ?_) (fun c_189 => ?_)
      · refine r_iload_n d_Mm_charge_196 rfl 1 rfl ?_
        refine r_iadd d_Mm_charge_197 (v := (ir 0) + m1) rfl ?_
        refine r_iast d_Mm_charge_198 (q0 := 1) rfl (fun q => q.elim (by decide) (by decide)) (f' := upd ir 0 ((ir 0) + m1)) rfl (cs' := [(m, .inr (12, [.int 0, .ref mp, .int pt, .ref mf, .ref mh, .ref mn, .ref mt, .ref mz, .ref mc_, .ref mq, .ref mgr, .int cl, .int wa, .int co_, .int fi, .int bu, .int ho, .ref ml, .ref mi, .ref mr, .int lh, .int mg, .int wd, .int fpi, .int fal, .ref mm, .ref mu, .ref mk, .ref mx, .long po, .long de])), (mi, .inl (0, 4, .inl (upd ir 0 ((ir 0) + m1)))), (mr, .inl (3, 16, .inr (.inl (lfd gr (fun e => chS m1 0 e / 10) 4))))]) rfl ?_
        refine r_aload_n d_Mm_charge_199 rfl 3 rfl ?_
        refine r_get fs_Mm_62 d_Mm_charge_200 (q0 := 0) rfl rfl ?_
        refine r_iconst d_Mm_charge_203 (v := 0) (by decide) ?_
        refine r_iald d_Mm_charge_204 (q0 := 1) rfl (fun q => q.elim (by decide) (by decide)) (v := ir 0 + m1) rfl ?_
        refine r_iret d_Mm_charge_205 rfl rfl ?_
        exact ⟨rfl, rfl⟩
      · exact absurd c_189 (by decide)
    · have hn := z_nle (a := 4) (by omega) (by decide) c_146
      refine r_aload_n d_Mm_charge_149 rfl 3 rfl ?_
      refine r_get fs_Mm_65 d_Mm_charge_150 (q0 := 0) rfl rfl ?_
      refine r_iload d_Mm_charge_153 0 rfl ?_
      refine r_dup2_11 d_Mm_charge_155 rfl rfl ?_
      refine r_lald d_Mm_charge_156 (q0 := 2) rfl (vp_in_nI (by omega) (by omega)) (v := (lfd gr (fun e => chS m1 0 e / 10) i) i) (by rw [nI_clamp (by omega)]) ?_
      refine r_iload_n d_Mm_charge_157 rfl 1 rfl ?_
      refine r_i2l d_Mm_charge_158 (v := m1.toInt64) rfl ?_
      refine r_iload_n d_Mm_charge_159 rfl 2 rfl ?_
      refine r_iload d_Mm_charge_160 0 rfl ?_
      refine r_callS (As := [.int 112, .int (nI i)]) (rest := [.long m1.toInt64, .long ((lfd gr (fun e => chS m1 0 e / 10) i) i), .int (nI i), .ref mr]) (csC := []) (is := []) ln_Mm_240 w_st_Mm_tenths ok_Mm_charge_Mm_tenths d_Mm_charge_162 (C_Mm_tenths112 g i (by omega)) rfl rfl (Nat.le_of_ble_eq_true rfl) rfl (by decide) (by omega) (by omega) (fun E cs1 hx => ?_) (fun v cs1 hx => ?_)
      · exact absurd hx.1 (by simp)
      · obtain ⟨e1, rfl⟩ := hx
        cases e1
        refine ⟨rfl, ?_⟩
        refine r_st (st2 := [.int ((z_sv 0).getD i 0), .long m1.toInt64, .long ((lfd gr (fun e => chS m1 0 e / 10) i) i), .int (nI i), .ref mr]) rfl ?_
        refine r_cs (cs2 := [(m, .inr (12, [.int 0, .ref mp, .int pt, .ref mf, .ref mh, .ref mn, .ref mt, .ref mz, .ref mc_, .ref mq, .ref mgr, .int cl, .int wa, .int co_, .int fi, .int bu, .int ho, .ref ml, .ref mi, .ref mr, .int lh, .int mg, .int wd, .int fpi, .int fal, .ref mm, .ref mu, .ref mk, .ref mx, .long po, .long de])), (mi, .inl (0, 4, .inl ir)), (mr, .inl (3, 16, .inr (.inl (lfd gr (fun e => chS m1 0 e / 10) i))))]) rfl ?_
        refine r_i2l d_Mm_charge_165 (v := ((z_sv 0).getD i 0).toInt64) rfl ?_
        refine r_lmul d_Mm_charge_166 (v := chS m1 0 i) rfl ?_
        refine r_ldc2 ct_Mm_244 d_Mm_charge_167 ?_
        refine r_ldiv d_Mm_charge_170 (v := (chS m1 0 i) / 10) (by decide) rfl ?_
        refine r_ladd d_Mm_charge_171 (v := ((lfd gr (fun e => chS m1 0 e / 10) i) i) + ((chS m1 0 i) / 10)) rfl ?_
        refine r_last d_Mm_charge_172 (q0 := 2) rfl (vp_in_nI (by omega) (by omega)) (f' := lfd gr (fun e => chS m1 0 e / 10) (i + 1)) (by rw [nI_clamp (by omega)] <;> rfl) (cs' := [(m, .inr (12, [.int 0, .ref mp, .int pt, .ref mf, .ref mh, .ref mn, .ref mt, .ref mz, .ref mc_, .ref mq, .ref mgr, .int cl, .int wa, .int co_, .int fi, .int bu, .int ho, .ref ml, .ref mi, .ref mr, .int lh, .int mg, .int wd, .int fpi, .int fal, .ref mm, .ref mu, .ref mk, .ref mx, .long po, .long de])), (mi, .inl (0, 4, .inl ir)), (mr, .inl (3, 16, .inr (.inl (lfd gr (fun e => chS m1 0 e / 10) (i + 1)))))]) rfl ?_
        refine r_iinc (lv' := [(4, .int (nI (i + 1))), (2, .int m1), (1, .int 112), (0, .ref m)]) (v := nI (i + 1)) d_Mm_charge_173 (j := 0) rfl (nI_add _ _) (by decide) rfl ?_
        refine r_goto (tgt := 143) d_Mm_charge_176 (by decide) ?_
        refine r_lvE (lv2 := [(4, .int (nI (i + 1))), (2, .int m1), (1, .int 112), (0, .ref m)]) (rfl) ?_
        refine r_cs (cs2 := [(m, .inr (12, [.int 0, .ref mp, .int pt, .ref mf, .ref mh, .ref mn, .ref mt, .ref mz, .ref mc_, .ref mq, .ref mgr, .int cl, .int wa, .int co_, .int fi, .int bu, .int ho, .ref ml, .ref mi, .ref mr, .int lh, .int mg, .int wd, .int fpi, .int fal, .ref mm, .ref mu, .ref mk, .ref mx, .long po, .long de])), (mi, .inl (0, 4, .inl ir)), (mr, .inl (3, 16, .inr (.inl (lfd gr (fun e => chS m1 0 e / 10) (i + 1)))))]) (rfl) ?_
        exact ih (i + 1) (by omega) (by omega)
set_option maxHeartbeats 4000000 in
set_option maxRecDepth 100000 in
theorem C_Mm_charge112N (g : zG) (m mp mf mh mn mt mz mc_ mq mgr ml mi mr mm mu mk mx : Nat) (th pt cl wa co_ fi bu ho lh mg wd fpi fal : Int32) (po de : Int64) (ir : Nat → Int32) (gr : Nat → Int64) (m1 : Int32) (hw : (1 ≤ m1 ∧ m1 ≤ 1000)) (hg3 : ¬ 3000 < ir 0 + m1) : CT g M_Mm_charge [.ref m, .int 112, .int m1] [(m, .inr (12, [.int th, .ref mp, .int pt, .ref mf, .ref mh, .ref mn, .ref mt, .ref mz, .ref mc_, .ref mq, .ref mgr, .int cl, .int wa, .int co_, .int fi, .int bu, .int ho, .ref ml, .ref mi, .ref mr, .int lh, .int mg, .int wd, .int fpi, .int fal, .ref mm, .ref mu, .ref mk, .ref mx, .long po, .long de])), (mi, .inl (0, 4, .inl ir)), (mr, .inl (3, 16, .inr (.inl gr)))] (fun o cs1 => o = .inl (some (.int (ir 0 + m1))) ∧ cs1 = [(m, .inr (12, [.int 0, .ref mp, .int pt, .ref mf, .ref mh, .ref mn, .ref mt, .ref mz, .ref mc_, .ref mq, .ref mgr, .int cl, .int wa, .int co_, .int fi, .int bu, .int ho, .ref ml, .ref mi, .ref mr, .int lh, .int mg, .int wd, .int fpi, .int fal, .ref mm, .ref mu, .ref mk, .ref mx, .long po, .long de])), (mi, .inl (0, 4, .inl (upd ir 0 (ir 0 + m1)))), (mr, .inl (3, 16, .inr (.inl (lfd gr (fun e => chS m1 0 e / 10) 4))))]) 0 0 := by
  refine z_of (by decide) rfl (Nat.le_of_ble_eq_true rfl) (fun w0 => ?_)
  refine r_lvE (lv2 := [(0, .ref m), (1, .int 112), (2, .int m1)]) rfl ?_
  refine r_aload_n d_Mm_charge_0 rfl 0 rfl ?_
  refine r_iconst d_Mm_charge_1 (v := 0) (by decide) ?_
  refine r_put fp_Mm_84 d_Mm_charge_2 (fun h => nomatch h) rfl rfl (q0 := 0) rfl (Nat.le_of_ble_eq_true rfl) (cs' := [(m, .inr (12, [.int 0, .ref mp, .int pt, .ref mf, .ref mh, .ref mn, .ref mt, .ref mz, .ref mc_, .ref mq, .ref mgr, .int cl, .int wa, .int co_, .int fi, .int bu, .int ho, .ref ml, .ref mi, .ref mr, .int lh, .int mg, .int wd, .int fpi, .int fal, .ref mm, .ref mu, .ref mk, .ref mx, .long po, .long de])), (mi, .inl (0, 4, .inl ir)), (mr, .inl (3, 16, .inr (.inl gr)))]) rfl ?_
  refine r_iload_n d_Mm_charge_5 rfl 1 rfl ?_
  refine r_bipush d_Mm_charge_6 (v := 103) (by decide) ?_
  refine r_icmp_ne (tgt := 15) d_Mm_charge_8 (by decide) (fun c_8 => ?_) (fun c_8 => ?_)
  · refine r_iload_n d_Mm_charge_15 rfl 1 rfl ?_
    refine r_bipush d_Mm_charge_16 (v := 100) (by decide) ?_
    refine r_icmp_ne (tgt := 25) d_Mm_charge_18 (by decide) (fun c_18 => ?_) (fun c_18 => ?_)
    · refine r_iconst d_Mm_charge_25 (v := (-1)) (by decide) ?_
      refine r_istore_n (lv' := [(3, .int (-1)), (0, .ref m), (1, .int 112), (2, .int m1)]) d_Mm_charge_26 rfl (by decide) rfl ?_
      refine r_aload_n d_Mm_charge_27 rfl 1 rfl ?_
      refine r_ldcS (own := "IronpourModel") (i := 1) (by decide) d_Mm_charge_28 ?_
      refine r_iload_n d_Mm_charge_30 rfl 2 rfl ?_
      refine r_callVS (As := [.int 112]) (rest := [.ref m]) (csC := []) (is := []) (i := 1) (by first | assumption | decide) rfl ln_Mm_97 w_im_String_indexOf_0 w_se_String_indexOf_0 ok_Mm_charge_String_indexOf_0 d_Mm_charge_31 (C_St_indexOf g 1 (by decide) 112) rfl rfl (Nat.le_of_ble_eq_true rfl) rfl (by decide) (by omega) (by omega) (fun E cs1 hx => ?_) (fun v cs1 hx => ?_)
      · exact absurd hx.1 (by simp)
      · obtain ⟨e1, rfl⟩ := hx
        cases e1
        refine ⟨rfl, ?_⟩
        refine r_st (st2 := [.int (z_ix 1 112), .ref m]) rfl ?_
        refine r_cs (cs2 := [(m, .inr (12, [.int 0, .ref mp, .int pt, .ref mf, .ref mh, .ref mn, .ref mt, .ref mz, .ref mc_, .ref mq, .ref mgr, .int cl, .int wa, .int co_, .int fi, .int bu, .int ho, .ref ml, .ref mi, .ref mr, .int lh, .int mg, .int wd, .int fpi, .int fal, .ref mm, .ref mu, .ref mk, .ref mx, .long po, .long de])), (mi, .inl (0, 4, .inl ir)), (mr, .inl (3, 16, .inr (.inl gr)))]) rfl ?_
        refine r_if_lt (tgt := 48) d_Mm_charge_34 (by decide) (fun c_34 => ?_) (fun c_34 => ?_)
        · exact absurd c_34 (by decide)
        · refine r_iload_n d_Mm_charge_37 rfl 3 rfl ?_
          refine r_iconst d_Mm_charge_38 (v := 1) (by decide) ?_
          refine r_sipush d_Mm_charge_39 (v := 1000) (by decide) ?_
          refine r_callS (As := [.int m1, .int 1, .int 1000]) (rest := [.ref m]) (csC := []) (is := []) ln_Mm_87 w_st_Mm_in ok_Mm_charge_Mm_in d_Mm_charge_42 (C_Mm_in g m1 1 1000) rfl rfl (Nat.le_of_ble_eq_true rfl) rfl (by decide) (by omega) (by omega) (fun E cs1 hx => ?_) (fun v cs1 hx => ?_)
          · exact absurd hx.1 (by simp)
          · obtain ⟨e1, rfl⟩ := hx
            rw [if_pos hw] at e1
            cases e1
            refine ⟨rfl, ?_⟩
            refine r_st (st2 := [.int 1, .ref m]) rfl ?_
            refine r_cs (cs2 := [(m, .inr (12, [.int 0, .ref mp, .int pt, .ref mf, .ref mh, .ref mn, .ref mt, .ref mz, .ref mc_, .ref mq, .ref mgr, .int cl, .int wa, .int co_, .int fi, .int bu, .int ho, .ref ml, .ref mi, .ref mr, .int lh, .int mg, .int wd, .int fpi, .int fal, .ref mm, .ref mu, .ref mk, .ref mx, .long po, .long de])), (mi, .inl (0, 4, .inl ir)), (mr, .inl (3, 16, .inr (.inl gr)))]) rfl ?_
            refine r_if_ne (tgt := 52) d_Mm_charge_45 (by decide) (fun c_45 => ?_) (fun c_45 => ?_)
            · refine r_iconst d_Mm_charge_52 (v := 0) (by decide) ?_
              refine r_iconst d_Mm_charge_53 (v := 1) (by decide) ?_
              refine r_callV (As := [.int 0, .int 1]) (rest := []) (csC := [(m, .inr (12, [.int 0, .ref mp, .int pt, .ref mf, .ref mh, .ref mn, .ref mt, .ref mz, .ref mc_, .ref mq, .ref mgr, .int cl, .int wa, .int co_, .int fi, .int bu, .int ho, .ref ml, .ref mi, .ref mr, .int lh, .int mg, .int wd, .int fpi, .int fal, .ref mm, .ref mu, .ref mk, .ref mx, .long po, .long de]))]) (is := [0]) (q0 := 0) rfl rfl ln_Mm_103 w_im_Mm_fails w_se_Mm_fails ok_Mm_charge_Mm_fails d_Mm_charge_54 (C_Mm_fails0 g m mp mf mh mn mt mz mc_ mq mgr ml mi mr mm mu mk mx th pt cl wa co_ fi bu ho lh mg wd fpi fal po de 1) rfl rfl (Nat.le_of_ble_eq_true rfl) rfl (by decide) (by omega) (by omega) (fun E cs1 hx => ?_) (fun v cs1 hx => ?_)
              · exact absurd hx.1 (by simp)
              · obtain ⟨e1, rfl⟩ := hx
                cases e1
                refine ⟨rfl, ?_⟩
                refine r_st (st2 := [.int 0]) rfl ?_
                refine r_cs (cs2 := [(m, .inr (12, [.int 0, .ref mp, .int pt, .ref mf, .ref mh, .ref mn, .ref mt, .ref mz, .ref mc_, .ref mq, .ref mgr, .int cl, .int wa, .int co_, .int fi, .int bu, .int ho, .ref ml, .ref mi, .ref mr, .int lh, .int mg, .int wd, .int fpi, .int fal, .ref mm, .ref mu, .ref mk, .ref mx, .long po, .long de])), (mi, .inl (0, 4, .inl ir)), (mr, .inl (3, 16, .inr (.inl gr)))]) rfl ?_
                refine r_if_ne (tgt := 88) d_Mm_charge_57 (by decide) (fun c_57 => ?_) (fun c_57 => ?_)
                · exact absurd c_57 (by decide)
                · refine r_aload_n d_Mm_charge_60 rfl 1 rfl ?_
                  refine r_iload_n d_Mm_charge_61 rfl 0 rfl ?_
                  refine r_iconst d_Mm_charge_62 (v := (-1)) (by decide) ?_
                  refine r_icmp_eq (tgt := 80) d_Mm_charge_63 (by decide) (fun c_63 => ?_) (fun c_63 => ?_)
                  · refine r_iconst d_Mm_charge_80 (v := 0) (by decide) ?_
                    refine r_iconst d_Mm_charge_81 (v := 2) (by decide) ?_
                    refine r_callV (As := [.int 0, .int 2]) (rest := []) (csC := [(m, .inr (12, [.int 0, .ref mp, .int pt, .ref mf, .ref mh, .ref mn, .ref mt, .ref mz, .ref mc_, .ref mq, .ref mgr, .int cl, .int wa, .int co_, .int fi, .int bu, .int ho, .ref ml, .ref mi, .ref mr, .int lh, .int mg, .int wd, .int fpi, .int fal, .ref mm, .ref mu, .ref mk, .ref mx, .long po, .long de]))]) (is := [0]) (q0 := 0) rfl rfl ln_Mm_103 w_im_Mm_fails w_se_Mm_fails ok_Mm_charge_Mm_fails d_Mm_charge_82 (C_Mm_fails0 g m mp mf mh mn mt mz mc_ mq mgr ml mi mr mm mu mk mx th pt cl wa co_ fi bu ho lh mg wd fpi fal po de 2) rfl rfl (Nat.le_of_ble_eq_true rfl) rfl (by decide) (by omega) (by omega) (fun E cs1 hx => ?_) (fun v cs1 hx => ?_)
                    · exact absurd hx.1 (by simp)
                    · obtain ⟨e1, rfl⟩ := hx
                      cases e1
                      refine ⟨rfl, ?_⟩
                      refine r_st (st2 := [.int 0]) rfl ?_
                      refine r_cs (cs2 := [(m, .inr (12, [.int 0, .ref mp, .int pt, .ref mf, .ref mh, .ref mn, .ref mt, .ref mz, .ref mc_, .ref mq, .ref mgr, .int cl, .int wa, .int co_, .int fi, .int bu, .int ho, .ref ml, .ref mi, .ref mr, .int lh, .int mg, .int wd, .int fpi, .int fal, .ref mm, .ref mu, .ref mk, .ref mx, .long po, .long de])), (mi, .inl (0, 4, .inl ir)), (mr, .inl (3, 16, .inr (.inl gr)))]) rfl ?_
                      refine r_if_eq (tgt := 90) d_Mm_charge_85 (by decide) (fun c_85 => ?_) (fun c_85 => ?_)
                      · refine r_aload_n d_Mm_charge_90 rfl 1 rfl ?_
                        refine r_iload_n d_Mm_charge_91 rfl 2 rfl ?_
                        refine r_bipush d_Mm_charge_92 (v := 107) (by decide) ?_
                        refine r_icmp_eq (tgt := 115) d_Mm_charge_94 (by decide) (fun c_94 => ?_) (fun c_94 => ?_)
                        · exact absurd c_94 (by decide)
                        · refine r_aload_n d_Mm_charge_97 rfl 1 rfl ?_
                          refine r_get fs_Mm_62 d_Mm_charge_98 (q0 := 0) rfl rfl ?_
                          refine r_iconst d_Mm_charge_101 (v := 0) (by decide) ?_
                          refine r_iald d_Mm_charge_102 (q0 := 1) rfl (fun q => q.elim (by decide) (by decide)) (v := ir 0) rfl ?_
                          refine r_iload_n d_Mm_charge_103 rfl 3 rfl ?_
                          refine r_iadd d_Mm_charge_104 (v := (ir 0) + m1) rfl ?_
                          refine r_sipush d_Mm_charge_105 (v := 3000) (by decide) ?_
                          refine r_icmp_le (tgt := 115) d_Mm_charge_108 (by decide) (fun c_108 => ?_) (fun c_108 => ?_)
                          · refine r_iconst d_Mm_charge_115 (v := 0) (by decide) ?_
                            refine r_iconst d_Mm_charge_116 (v := 3) (by decide) ?_
                            refine r_callV (As := [.int 0, .int 3]) (rest := []) (csC := [(m, .inr (12, [.int 0, .ref mp, .int pt, .ref mf, .ref mh, .ref mn, .ref mt, .ref mz, .ref mc_, .ref mq, .ref mgr, .int cl, .int wa, .int co_, .int fi, .int bu, .int ho, .ref ml, .ref mi, .ref mr, .int lh, .int mg, .int wd, .int fpi, .int fal, .ref mm, .ref mu, .ref mk, .ref mx, .long po, .long de]))]) (is := [0]) (q0 := 0) rfl rfl ln_Mm_103 w_im_Mm_fails w_se_Mm_fails ok_Mm_charge_Mm_fails d_Mm_charge_117 (C_Mm_fails0 g m mp mf mh mn mt mz mc_ mq mgr ml mi mr mm mu mk mx th pt cl wa co_ fi bu ho lh mg wd fpi fal po de 3) rfl rfl (Nat.le_of_ble_eq_true rfl) rfl (by decide) (by omega) (by omega) (fun E cs1 hx => ?_) (fun v cs1 hx => ?_)
                            · exact absurd hx.1 (by simp)
                            · obtain ⟨e1, rfl⟩ := hx
                              cases e1
                              refine ⟨rfl, ?_⟩
                              refine r_st (st2 := [.int 0]) rfl ?_
                              refine r_cs (cs2 := [(m, .inr (12, [.int 0, .ref mp, .int pt, .ref mf, .ref mh, .ref mn, .ref mt, .ref mz, .ref mc_, .ref mq, .ref mgr, .int cl, .int wa, .int co_, .int fi, .int bu, .int ho, .ref ml, .ref mi, .ref mr, .int lh, .int mg, .int wd, .int fpi, .int fal, .ref mm, .ref mu, .ref mk, .ref mx, .long po, .long de])), (mi, .inl (0, 4, .inl ir)), (mr, .inl (3, 16, .inr (.inl gr)))]) rfl ?_
                              refine r_if_eq (tgt := 125) d_Mm_charge_120 (by decide) (fun c_120 => ?_) (fun c_120 => ?_)
                              · refine r_iload_n d_Mm_charge_125 rfl 0 rfl ?_
                                refine r_iconst d_Mm_charge_126 (v := (-1)) (by decide) ?_
                                refine r_icmp_eq (tgt := 140) d_Mm_charge_127 (by decide) (fun c_127 => ?_) (fun c_127 => ?_)
                                · refine r_iconst d_Mm_charge_140 (v := 0) (by decide) ?_
                                  refine r_istore (lv' := [(4, .int 0), (3, .int (-1)), (0, .ref m), (1, .int 112), (2, .int m1)]) d_Mm_charge_141 (by decide) rfl ?_
                                  refine r_lv (lv' := [(4, .int 0), (2, .int m1), (1, .int 112), (0, .ref m)]) [0, 4, 3, 2] rfl ?_
                                  refine r_lvE (lv2 := [(4, .int (nI 0)), (2, .int m1), (1, .int 112), (0, .ref m)]) (rfl) ?_
                                  refine r_cs (cs2 := [(m, .inr (12, [.int 0, .ref mp, .int pt, .ref mf, .ref mh, .ref mn, .ref mt, .ref mz, .ref mc_, .ref mq, .ref mgr, .int cl, .int wa, .int co_, .int fi, .int bu, .int ho, .ref ml, .ref mi, .ref mr, .int lh, .int mg, .int wd, .int fpi, .int fal, .ref mm, .ref mu, .ref mk, .ref mx, .long po, .long de])), (mi, .inl (0, 4, .inl ir)), (mr, .inl (3, 16, .inr (.inl (lfd gr (fun e => chS m1 0 e / 10) 0))))]) (rfl) ?_
                                  exact L_Mm_charge112N_143 g m mp mf mh mn mt mz mc_ mq mgr ml mi mr mm mu mk mx th pt cl wa co_ fi bu ho lh mg wd fpi fal po de ir gr m1 hw hg3 w0 _  (4 + 1) 0 (Nat.zero_le _) (by omega)
                                · exact absurd c_127 (by decide)
                              · exact absurd c_120 (by decide)
                          · exact absurd (Int32.not_le.mp c_108) hg3
                      · exact absurd c_85 (by decide)
                  · exact absurd c_63 (by decide)
            · exact absurd c_45 (by decide)
    · exact absurd c_18 (by decide)
  · exact absurd c_8 (by decide)
set_option maxHeartbeats 4000000 in
set_option maxRecDepth 100000 in
theorem L_Mm_charge115N_143 (g : zG) (m mp mf mh mn mt mz mc_ mq mgr ml mi mr mm mu mk mx : Nat) (th pt cl wa co_ fi bu ho lh mg wd fpi fal : Int32) (po de : Int64) (ir : Nat → Int32) (gr : Nat → Int64) (m1 : Int32) (hw : (1 ≤ m1 ∧ m1 ≤ 1000)) (hg3 : ¬ 3000 < ir 0 + m1) (w0 : zW) (n : Nat) : ∀ (d i : Nat), i ≤ 4 → 4 < i + d → DV g M_Mm_charge (fun o cs1 => o = .inl (some (.int (ir 0 + m1))) ∧ cs1 = [(m, .inr (12, [.int 0, .ref mp, .int pt, .ref mf, .ref mh, .ref mn, .ref mt, .ref mz, .ref mc_, .ref mq, .ref mgr, .int cl, .int wa, .int co_, .int fi, .int bu, .int ho, .ref ml, .ref mi, .ref mr, .int lh, .int mg, .int wd, .int fpi, .int fal, .ref mm, .ref mu, .ref mk, .ref mx, .long po, .long de])), (mi, .inl (0, 4, .inl (upd ir 0 (ir 0 + m1)))), (mr, .inl (3, 16, .inr (.inl (lfd gr (fun e => chS m1 1 e / 10) 4))))]) w0 n 143 [(4, .int (nI i)), (2, .int m1), (1, .int 115), (0, .ref m)] [] [(m, .inr (12, [.int 0, .ref mp, .int pt, .ref mf, .ref mh, .ref mn, .ref mt, .ref mz, .ref mc_, .ref mq, .ref mgr, .int cl, .int wa, .int co_, .int fi, .int bu, .int ho, .ref ml, .ref mi, .ref mr, .int lh, .int mg, .int wd, .int fpi, .int fal, .ref mm, .ref mu, .ref mk, .ref mx, .long po, .long de])), (mi, .inl (0, 4, .inl ir)), (mr, .inl (3, 16, .inr (.inl (lfd gr (fun e => chS m1 1 e / 10) i))))] 0 0 := by
  intro d
  induction d with
  | zero => intro i h1 h2 ; exact absurd h2 (by omega)
  | succ d ih =>
    intro i h1 h2 
    refine r_iload d_Mm_charge_143 0 rfl ?_
    refine r_iconst d_Mm_charge_145 (v := 4) (by decide) ?_
    refine r_icmp_ge (tgt := 179) d_Mm_charge_146 (by decide) (fun c_146 => ?_) (fun c_146 => ?_)
    · have hn := z_le (a := 4) (by omega) (by decide) c_146
      obtain rfl : i = 4 := by omega
      refine r_aload_n d_Mm_charge_179 rfl 3 rfl ?_
      refine r_get fs_Mm_62 d_Mm_charge_180 (q0 := 0) rfl rfl ?_
      refine r_iconst d_Mm_charge_183 (v := 0) (by decide) ?_
      refine r_dup2_11 d_Mm_charge_184 rfl rfl ?_
      refine r_iald d_Mm_charge_185 (q0 := 1) rfl (fun q => q.elim (by decide) (by decide)) (v := ir 0) rfl ?_
      refine r_iload_n d_Mm_charge_186 rfl 2 rfl ?_
      refine r_bipush d_Mm_charge_187 (v := 107) (by decide) ?_
      refine r_icmp_ne (tgt := 196) d_Mm_charge_189 (by decide) (fun c_189 => ?_) (fun c_189 => ?_)
      · refine r_iload_n d_Mm_charge_196 rfl 1 rfl ?_
        refine r_iadd d_Mm_charge_197 (v := (ir 0) + m1) rfl ?_
        refine r_iast d_Mm_charge_198 (q0 := 1) rfl (fun q => q.elim (by decide) (by decide)) (f' := upd ir 0 ((ir 0) + m1)) rfl (cs' := [(m, .inr (12, [.int 0, .ref mp, .int pt, .ref mf, .ref mh, .ref mn, .ref mt, .ref mz, .ref mc_, .ref mq, .ref mgr, .int cl, .int wa, .int co_, .int fi, .int bu, .int ho, .ref ml, .ref mi, .ref mr, .int lh, .int mg, .int wd, .int fpi, .int fal, .ref mm, .ref mu, .ref mk, .ref mx, .long po, .long de])), (mi, .inl (0, 4, .inl (upd ir 0 ((ir 0) + m1)))), (mr, .inl (3, 16, .inr (.inl (lfd gr (fun e => chS m1 1 e / 10) 4))))]) rfl ?_
        refine r_aload_n d_Mm_charge_199 rfl 3 rfl ?_
        refine r_get fs_Mm_62 d_Mm_charge_200 (q0 := 0) rfl rfl ?_
        refine r_iconst d_Mm_charge_203 (v := 0) (by decide) ?_
        refine r_iald d_Mm_charge_204 (q0 := 1) rfl (fun q => q.elim (by decide) (by decide)) (v := ir 0 + m1) rfl ?_
        refine r_iret d_Mm_charge_205 rfl rfl ?_
        exact ⟨rfl, rfl⟩
      · exact absurd c_189 (by decide)
    · have hn := z_nle (a := 4) (by omega) (by decide) c_146
      refine r_aload_n d_Mm_charge_149 rfl 3 rfl ?_
      refine r_get fs_Mm_65 d_Mm_charge_150 (q0 := 0) rfl rfl ?_
      refine r_iload d_Mm_charge_153 0 rfl ?_
      refine r_dup2_11 d_Mm_charge_155 rfl rfl ?_
      refine r_lald d_Mm_charge_156 (q0 := 2) rfl (vp_in_nI (by omega) (by omega)) (v := (lfd gr (fun e => chS m1 1 e / 10) i) i) (by rw [nI_clamp (by omega)]) ?_
      refine r_iload_n d_Mm_charge_157 rfl 1 rfl ?_
      refine r_i2l d_Mm_charge_158 (v := m1.toInt64) rfl ?_
      refine r_iload_n d_Mm_charge_159 rfl 2 rfl ?_
      refine r_iload d_Mm_charge_160 0 rfl ?_
      refine r_callS (As := [.int 115, .int (nI i)]) (rest := [.long m1.toInt64, .long ((lfd gr (fun e => chS m1 1 e / 10) i) i), .int (nI i), .ref mr]) (csC := []) (is := []) ln_Mm_240 w_st_Mm_tenths ok_Mm_charge_Mm_tenths d_Mm_charge_162 (C_Mm_tenths115 g i (by omega)) rfl rfl (Nat.le_of_ble_eq_true rfl) rfl (by decide) (by omega) (by omega) (fun E cs1 hx => ?_) (fun v cs1 hx => ?_)
      · exact absurd hx.1 (by simp)
      · obtain ⟨e1, rfl⟩ := hx
        cases e1
        refine ⟨rfl, ?_⟩
        refine r_st (st2 := [.int ((z_sv 1).getD i 0), .long m1.toInt64, .long ((lfd gr (fun e => chS m1 1 e / 10) i) i), .int (nI i), .ref mr]) rfl ?_
        refine r_cs (cs2 := [(m, .inr (12, [.int 0, .ref mp, .int pt, .ref mf, .ref mh, .ref mn, .ref mt, .ref mz, .ref mc_, .ref mq, .ref mgr, .int cl, .int wa, .int co_, .int fi, .int bu, .int ho, .ref ml, .ref mi, .ref mr, .int lh, .int mg, .int wd, .int fpi, .int fal, .ref mm, .ref mu, .ref mk, .ref mx, .long po, .long de])), (mi, .inl (0, 4, .inl ir)), (mr, .inl (3, 16, .inr (.inl (lfd gr (fun e => chS m1 1 e / 10) i))))]) rfl ?_
        refine r_i2l d_Mm_charge_165 (v := ((z_sv 1).getD i 0).toInt64) rfl ?_
        refine r_lmul d_Mm_charge_166 (v := chS m1 1 i) rfl ?_
        refine r_ldc2 ct_Mm_244 d_Mm_charge_167 ?_
        refine r_ldiv d_Mm_charge_170 (v := (chS m1 1 i) / 10) (by decide) rfl ?_
        refine r_ladd d_Mm_charge_171 (v := ((lfd gr (fun e => chS m1 1 e / 10) i) i) + ((chS m1 1 i) / 10)) rfl ?_
        refine r_last d_Mm_charge_172 (q0 := 2) rfl (vp_in_nI (by omega) (by omega)) (f' := lfd gr (fun e => chS m1 1 e / 10) (i + 1)) (by rw [nI_clamp (by omega)] <;> rfl) (cs' := [(m, .inr (12, [.int 0, .ref mp, .int pt, .ref mf, .ref mh, .ref mn, .ref mt, .ref mz, .ref mc_, .ref mq, .ref mgr, .int cl, .int wa, .int co_, .int fi, .int bu, .int ho, .ref ml, .ref mi, .ref mr, .int lh, .int mg, .int wd, .int fpi, .int fal, .ref mm, .ref mu, .ref mk, .ref mx, .long po, .long de])), (mi, .inl (0, 4, .inl ir)), (mr, .inl (3, 16, .inr (.inl (lfd gr (fun e => chS m1 1 e / 10) (i + 1)))))]) rfl ?_
        refine r_iinc (lv' := [(4, .int (nI (i + 1))), (2, .int m1), (1, .int 115), (0, .ref m)]) (v := nI (i + 1)) d_Mm_charge_173 (j := 0) rfl (nI_add _ _) (by decide) rfl ?_
        refine r_goto (tgt := 143) d_Mm_charge_176 (by decide) ?_
        refine r_lvE (lv2 := [(4, .int (nI (i + 1))), (2, .int m1), (1, .int 115), (0, .ref m)]) (rfl) ?_
        refine r_cs (cs2 := [(m, .inr (12, [.int 0, .ref mp, .int pt, .ref mf, .ref mh, .ref mn, .ref mt, .ref mz, .ref mc_, .ref mq, .ref mgr, .int cl, .int wa, .int co_, .int fi, .int bu, .int ho, .ref ml, .ref mi, .ref mr, .int lh, .int mg, .int wd, .int fpi, .int fal, .ref mm, .ref mu, .ref mk, .ref mx, .long po, .long de])), (mi, .inl (0, 4, .inl ir)), (mr, .inl (3, 16, .inr (.inl (lfd gr (fun e => chS m1 1 e / 10) (i + 1)))))]) (rfl) ?_
        exact ih (i + 1) (by omega) (by omega)
set_option maxHeartbeats 4000000 in
set_option maxRecDepth 100000 in
theorem C_Mm_charge115N (g : zG) (m mp mf mh mn mt mz mc_ mq mgr ml mi mr mm mu mk mx : Nat) (th pt cl wa co_ fi bu ho lh mg wd fpi fal : Int32) (po de : Int64) (ir : Nat → Int32) (gr : Nat → Int64) (m1 : Int32) (hw : (1 ≤ m1 ∧ m1 ≤ 1000)) (hg3 : ¬ 3000 < ir 0 + m1) : CT g M_Mm_charge [.ref m, .int 115, .int m1] [(m, .inr (12, [.int th, .ref mp, .int pt, .ref mf, .ref mh, .ref mn, .ref mt, .ref mz, .ref mc_, .ref mq, .ref mgr, .int cl, .int wa, .int co_, .int fi, .int bu, .int ho, .ref ml, .ref mi, .ref mr, .int lh, .int mg, .int wd, .int fpi, .int fal, .ref mm, .ref mu, .ref mk, .ref mx, .long po, .long de])), (mi, .inl (0, 4, .inl ir)), (mr, .inl (3, 16, .inr (.inl gr)))] (fun o cs1 => o = .inl (some (.int (ir 0 + m1))) ∧ cs1 = [(m, .inr (12, [.int 0, .ref mp, .int pt, .ref mf, .ref mh, .ref mn, .ref mt, .ref mz, .ref mc_, .ref mq, .ref mgr, .int cl, .int wa, .int co_, .int fi, .int bu, .int ho, .ref ml, .ref mi, .ref mr, .int lh, .int mg, .int wd, .int fpi, .int fal, .ref mm, .ref mu, .ref mk, .ref mx, .long po, .long de])), (mi, .inl (0, 4, .inl (upd ir 0 (ir 0 + m1)))), (mr, .inl (3, 16, .inr (.inl (lfd gr (fun e => chS m1 1 e / 10) 4))))]) 0 0 := by
  refine z_of (by decide) rfl (Nat.le_of_ble_eq_true rfl) (fun w0 => ?_)
  refine r_lvE (lv2 := [(0, .ref m), (1, .int 115), (2, .int m1)]) rfl ?_
  refine r_aload_n d_Mm_charge_0 rfl 0 rfl ?_
  refine r_iconst d_Mm_charge_1 (v := 0) (by decide) ?_
  refine r_put fp_Mm_84 d_Mm_charge_2 (fun h => nomatch h) rfl rfl (q0 := 0) rfl (Nat.le_of_ble_eq_true rfl) (cs' := [(m, .inr (12, [.int 0, .ref mp, .int pt, .ref mf, .ref mh, .ref mn, .ref mt, .ref mz, .ref mc_, .ref mq, .ref mgr, .int cl, .int wa, .int co_, .int fi, .int bu, .int ho, .ref ml, .ref mi, .ref mr, .int lh, .int mg, .int wd, .int fpi, .int fal, .ref mm, .ref mu, .ref mk, .ref mx, .long po, .long de])), (mi, .inl (0, 4, .inl ir)), (mr, .inl (3, 16, .inr (.inl gr)))]) rfl ?_
  refine r_iload_n d_Mm_charge_5 rfl 1 rfl ?_
  refine r_bipush d_Mm_charge_6 (v := 103) (by decide) ?_
  refine r_icmp_ne (tgt := 15) d_Mm_charge_8 (by decide) (fun c_8 => ?_) (fun c_8 => ?_)
  · refine r_iload_n d_Mm_charge_15 rfl 1 rfl ?_
    refine r_bipush d_Mm_charge_16 (v := 100) (by decide) ?_
    refine r_icmp_ne (tgt := 25) d_Mm_charge_18 (by decide) (fun c_18 => ?_) (fun c_18 => ?_)
    · refine r_iconst d_Mm_charge_25 (v := (-1)) (by decide) ?_
      refine r_istore_n (lv' := [(3, .int (-1)), (0, .ref m), (1, .int 115), (2, .int m1)]) d_Mm_charge_26 rfl (by decide) rfl ?_
      refine r_aload_n d_Mm_charge_27 rfl 1 rfl ?_
      refine r_ldcS (own := "IronpourModel") (i := 1) (by decide) d_Mm_charge_28 ?_
      refine r_iload_n d_Mm_charge_30 rfl 2 rfl ?_
      refine r_callVS (As := [.int 115]) (rest := [.ref m]) (csC := []) (is := []) (i := 1) (by first | assumption | decide) rfl ln_Mm_97 w_im_String_indexOf_0 w_se_String_indexOf_0 ok_Mm_charge_String_indexOf_0 d_Mm_charge_31 (C_St_indexOf g 1 (by decide) 115) rfl rfl (Nat.le_of_ble_eq_true rfl) rfl (by decide) (by omega) (by omega) (fun E cs1 hx => ?_) (fun v cs1 hx => ?_)
      · exact absurd hx.1 (by simp)
      · obtain ⟨e1, rfl⟩ := hx
        cases e1
        refine ⟨rfl, ?_⟩
        refine r_st (st2 := [.int (z_ix 1 115), .ref m]) rfl ?_
        refine r_cs (cs2 := [(m, .inr (12, [.int 0, .ref mp, .int pt, .ref mf, .ref mh, .ref mn, .ref mt, .ref mz, .ref mc_, .ref mq, .ref mgr, .int cl, .int wa, .int co_, .int fi, .int bu, .int ho, .ref ml, .ref mi, .ref mr, .int lh, .int mg, .int wd, .int fpi, .int fal, .ref mm, .ref mu, .ref mk, .ref mx, .long po, .long de])), (mi, .inl (0, 4, .inl ir)), (mr, .inl (3, 16, .inr (.inl gr)))]) rfl ?_
        refine r_if_lt (tgt := 48) d_Mm_charge_34 (by decide) (fun c_34 => ?_) (fun c_34 => ?_)
        · exact absurd c_34 (by decide)
        · refine r_iload_n d_Mm_charge_37 rfl 3 rfl ?_
          refine r_iconst d_Mm_charge_38 (v := 1) (by decide) ?_
          refine r_sipush d_Mm_charge_39 (v := 1000) (by decide) ?_
          refine r_callS (As := [.int m1, .int 1, .int 1000]) (rest := [.ref m]) (csC := []) (is := []) ln_Mm_87 w_st_Mm_in ok_Mm_charge_Mm_in d_Mm_charge_42 (C_Mm_in g m1 1 1000) rfl rfl (Nat.le_of_ble_eq_true rfl) rfl (by decide) (by omega) (by omega) (fun E cs1 hx => ?_) (fun v cs1 hx => ?_)
          · exact absurd hx.1 (by simp)
          · obtain ⟨e1, rfl⟩ := hx
            rw [if_pos hw] at e1
            cases e1
            refine ⟨rfl, ?_⟩
            refine r_st (st2 := [.int 1, .ref m]) rfl ?_
            refine r_cs (cs2 := [(m, .inr (12, [.int 0, .ref mp, .int pt, .ref mf, .ref mh, .ref mn, .ref mt, .ref mz, .ref mc_, .ref mq, .ref mgr, .int cl, .int wa, .int co_, .int fi, .int bu, .int ho, .ref ml, .ref mi, .ref mr, .int lh, .int mg, .int wd, .int fpi, .int fal, .ref mm, .ref mu, .ref mk, .ref mx, .long po, .long de])), (mi, .inl (0, 4, .inl ir)), (mr, .inl (3, 16, .inr (.inl gr)))]) rfl ?_
            refine r_if_ne (tgt := 52) d_Mm_charge_45 (by decide) (fun c_45 => ?_) (fun c_45 => ?_)
            · refine r_iconst d_Mm_charge_52 (v := 0) (by decide) ?_
              refine r_iconst d_Mm_charge_53 (v := 1) (by decide) ?_
              refine r_callV (As := [.int 0, .int 1]) (rest := []) (csC := [(m, .inr (12, [.int 0, .ref mp, .int pt, .ref mf, .ref mh, .ref mn, .ref mt, .ref mz, .ref mc_, .ref mq, .ref mgr, .int cl, .int wa, .int co_, .int fi, .int bu, .int ho, .ref ml, .ref mi, .ref mr, .int lh, .int mg, .int wd, .int fpi, .int fal, .ref mm, .ref mu, .ref mk, .ref mx, .long po, .long de]))]) (is := [0]) (q0 := 0) rfl rfl ln_Mm_103 w_im_Mm_fails w_se_Mm_fails ok_Mm_charge_Mm_fails d_Mm_charge_54 (C_Mm_fails0 g m mp mf mh mn mt mz mc_ mq mgr ml mi mr mm mu mk mx th pt cl wa co_ fi bu ho lh mg wd fpi fal po de 1) rfl rfl (Nat.le_of_ble_eq_true rfl) rfl (by decide) (by omega) (by omega) (fun E cs1 hx => ?_) (fun v cs1 hx => ?_)
              · exact absurd hx.1 (by simp)
              · obtain ⟨e1, rfl⟩ := hx
                cases e1
                refine ⟨rfl, ?_⟩
                refine r_st (st2 := [.int 0]) rfl ?_
                refine r_cs (cs2 := [(m, .inr (12, [.int 0, .ref mp, .int pt, .ref mf, .ref mh, .ref mn, .ref mt, .ref mz, .ref mc_, .ref mq, .ref mgr, .int cl, .int wa, .int co_, .int fi, .int bu, .int ho, .ref ml, .ref mi, .ref mr, .int lh, .int mg, .int wd, .int fpi, .int fal, .ref mm, .ref mu, .ref mk, .ref mx, .long po, .long de])), (mi, .inl (0, 4, .inl ir)), (mr, .inl (3, 16, .inr (.inl gr)))]) rfl ?_
                refine r_if_ne (tgt := 88) d_Mm_charge_57 (by decide) (fun c_57 => ?_) (fun c_57 => ?_)
                · exact absurd c_57 (by decide)
                · refine r_aload_n d_Mm_charge_60 rfl 1 rfl ?_
                  refine r_iload_n d_Mm_charge_61 rfl 0 rfl ?_
                  refine r_iconst d_Mm_charge_62 (v := (-1)) (by decide) ?_
                  refine r_icmp_eq (tgt := 80) d_Mm_charge_63 (by decide) (fun c_63 => ?_) (fun c_63 => ?_)
                  · refine r_iconst d_Mm_charge_80 (v := 0) (by decide) ?_
                    refine r_iconst d_Mm_charge_81 (v := 2) (by decide) ?_
                    refine r_callV (As := [.int 0, .int 2]) (rest := []) (csC := [(m, .inr (12, [.int 0, .ref mp, .int pt, .ref mf, .ref mh, .ref mn, .ref mt, .ref mz, .ref mc_, .ref mq, .ref mgr, .int cl, .int wa, .int co_, .int fi, .int bu, .int ho, .ref ml, .ref mi, .ref mr, .int lh, .int mg, .int wd, .int fpi, .int fal, .ref mm, .ref mu, .ref mk, .ref mx, .long po, .long de]))]) (is := [0]) (q0 := 0) rfl rfl ln_Mm_103 w_im_Mm_fails w_se_Mm_fails ok_Mm_charge_Mm_fails d_Mm_charge_82 (C_Mm_fails0 g m mp mf mh mn mt mz mc_ mq mgr ml mi mr mm mu mk mx th pt cl wa co_ fi bu ho lh mg wd fpi fal po de 2) rfl rfl (Nat.le_of_ble_eq_true rfl) rfl (by decide) (by omega) (by omega) (fun E cs1 hx => ?_) (fun v cs1 hx => ?_)
                    · exact absurd hx.1 (by simp)
                    · obtain ⟨e1, rfl⟩ := hx
                      cases e1
                      refine ⟨rfl, ?_⟩
                      refine r_st (st2 := [.int 0]) rfl ?_
                      refine r_cs (cs2 := [(m, .inr (12, [.int 0, .ref mp, .int pt, .ref mf, .ref mh, .ref mn, .ref mt, .ref mz, .ref mc_, .ref mq, .ref mgr, .int cl, .int wa, .int co_, .int fi, .int bu, .int ho, .ref ml, .ref mi, .ref mr, .int lh, .int mg, .int wd, .int fpi, .int fal, .ref mm, .ref mu, .ref mk, .ref mx, .long po, .long de])), (mi, .inl (0, 4, .inl ir)), (mr, .inl (3, 16, .inr (.inl gr)))]) rfl ?_
                      refine r_if_eq (tgt := 90) d_Mm_charge_85 (by decide) (fun c_85 => ?_) (fun c_85 => ?_)
                      · refine r_aload_n d_Mm_charge_90 rfl 1 rfl ?_
                        refine r_iload_n d_Mm_charge_91 rfl 2 rfl ?_
                        refine r_bipush d_Mm_charge_92 (v := 107) (by decide) ?_
                        refine r_icmp_eq (tgt := 115) d_Mm_charge_94 (by decide) (fun c_94 => ?_) (fun c_94 => ?_)
                        · exact absurd c_94 (by decide)
                        · refine r_aload_n d_Mm_charge_97 rfl 1 rfl ?_
                          refine r_get fs_Mm_62 d_Mm_charge_98 (q0 := 0) rfl rfl ?_
                          refine r_iconst d_Mm_charge_101 (v := 0) (by decide) ?_
                          refine r_iald d_Mm_charge_102 (q0 := 1) rfl (fun q => q.elim (by decide) (by decide)) (v := ir 0) rfl ?_
                          refine r_iload_n d_Mm_charge_103 rfl 3 rfl ?_
                          refine r_iadd d_Mm_charge_104 (v := (ir 0) + m1) rfl ?_
                          refine r_sipush d_Mm_charge_105 (v := 3000) (by decide) ?_
                          refine r_icmp_le (tgt := 115) d_Mm_charge_108 (by decide) (fun c_108 => ?_) (fun c_108 => ?_)
                          · refine r_iconst d_Mm_charge_115 (v := 0) (by decide) ?_
                            refine r_iconst d_Mm_charge_116 (v := 3) (by decide) ?_
                            refine r_callV (As := [.int 0, .int 3]) (rest := []) (csC := [(m, .inr (12, [.int 0, .ref mp, .int pt, .ref mf, .ref mh, .ref mn, .ref mt, .ref mz, .ref mc_, .ref mq, .ref mgr, .int cl, .int wa, .int co_, .int fi, .int bu, .int ho, .ref ml, .ref mi, .ref mr, .int lh, .int mg, .int wd, .int fpi, .int fal, .ref mm, .ref mu, .ref mk, .ref mx, .long po, .long de]))]) (is := [0]) (q0 := 0) rfl rfl ln_Mm_103 w_im_Mm_fails w_se_Mm_fails ok_Mm_charge_Mm_fails d_Mm_charge_117 (C_Mm_fails0 g m mp mf mh mn mt mz mc_ mq mgr ml mi mr mm mu mk mx th pt cl wa co_ fi bu ho lh mg wd fpi fal po de 3) rfl rfl (Nat.le_of_ble_eq_true rfl) rfl (by decide) (by omega) (by omega) (fun E cs1 hx => ?_) (fun v cs1 hx => ?_)
                            · exact absurd hx.1 (by simp)
                            · obtain ⟨e1, rfl⟩ := hx
                              cases e1
                              refine ⟨rfl, ?_⟩
                              refine r_st (st2 := [.int 0]) rfl ?_
                              refine r_cs (cs2 := [(m, .inr (12, [.int 0, .ref mp, .int pt, .ref mf, .ref mh, .ref mn, .ref mt, .ref mz, .ref mc_, .ref mq, .ref mgr, .int cl, .int wa, .int co_, .int fi, .int bu, .int ho, .ref ml, .ref mi, .ref mr, .int lh, .int mg, .int wd, .int fpi, .int fal, .ref mm, .ref mu, .ref mk, .ref mx, .long po, .long de])), (mi, .inl (0, 4, .inl ir)), (mr, .inl (3, 16, .inr (.inl gr)))]) rfl ?_
                              refine r_if_eq (tgt := 125) d_Mm_charge_120 (by decide) (fun c_120 => ?_) (fun c_120 => ?_)
                              · refine r_iload_n d_Mm_charge_125 rfl 0 rfl ?_
                                refine r_iconst d_Mm_charge_126 (v := (-1)) (by decide) ?_
                                refine r_icmp_eq (tgt := 140) d_Mm_charge_127 (by decide) (fun c_127 => ?_) (fun c_127 => ?_)
                                · refine r_iconst d_Mm_charge_140 (v := 0) (by decide) ?_
                                  refine r_istore (lv' := [(4, .int 0), (3, .int (-1)), (0, .ref m), (1, .int 115), (2, .int m1)]) d_Mm_charge_141 (by decide) rfl ?_
                                  refine r_lv (lv' := [(4, .int 0), (2, .int m1), (1, .int 115), (0, .ref m)]) [0, 4, 3, 2] rfl ?_
                                  refine r_lvE (lv2 := [(4, .int (nI 0)), (2, .int m1), (1, .int 115), (0, .ref m)]) (rfl) ?_
                                  refine r_cs (cs2 := [(m, .inr (12, [.int 0, .ref mp, .int pt, .ref mf, .ref mh, .ref mn, .ref mt, .ref mz, .ref mc_, .ref mq, .ref mgr, .int cl, .int wa, .int co_, .int fi, .int bu, .int ho, .ref ml, .ref mi, .ref mr, .int lh, .int mg, .int wd, .int fpi, .int fal, .ref mm, .ref mu, .ref mk, .ref mx, .long po, .long de])), (mi, .inl (0, 4, .inl ir)), (mr, .inl (3, 16, .inr (.inl (lfd gr (fun e => chS m1 1 e / 10) 0))))]) (rfl) ?_
                                  exact L_Mm_charge115N_143 g m mp mf mh mn mt mz mc_ mq mgr ml mi mr mm mu mk mx th pt cl wa co_ fi bu ho lh mg wd fpi fal po de ir gr m1 hw hg3 w0 _  (4 + 1) 0 (Nat.zero_le _) (by omega)
                                · exact absurd c_127 (by decide)
                              · exact absurd c_120 (by decide)
                          · exact absurd (Int32.not_le.mp c_108) hg3
                      · exact absurd c_85 (by decide)
                  · exact absurd c_63 (by decide)
            · exact absurd c_45 (by decide)
    · exact absurd c_18 (by decide)
  · exact absurd c_8 (by decide)
set_option maxHeartbeats 4000000 in
set_option maxRecDepth 100000 in
theorem L_Mm_charge102N_143 (g : zG) (m mp mf mh mn mt mz mc_ mq mgr ml mi mr mm mu mk mx : Nat) (th pt cl wa co_ fi bu ho lh mg wd fpi fal : Int32) (po de : Int64) (ir : Nat → Int32) (gr : Nat → Int64) (m1 : Int32) (hw : (1 ≤ m1 ∧ m1 ≤ 1000)) (hg3 : ¬ 3000 < ir 0 + m1) (w0 : zW) (n : Nat) : ∀ (d i : Nat), i ≤ 4 → 4 < i + d → DV g M_Mm_charge (fun o cs1 => o = .inl (some (.int (ir 0 + m1))) ∧ cs1 = [(m, .inr (12, [.int 0, .ref mp, .int pt, .ref mf, .ref mh, .ref mn, .ref mt, .ref mz, .ref mc_, .ref mq, .ref mgr, .int cl, .int wa, .int co_, .int fi, .int bu, .int ho, .ref ml, .ref mi, .ref mr, .int lh, .int mg, .int wd, .int fpi, .int fal, .ref mm, .ref mu, .ref mk, .ref mx, .long po, .long de])), (mi, .inl (0, 4, .inl (upd ir 0 (ir 0 + m1)))), (mr, .inl (3, 16, .inr (.inl (lfd gr (fun e => chS m1 2 e / 10) 4))))]) w0 n 143 [(4, .int (nI i)), (2, .int m1), (1, .int 102), (0, .ref m)] [] [(m, .inr (12, [.int 0, .ref mp, .int pt, .ref mf, .ref mh, .ref mn, .ref mt, .ref mz, .ref mc_, .ref mq, .ref mgr, .int cl, .int wa, .int co_, .int fi, .int bu, .int ho, .ref ml, .ref mi, .ref mr, .int lh, .int mg, .int wd, .int fpi, .int fal, .ref mm, .ref mu, .ref mk, .ref mx, .long po, .long de])), (mi, .inl (0, 4, .inl ir)), (mr, .inl (3, 16, .inr (.inl (lfd gr (fun e => chS m1 2 e / 10) i))))] 0 0 := by
  intro d
  induction d with
  | zero => intro i h1 h2 ; exact absurd h2 (by omega)
  | succ d ih =>
    intro i h1 h2 
    refine r_iload d_Mm_charge_143 0 rfl ?_
    refine r_iconst d_Mm_charge_145 (v := 4) (by decide) ?_
    refine r_icmp_ge (tgt := 179) d_Mm_charge_146 (by decide) (fun c_146 => ?_) (fun c_146 => ?_)
    · have hn := z_le (a := 4) (by omega) (by decide) c_146
      obtain rfl : i = 4 := by omega
      refine r_aload_n d_Mm_charge_179 rfl 3 rfl ?_
      refine r_get fs_Mm_62 d_Mm_charge_180 (q0 := 0) rfl rfl ?_
      refine r_iconst d_Mm_charge_183 (v := 0) (by decide) ?_
      refine r_dup2_11 d_Mm_charge_184 rfl rfl ?_
      refine r_iald d_Mm_charge_185 (q0 := 1) rfl (fun q => q.elim (by decide) (by decide)) (v := ir 0) rfl ?_
      refine r_iload_n d_Mm_charge_186 rfl 2 rfl ?_
      refine r_bipush d_Mm_charge_187 (v := 107) (by decide) ?_
      refine r_icmp_ne (tgt := 196) d_Mm_charge_189 (by decide) (fun c_189 => ?_) (fun c_189 => ?_)
      · refine r_iload_n d_Mm_charge_196 rfl 1 rfl ?_
        refine r_iadd d_Mm_charge_197 (v := (ir 0) + m1) rfl ?_
        refine r_iast d_Mm_charge_198 (q0 := 1) rfl (fun q => q.elim (by decide) (by decide)) (f' := upd ir 0 ((ir 0) + m1)) rfl (cs' := [(m, .inr (12, [.int 0, .ref mp, .int pt, .ref mf, .ref mh, .ref mn, .ref mt, .ref mz, .ref mc_, .ref mq, .ref mgr, .int cl, .int wa, .int co_, .int fi, .int bu, .int ho, .ref ml, .ref mi, .ref mr, .int lh, .int mg, .int wd, .int fpi, .int fal, .ref mm, .ref mu, .ref mk, .ref mx, .long po, .long de])), (mi, .inl (0, 4, .inl (upd ir 0 ((ir 0) + m1)))), (mr, .inl (3, 16, .inr (.inl (lfd gr (fun e => chS m1 2 e / 10) 4))))]) rfl ?_
        refine r_aload_n d_Mm_charge_199 rfl 3 rfl ?_
        refine r_get fs_Mm_62 d_Mm_charge_200 (q0 := 0) rfl rfl ?_
        refine r_iconst d_Mm_charge_203 (v := 0) (by decide) ?_
        refine r_iald d_Mm_charge_204 (q0 := 1) rfl (fun q => q.elim (by decide) (by decide)) (v := ir 0 + m1) rfl ?_
        refine r_iret d_Mm_charge_205 rfl rfl ?_
        exact ⟨rfl, rfl⟩
      · exact absurd c_189 (by decide)
    · have hn := z_nle (a := 4) (by omega) (by decide) c_146
      refine r_aload_n d_Mm_charge_149 rfl 3 rfl ?_
      refine r_get fs_Mm_65 d_Mm_charge_150 (q0 := 0) rfl rfl ?_
      refine r_iload d_Mm_charge_153 0 rfl ?_
      refine r_dup2_11 d_Mm_charge_155 rfl rfl ?_
      refine r_lald d_Mm_charge_156 (q0 := 2) rfl (vp_in_nI (by omega) (by omega)) (v := (lfd gr (fun e => chS m1 2 e / 10) i) i) (by rw [nI_clamp (by omega)]) ?_
      refine r_iload_n d_Mm_charge_157 rfl 1 rfl ?_
      refine r_i2l d_Mm_charge_158 (v := m1.toInt64) rfl ?_
      refine r_iload_n d_Mm_charge_159 rfl 2 rfl ?_
      refine r_iload d_Mm_charge_160 0 rfl ?_
      refine r_callS (As := [.int 102, .int (nI i)]) (rest := [.long m1.toInt64, .long ((lfd gr (fun e => chS m1 2 e / 10) i) i), .int (nI i), .ref mr]) (csC := []) (is := []) ln_Mm_240 w_st_Mm_tenths ok_Mm_charge_Mm_tenths d_Mm_charge_162 (C_Mm_tenths102 g i (by omega)) rfl rfl (Nat.le_of_ble_eq_true rfl) rfl (by decide) (by omega) (by omega) (fun E cs1 hx => ?_) (fun v cs1 hx => ?_)
      · exact absurd hx.1 (by simp)
      · obtain ⟨e1, rfl⟩ := hx
        cases e1
        refine ⟨rfl, ?_⟩
        refine r_st (st2 := [.int ((z_sv 2).getD i 0), .long m1.toInt64, .long ((lfd gr (fun e => chS m1 2 e / 10) i) i), .int (nI i), .ref mr]) rfl ?_
        refine r_cs (cs2 := [(m, .inr (12, [.int 0, .ref mp, .int pt, .ref mf, .ref mh, .ref mn, .ref mt, .ref mz, .ref mc_, .ref mq, .ref mgr, .int cl, .int wa, .int co_, .int fi, .int bu, .int ho, .ref ml, .ref mi, .ref mr, .int lh, .int mg, .int wd, .int fpi, .int fal, .ref mm, .ref mu, .ref mk, .ref mx, .long po, .long de])), (mi, .inl (0, 4, .inl ir)), (mr, .inl (3, 16, .inr (.inl (lfd gr (fun e => chS m1 2 e / 10) i))))]) rfl ?_
        refine r_i2l d_Mm_charge_165 (v := ((z_sv 2).getD i 0).toInt64) rfl ?_
        refine r_lmul d_Mm_charge_166 (v := chS m1 2 i) rfl ?_
        refine r_ldc2 ct_Mm_244 d_Mm_charge_167 ?_
        refine r_ldiv d_Mm_charge_170 (v := (chS m1 2 i) / 10) (by decide) rfl ?_
        refine r_ladd d_Mm_charge_171 (v := ((lfd gr (fun e => chS m1 2 e / 10) i) i) + ((chS m1 2 i) / 10)) rfl ?_
        refine r_last d_Mm_charge_172 (q0 := 2) rfl (vp_in_nI (by omega) (by omega)) (f' := lfd gr (fun e => chS m1 2 e / 10) (i + 1)) (by rw [nI_clamp (by omega)] <;> rfl) (cs' := [(m, .inr (12, [.int 0, .ref mp, .int pt, .ref mf, .ref mh, .ref mn, .ref mt, .ref mz, .ref mc_, .ref mq, .ref mgr, .int cl, .int wa, .int co_, .int fi, .int bu, .int ho, .ref ml, .ref mi, .ref mr, .int lh, .int mg, .int wd, .int fpi, .int fal, .ref mm, .ref mu, .ref mk, .ref mx, .long po, .long de])), (mi, .inl (0, 4, .inl ir)), (mr, .inl (3, 16, .inr (.inl (lfd gr (fun e => chS m1 2 e / 10) (i + 1)))))]) rfl ?_
        refine r_iinc (lv' := [(4, .int (nI (i + 1))), (2, .int m1), (1, .int 102), (0, .ref m)]) (v := nI (i + 1)) d_Mm_charge_173 (j := 0) rfl (nI_add _ _) (by decide) rfl ?_
        refine r_goto (tgt := 143) d_Mm_charge_176 (by decide) ?_
        refine r_lvE (lv2 := [(4, .int (nI (i + 1))), (2, .int m1), (1, .int 102), (0, .ref m)]) (rfl) ?_
        refine r_cs (cs2 := [(m, .inr (12, [.int 0, .ref mp, .int pt, .ref mf, .ref mh, .ref mn, .ref mt, .ref mz, .ref mc_, .ref mq, .ref mgr, .int cl, .int wa, .int co_, .int fi, .int bu, .int ho, .ref ml, .ref mi, .ref mr, .int lh, .int mg, .int wd, .int fpi, .int fal, .ref mm, .ref mu, .ref mk, .ref mx, .long po, .long de])), (mi, .inl (0, 4, .inl ir)), (mr, .inl (3, 16, .inr (.inl (lfd gr (fun e => chS m1 2 e / 10) (i + 1)))))]) (rfl) ?_
        exact ih (i + 1) (by omega) (by omega)
set_option maxHeartbeats 4000000 in
set_option maxRecDepth 100000 in
theorem C_Mm_charge102N (g : zG) (m mp mf mh mn mt mz mc_ mq mgr ml mi mr mm mu mk mx : Nat) (th pt cl wa co_ fi bu ho lh mg wd fpi fal : Int32) (po de : Int64) (ir : Nat → Int32) (gr : Nat → Int64) (m1 : Int32) (hw : (1 ≤ m1 ∧ m1 ≤ 1000)) (hg3 : ¬ 3000 < ir 0 + m1) : CT g M_Mm_charge [.ref m, .int 102, .int m1] [(m, .inr (12, [.int th, .ref mp, .int pt, .ref mf, .ref mh, .ref mn, .ref mt, .ref mz, .ref mc_, .ref mq, .ref mgr, .int cl, .int wa, .int co_, .int fi, .int bu, .int ho, .ref ml, .ref mi, .ref mr, .int lh, .int mg, .int wd, .int fpi, .int fal, .ref mm, .ref mu, .ref mk, .ref mx, .long po, .long de])), (mi, .inl (0, 4, .inl ir)), (mr, .inl (3, 16, .inr (.inl gr)))] (fun o cs1 => o = .inl (some (.int (ir 0 + m1))) ∧ cs1 = [(m, .inr (12, [.int 0, .ref mp, .int pt, .ref mf, .ref mh, .ref mn, .ref mt, .ref mz, .ref mc_, .ref mq, .ref mgr, .int cl, .int wa, .int co_, .int fi, .int bu, .int ho, .ref ml, .ref mi, .ref mr, .int lh, .int mg, .int wd, .int fpi, .int fal, .ref mm, .ref mu, .ref mk, .ref mx, .long po, .long de])), (mi, .inl (0, 4, .inl (upd ir 0 (ir 0 + m1)))), (mr, .inl (3, 16, .inr (.inl (lfd gr (fun e => chS m1 2 e / 10) 4))))]) 0 0 := by
  refine z_of (by decide) rfl (Nat.le_of_ble_eq_true rfl) (fun w0 => ?_)
  refine r_lvE (lv2 := [(0, .ref m), (1, .int 102), (2, .int m1)]) rfl ?_
  refine r_aload_n d_Mm_charge_0 rfl 0 rfl ?_
  refine r_iconst d_Mm_charge_1 (v := 0) (by decide) ?_
  refine r_put fp_Mm_84 d_Mm_charge_2 (fun h => nomatch h) rfl rfl (q0 := 0) rfl (Nat.le_of_ble_eq_true rfl) (cs' := [(m, .inr (12, [.int 0, .ref mp, .int pt, .ref mf, .ref mh, .ref mn, .ref mt, .ref mz, .ref mc_, .ref mq, .ref mgr, .int cl, .int wa, .int co_, .int fi, .int bu, .int ho, .ref ml, .ref mi, .ref mr, .int lh, .int mg, .int wd, .int fpi, .int fal, .ref mm, .ref mu, .ref mk, .ref mx, .long po, .long de])), (mi, .inl (0, 4, .inl ir)), (mr, .inl (3, 16, .inr (.inl gr)))]) rfl ?_
  refine r_iload_n d_Mm_charge_5 rfl 1 rfl ?_
  refine r_bipush d_Mm_charge_6 (v := 103) (by decide) ?_
  refine r_icmp_ne (tgt := 15) d_Mm_charge_8 (by decide) (fun c_8 => ?_) (fun c_8 => ?_)
  · refine r_iload_n d_Mm_charge_15 rfl 1 rfl ?_
    refine r_bipush d_Mm_charge_16 (v := 100) (by decide) ?_
    refine r_icmp_ne (tgt := 25) d_Mm_charge_18 (by decide) (fun c_18 => ?_) (fun c_18 => ?_)
    · refine r_iconst d_Mm_charge_25 (v := (-1)) (by decide) ?_
      refine r_istore_n (lv' := [(3, .int (-1)), (0, .ref m), (1, .int 102), (2, .int m1)]) d_Mm_charge_26 rfl (by decide) rfl ?_
      refine r_aload_n d_Mm_charge_27 rfl 1 rfl ?_
      refine r_ldcS (own := "IronpourModel") (i := 1) (by decide) d_Mm_charge_28 ?_
      refine r_iload_n d_Mm_charge_30 rfl 2 rfl ?_
      refine r_callVS (As := [.int 102]) (rest := [.ref m]) (csC := []) (is := []) (i := 1) (by first | assumption | decide) rfl ln_Mm_97 w_im_String_indexOf_0 w_se_String_indexOf_0 ok_Mm_charge_String_indexOf_0 d_Mm_charge_31 (C_St_indexOf g 1 (by decide) 102) rfl rfl (Nat.le_of_ble_eq_true rfl) rfl (by decide) (by omega) (by omega) (fun E cs1 hx => ?_) (fun v cs1 hx => ?_)
      · exact absurd hx.1 (by simp)
      · obtain ⟨e1, rfl⟩ := hx
        cases e1
        refine ⟨rfl, ?_⟩
        refine r_st (st2 := [.int (z_ix 1 102), .ref m]) rfl ?_
        refine r_cs (cs2 := [(m, .inr (12, [.int 0, .ref mp, .int pt, .ref mf, .ref mh, .ref mn, .ref mt, .ref mz, .ref mc_, .ref mq, .ref mgr, .int cl, .int wa, .int co_, .int fi, .int bu, .int ho, .ref ml, .ref mi, .ref mr, .int lh, .int mg, .int wd, .int fpi, .int fal, .ref mm, .ref mu, .ref mk, .ref mx, .long po, .long de])), (mi, .inl (0, 4, .inl ir)), (mr, .inl (3, 16, .inr (.inl gr)))]) rfl ?_
        refine r_if_lt (tgt := 48) d_Mm_charge_34 (by decide) (fun c_34 => ?_) (fun c_34 => ?_)
        · exact absurd c_34 (by decide)
        · refine r_iload_n d_Mm_charge_37 rfl 3 rfl ?_
          refine r_iconst d_Mm_charge_38 (v := 1) (by decide) ?_
          refine r_sipush d_Mm_charge_39 (v := 1000) (by decide) ?_
          refine r_callS (As := [.int m1, .int 1, .int 1000]) (rest := [.ref m]) (csC := []) (is := []) ln_Mm_87 w_st_Mm_in ok_Mm_charge_Mm_in d_Mm_charge_42 (C_Mm_in g m1 1 1000) rfl rfl (Nat.le_of_ble_eq_true rfl) rfl (by decide) (by omega) (by omega) (fun E cs1 hx => ?_) (fun v cs1 hx => ?_)
          · exact absurd hx.1 (by simp)
          · obtain ⟨e1, rfl⟩ := hx
            rw [if_pos hw] at e1
            cases e1
            refine ⟨rfl, ?_⟩
            refine r_st (st2 := [.int 1, .ref m]) rfl ?_
            refine r_cs (cs2 := [(m, .inr (12, [.int 0, .ref mp, .int pt, .ref mf, .ref mh, .ref mn, .ref mt, .ref mz, .ref mc_, .ref mq, .ref mgr, .int cl, .int wa, .int co_, .int fi, .int bu, .int ho, .ref ml, .ref mi, .ref mr, .int lh, .int mg, .int wd, .int fpi, .int fal, .ref mm, .ref mu, .ref mk, .ref mx, .long po, .long de])), (mi, .inl (0, 4, .inl ir)), (mr, .inl (3, 16, .inr (.inl gr)))]) rfl ?_
            refine r_if_ne (tgt := 52) d_Mm_charge_45 (by decide) (fun c_45 => ?_) (fun c_45 => ?_)
            · refine r_iconst d_Mm_charge_52 (v := 0) (by decide) ?_
              refine r_iconst d_Mm_charge_53 (v := 1) (by decide) ?_
              refine r_callV (As := [.int 0, .int 1]) (rest := []) (csC := [(m, .inr (12, [.int 0, .ref mp, .int pt, .ref mf, .ref mh, .ref mn, .ref mt, .ref mz, .ref mc_, .ref mq, .ref mgr, .int cl, .int wa, .int co_, .int fi, .int bu, .int ho, .ref ml, .ref mi, .ref mr, .int lh, .int mg, .int wd, .int fpi, .int fal, .ref mm, .ref mu, .ref mk, .ref mx, .long po, .long de]))]) (is := [0]) (q0 := 0) rfl rfl ln_Mm_103 w_im_Mm_fails w_se_Mm_fails ok_Mm_charge_Mm_fails d_Mm_charge_54 (C_Mm_fails0 g m mp mf mh mn mt mz mc_ mq mgr ml mi mr mm mu mk mx th pt cl wa co_ fi bu ho lh mg wd fpi fal po de 1) rfl rfl (Nat.le_of_ble_eq_true rfl) rfl (by decide) (by omega) (by omega) (fun E cs1 hx => ?_) (fun v cs1 hx => ?_)
              · exact absurd hx.1 (by simp)
              · obtain ⟨e1, rfl⟩ := hx
                cases e1
                refine ⟨rfl, ?_⟩
                refine r_st (st2 := [.int 0]) rfl ?_
                refine r_cs (cs2 := [(m, .inr (12, [.int 0, .ref mp, .int pt, .ref mf, .ref mh, .ref mn, .ref mt, .ref mz, .ref mc_, .ref mq, .ref mgr, .int cl, .int wa, .int co_, .int fi, .int bu, .int ho, .ref ml, .ref mi, .ref mr, .int lh, .int mg, .int wd, .int fpi, .int fal, .ref mm, .ref mu, .ref mk, .ref mx, .long po, .long de])), (mi, .inl (0, 4, .inl ir)), (mr, .inl (3, 16, .inr (.inl gr)))]) rfl ?_
                refine r_if_ne (tgt := 88) d_Mm_charge_57 (by decide) (fun c_57 => ?_) (fun c_57 => ?_)
                · exact absurd c_57 (by decide)
                · refine r_aload_n d_Mm_charge_60 rfl 1 rfl ?_
                  refine r_iload_n d_Mm_charge_61 rfl 0 rfl ?_
                  refine r_iconst d_Mm_charge_62 (v := (-1)) (by decide) ?_
                  refine r_icmp_eq (tgt := 80) d_Mm_charge_63 (by decide) (fun c_63 => ?_) (fun c_63 => ?_)
                  · refine r_iconst d_Mm_charge_80 (v := 0) (by decide) ?_
                    refine r_iconst d_Mm_charge_81 (v := 2) (by decide) ?_
                    refine r_callV (As := [.int 0, .int 2]) (rest := []) (csC := [(m, .inr (12, [.int 0, .ref mp, .int pt, .ref mf, .ref mh, .ref mn, .ref mt, .ref mz, .ref mc_, .ref mq, .ref mgr, .int cl, .int wa, .int co_, .int fi, .int bu, .int ho, .ref ml, .ref mi, .ref mr, .int lh, .int mg, .int wd, .int fpi, .int fal, .ref mm, .ref mu, .ref mk, .ref mx, .long po, .long de]))]) (is := [0]) (q0 := 0) rfl rfl ln_Mm_103 w_im_Mm_fails w_se_Mm_fails ok_Mm_charge_Mm_fails d_Mm_charge_82 (C_Mm_fails0 g m mp mf mh mn mt mz mc_ mq mgr ml mi mr mm mu mk mx th pt cl wa co_ fi bu ho lh mg wd fpi fal po de 2) rfl rfl (Nat.le_of_ble_eq_true rfl) rfl (by decide) (by omega) (by omega) (fun E cs1 hx => ?_) (fun v cs1 hx => ?_)
                    · exact absurd hx.1 (by simp)
                    · obtain ⟨e1, rfl⟩ := hx
                      cases e1
                      refine ⟨rfl, ?_⟩
                      refine r_st (st2 := [.int 0]) rfl ?_
                      refine r_cs (cs2 := [(m, .inr (12, [.int 0, .ref mp, .int pt, .ref mf, .ref mh, .ref mn, .ref mt, .ref mz, .ref mc_, .ref mq, .ref mgr, .int cl, .int wa, .int co_, .int fi, .int bu, .int ho, .ref ml, .ref mi, .ref mr, .int lh, .int mg, .int wd, .int fpi, .int fal, .ref mm, .ref mu, .ref mk, .ref mx, .long po, .long de])), (mi, .inl (0, 4, .inl ir)), (mr, .inl (3, 16, .inr (.inl gr)))]) rfl ?_
                      refine r_if_eq (tgt := 90) d_Mm_charge_85 (by decide) (fun c_85 => ?_) (fun c_85 => ?_)
                      · refine r_aload_n d_Mm_charge_90 rfl 1 rfl ?_
                        refine r_iload_n d_Mm_charge_91 rfl 2 rfl ?_
                        refine r_bipush d_Mm_charge_92 (v := 107) (by decide) ?_
                        refine r_icmp_eq (tgt := 115) d_Mm_charge_94 (by decide) (fun c_94 => ?_) (fun c_94 => ?_)
                        · exact absurd c_94 (by decide)
                        · refine r_aload_n d_Mm_charge_97 rfl 1 rfl ?_
                          refine r_get fs_Mm_62 d_Mm_charge_98 (q0 := 0) rfl rfl ?_
                          refine r_iconst d_Mm_charge_101 (v := 0) (by decide) ?_
                          refine r_iald d_Mm_charge_102 (q0 := 1) rfl (fun q => q.elim (by decide) (by decide)) (v := ir 0) rfl ?_
                          refine r_iload_n d_Mm_charge_103 rfl 3 rfl ?_
                          refine r_iadd d_Mm_charge_104 (v := (ir 0) + m1) rfl ?_
                          refine r_sipush d_Mm_charge_105 (v := 3000) (by decide) ?_
                          refine r_icmp_le (tgt := 115) d_Mm_charge_108 (by decide) (fun c_108 => ?_) (fun c_108 => ?_)
                          · refine r_iconst d_Mm_charge_115 (v := 0) (by decide) ?_
                            refine r_iconst d_Mm_charge_116 (v := 3) (by decide) ?_
                            refine r_callV (As := [.int 0, .int 3]) (rest := []) (csC := [(m, .inr (12, [.int 0, .ref mp, .int pt, .ref mf, .ref mh, .ref mn, .ref mt, .ref mz, .ref mc_, .ref mq, .ref mgr, .int cl, .int wa, .int co_, .int fi, .int bu, .int ho, .ref ml, .ref mi, .ref mr, .int lh, .int mg, .int wd, .int fpi, .int fal, .ref mm, .ref mu, .ref mk, .ref mx, .long po, .long de]))]) (is := [0]) (q0 := 0) rfl rfl ln_Mm_103 w_im_Mm_fails w_se_Mm_fails ok_Mm_charge_Mm_fails d_Mm_charge_117 (C_Mm_fails0 g m mp mf mh mn mt mz mc_ mq mgr ml mi mr mm mu mk mx th pt cl wa co_ fi bu ho lh mg wd fpi fal po de 3) rfl rfl (Nat.le_of_ble_eq_true rfl) rfl (by decide) (by omega) (by omega) (fun E cs1 hx => ?_) (fun v cs1 hx => ?_)
                            · exact absurd hx.1 (by simp)
                            · obtain ⟨e1, rfl⟩ := hx
                              cases e1
                              refine ⟨rfl, ?_⟩
                              refine r_st (st2 := [.int 0]) rfl ?_
                              refine r_cs (cs2 := [(m, .inr (12, [.int 0, .ref mp, .int pt, .ref mf, .ref mh, .ref mn, .ref mt, .ref mz, .ref mc_, .ref mq, .ref mgr, .int cl, .int wa, .int co_, .int fi, .int bu, .int ho, .ref ml, .ref mi, .ref mr, .int lh, .int mg, .int wd, .int fpi, .int fal, .ref mm, .ref mu, .ref mk, .ref mx, .long po, .long de])), (mi, .inl (0, 4, .inl ir)), (mr, .inl (3, 16, .inr (.inl gr)))]) rfl ?_
                              refine r_if_eq (tgt := 125) d_Mm_charge_120 (by decide) (fun c_120 => ?_) (fun c_120 => ?_)
                              · refine r_iload_n d_Mm_charge_125 rfl 0 rfl ?_
                                refine r_iconst d_Mm_charge_126 (v := (-1)) (by decide) ?_
                                refine r_icmp_eq (tgt := 140) d_Mm_charge_127 (by decide) (fun c_127 => ?_) (fun c_127 => ?_)
                                · refine r_iconst d_Mm_charge_140 (v := 0) (by decide) ?_
                                  refine r_istore (lv' := [(4, .int 0), (3, .int (-1)), (0, .ref m), (1, .int 102), (2, .int m1)]) d_Mm_charge_141 (by decide) rfl ?_
                                  refine r_lv (lv' := [(4, .int 0), (2, .int m1), (1, .int 102), (0, .ref m)]) [0, 4, 3, 2] rfl ?_
                                  refine r_lvE (lv2 := [(4, .int (nI 0)), (2, .int m1), (1, .int 102), (0, .ref m)]) (rfl) ?_
                                  refine r_cs (cs2 := [(m, .inr (12, [.int 0, .ref mp, .int pt, .ref mf, .ref mh, .ref mn, .ref mt, .ref mz, .ref mc_, .ref mq, .ref mgr, .int cl, .int wa, .int co_, .int fi, .int bu, .int ho, .ref ml, .ref mi, .ref mr, .int lh, .int mg, .int wd, .int fpi, .int fal, .ref mm, .ref mu, .ref mk, .ref mx, .long po, .long de])), (mi, .inl (0, 4, .inl ir)), (mr, .inl (3, 16, .inr (.inl (lfd gr (fun e => chS m1 2 e / 10) 0))))]) (rfl) ?_
                                  exact L_Mm_charge102N_143 g m mp mf mh mn mt mz mc_ mq mgr ml mi mr mm mu mk mx th pt cl wa co_ fi bu ho lh mg wd fpi fal po de ir gr m1 hw hg3 w0 _  (4 + 1) 0 (Nat.zero_le _) (by omega)
                                · exact absurd c_127 (by decide)
                              · exact absurd c_120 (by decide)
                          · exact absurd (Int32.not_le.mp c_108) hg3
                      · exact absurd c_85 (by decide)
                  · exact absurd c_63 (by decide)
            · exact absurd c_45 (by decide)
    · exact absurd c_18 (by decide)
  · exact absurd c_8 (by decide)
theorem d_Mm_charge_192 : decode prog_14_method_58_code 192 = .ok (.iconst 0, 1) := zo_3 (zd_b zq_prog_14_method_58_code_6 0 rfl rfl rfl)
theorem d_Mm_charge_193 : decode prog_14_method_58_code 193 = .ok (.goto 4, 3) := zo_167 (d := 0) (e := 4) (zd_b zq_prog_14_method_58_code_6 1 rfl rfl rfl) (zd_b zq_prog_14_method_58_code_6 2 rfl rfl rfl) (zd_b zq_prog_14_method_58_code_6 3 rfl rfl rfl) (by decide +kernel)
set_option maxHeartbeats 4000000 in
set_option maxRecDepth 100000 in
theorem L_Mm_charge107N_143 (g : zG) (m mp mf mh mn mt mz mc_ mq mgr ml mi mr mm mu mk mx : Nat) (th pt cl wa co_ fi bu ho lh mg wd fpi fal : Int32) (po de : Int64) (ir : Nat → Int32) (gr : Nat → Int64) (m1 : Int32) (hw : (1 ≤ m1 ∧ m1 ≤ 1000)) (w0 : zW) (n : Nat) : ∀ (d i : Nat), i ≤ 4 → 4 < i + d → DV g M_Mm_charge (fun o cs1 => o = .inl (some (.int (ir 0 + 0))) ∧ cs1 = [(m, .inr (12, [.int 0, .ref mp, .int pt, .ref mf, .ref mh, .ref mn, .ref mt, .ref mz, .ref mc_, .ref mq, .ref mgr, .int cl, .int wa, .int co_, .int fi, .int bu, .int ho, .ref ml, .ref mi, .ref mr, .int lh, .int mg, .int wd, .int fpi, .int fal, .ref mm, .ref mu, .ref mk, .ref mx, .long po, .long de])), (mi, .inl (0, 4, .inl (upd ir 0 (ir 0 + 0)))), (mr, .inl (3, 16, .inr (.inl (lfd gr (fun e => chS m1 3 e / 10) 4))))]) w0 n 143 [(4, .int (nI i)), (2, .int m1), (1, .int 107), (0, .ref m)] [] [(m, .inr (12, [.int 0, .ref mp, .int pt, .ref mf, .ref mh, .ref mn, .ref mt, .ref mz, .ref mc_, .ref mq, .ref mgr, .int cl, .int wa, .int co_, .int fi, .int bu, .int ho, .ref ml, .ref mi, .ref mr, .int lh, .int mg, .int wd, .int fpi, .int fal, .ref mm, .ref mu, .ref mk, .ref mx, .long po, .long de])), (mi, .inl (0, 4, .inl ir)), (mr, .inl (3, 16, .inr (.inl (lfd gr (fun e => chS m1 3 e / 10) i))))] 0 0 := by
  intro d
  induction d with
  | zero => intro i h1 h2 ; exact absurd h2 (by omega)
  | succ d ih =>
    intro i h1 h2 
    refine r_iload d_Mm_charge_143 0 rfl ?_
    refine r_iconst d_Mm_charge_145 (v := 4) (by decide) ?_
    refine r_icmp_ge (tgt := 179) d_Mm_charge_146 (by decide) (fun c_146 => ?_) (fun c_146 => ?_)
    · have hn := z_le (a := 4) (by omega) (by decide) c_146
      obtain rfl : i = 4 := by omega
      refine r_aload_n d_Mm_charge_179 rfl 3 rfl ?_
      refine r_get fs_Mm_62 d_Mm_charge_180 (q0 := 0) rfl rfl ?_
      refine r_iconst d_Mm_charge_183 (v := 0) (by decide) ?_
      refine r_dup2_11 d_Mm_charge_184 rfl rfl ?_
      refine r_iald d_Mm_charge_185 (q0 := 1) rfl (fun q => q.elim (by decide) (by decide)) (v := ir 0) rfl ?_
      refine r_iload_n d_Mm_charge_186 rfl 2 rfl ?_
      refine r_bipush d_Mm_charge_187 (v := 107) (by decide) ?_
      refine r_icmp_ne (tgt := 196) d_Mm_charge_189 (by decide) (fun c_189 => ?_) (fun c_189 => ?_)
      · exact absurd c_189 (by decide)
      · refine r_iconst d_Mm_charge_192 (v := 0) (by decide) ?_
        refine r_goto (tgt := 197) d_Mm_charge_193 (by decide) ?_
        refine r_iadd d_Mm_charge_197 (v := (ir 0) + 0) rfl ?_
        refine r_iast d_Mm_charge_198 (q0 := 1) rfl (fun q => q.elim (by decide) (by decide)) (f' := upd ir 0 ((ir 0) + 0)) rfl (cs' := [(m, .inr (12, [.int 0, .ref mp, .int pt, .ref mf, .ref mh, .ref mn, .ref mt, .ref mz, .ref mc_, .ref mq, .ref mgr, .int cl, .int wa, .int co_, .int fi, .int bu, .int ho, .ref ml, .ref mi, .ref mr, .int lh, .int mg, .int wd, .int fpi, .int fal, .ref mm, .ref mu, .ref mk, .ref mx, .long po, .long de])), (mi, .inl (0, 4, .inl (upd ir 0 ((ir 0) + 0)))), (mr, .inl (3, 16, .inr (.inl (lfd gr (fun e => chS m1 3 e / 10) 4))))]) rfl ?_
        refine r_aload_n d_Mm_charge_199 rfl 3 rfl ?_
        refine r_get fs_Mm_62 d_Mm_charge_200 (q0 := 0) rfl rfl ?_
        refine r_iconst d_Mm_charge_203 (v := 0) (by decide) ?_
        refine r_iald d_Mm_charge_204 (q0 := 1) rfl (fun q => q.elim (by decide) (by decide)) (v := ir 0 + 0) rfl ?_
        refine r_iret d_Mm_charge_205 rfl rfl ?_
        exact ⟨rfl, rfl⟩
    · have hn := z_nle (a := 4) (by omega) (by decide) c_146
      refine r_aload_n d_Mm_charge_149 rfl 3 rfl ?_
      refine r_get fs_Mm_65 d_Mm_charge_150 (q0 := 0) rfl rfl ?_
      refine r_iload d_Mm_charge_153 0 rfl ?_
      refine r_dup2_11 d_Mm_charge_155 rfl rfl ?_
      refine r_lald d_Mm_charge_156 (q0 := 2) rfl (vp_in_nI (by omega) (by omega)) (v := (lfd gr (fun e => chS m1 3 e / 10) i) i) (by rw [nI_clamp (by omega)]) ?_
      refine r_iload_n d_Mm_charge_157 rfl 1 rfl ?_
      refine r_i2l d_Mm_charge_158 (v := m1.toInt64) rfl ?_
      refine r_iload_n d_Mm_charge_159 rfl 2 rfl ?_
      refine r_iload d_Mm_charge_160 0 rfl ?_
      refine r_callS (As := [.int 107, .int (nI i)]) (rest := [.long m1.toInt64, .long ((lfd gr (fun e => chS m1 3 e / 10) i) i), .int (nI i), .ref mr]) (csC := []) (is := []) ln_Mm_240 w_st_Mm_tenths ok_Mm_charge_Mm_tenths d_Mm_charge_162 (C_Mm_tenths107 g i (by omega)) rfl rfl (Nat.le_of_ble_eq_true rfl) rfl (by decide) (by omega) (by omega) (fun E cs1 hx => ?_) (fun v cs1 hx => ?_)
      · exact absurd hx.1 (by simp)
      · obtain ⟨e1, rfl⟩ := hx
        cases e1
        refine ⟨rfl, ?_⟩
        refine r_st (st2 := [.int ((z_sv 3).getD i 0), .long m1.toInt64, .long ((lfd gr (fun e => chS m1 3 e / 10) i) i), .int (nI i), .ref mr]) rfl ?_
        refine r_cs (cs2 := [(m, .inr (12, [.int 0, .ref mp, .int pt, .ref mf, .ref mh, .ref mn, .ref mt, .ref mz, .ref mc_, .ref mq, .ref mgr, .int cl, .int wa, .int co_, .int fi, .int bu, .int ho, .ref ml, .ref mi, .ref mr, .int lh, .int mg, .int wd, .int fpi, .int fal, .ref mm, .ref mu, .ref mk, .ref mx, .long po, .long de])), (mi, .inl (0, 4, .inl ir)), (mr, .inl (3, 16, .inr (.inl (lfd gr (fun e => chS m1 3 e / 10) i))))]) rfl ?_
        refine r_i2l d_Mm_charge_165 (v := ((z_sv 3).getD i 0).toInt64) rfl ?_
        refine r_lmul d_Mm_charge_166 (v := chS m1 3 i) rfl ?_
        refine r_ldc2 ct_Mm_244 d_Mm_charge_167 ?_
        refine r_ldiv d_Mm_charge_170 (v := (chS m1 3 i) / 10) (by decide) rfl ?_
        refine r_ladd d_Mm_charge_171 (v := ((lfd gr (fun e => chS m1 3 e / 10) i) i) + ((chS m1 3 i) / 10)) rfl ?_
        refine r_last d_Mm_charge_172 (q0 := 2) rfl (vp_in_nI (by omega) (by omega)) (f' := lfd gr (fun e => chS m1 3 e / 10) (i + 1)) (by rw [nI_clamp (by omega)] <;> rfl) (cs' := [(m, .inr (12, [.int 0, .ref mp, .int pt, .ref mf, .ref mh, .ref mn, .ref mt, .ref mz, .ref mc_, .ref mq, .ref mgr, .int cl, .int wa, .int co_, .int fi, .int bu, .int ho, .ref ml, .ref mi, .ref mr, .int lh, .int mg, .int wd, .int fpi, .int fal, .ref mm, .ref mu, .ref mk, .ref mx, .long po, .long de])), (mi, .inl (0, 4, .inl ir)), (mr, .inl (3, 16, .inr (.inl (lfd gr (fun e => chS m1 3 e / 10) (i + 1)))))]) rfl ?_
        refine r_iinc (lv' := [(4, .int (nI (i + 1))), (2, .int m1), (1, .int 107), (0, .ref m)]) (v := nI (i + 1)) d_Mm_charge_173 (j := 0) rfl (nI_add _ _) (by decide) rfl ?_
        refine r_goto (tgt := 143) d_Mm_charge_176 (by decide) ?_
        refine r_lvE (lv2 := [(4, .int (nI (i + 1))), (2, .int m1), (1, .int 107), (0, .ref m)]) (rfl) ?_
        refine r_cs (cs2 := [(m, .inr (12, [.int 0, .ref mp, .int pt, .ref mf, .ref mh, .ref mn, .ref mt, .ref mz, .ref mc_, .ref mq, .ref mgr, .int cl, .int wa, .int co_, .int fi, .int bu, .int ho, .ref ml, .ref mi, .ref mr, .int lh, .int mg, .int wd, .int fpi, .int fal, .ref mm, .ref mu, .ref mk, .ref mx, .long po, .long de])), (mi, .inl (0, 4, .inl ir)), (mr, .inl (3, 16, .inr (.inl (lfd gr (fun e => chS m1 3 e / 10) (i + 1)))))]) (rfl) ?_
        exact ih (i + 1) (by omega) (by omega)
set_option maxHeartbeats 4000000 in
set_option maxRecDepth 100000 in
theorem C_Mm_charge107N (g : zG) (m mp mf mh mn mt mz mc_ mq mgr ml mi mr mm mu mk mx : Nat) (th pt cl wa co_ fi bu ho lh mg wd fpi fal : Int32) (po de : Int64) (ir : Nat → Int32) (gr : Nat → Int64) (m1 : Int32) (hw : (1 ≤ m1 ∧ m1 ≤ 1000)) : CT g M_Mm_charge [.ref m, .int 107, .int m1] [(m, .inr (12, [.int th, .ref mp, .int pt, .ref mf, .ref mh, .ref mn, .ref mt, .ref mz, .ref mc_, .ref mq, .ref mgr, .int cl, .int wa, .int co_, .int fi, .int bu, .int ho, .ref ml, .ref mi, .ref mr, .int lh, .int mg, .int wd, .int fpi, .int fal, .ref mm, .ref mu, .ref mk, .ref mx, .long po, .long de])), (mi, .inl (0, 4, .inl ir)), (mr, .inl (3, 16, .inr (.inl gr)))] (fun o cs1 => o = .inl (some (.int (ir 0 + 0))) ∧ cs1 = [(m, .inr (12, [.int 0, .ref mp, .int pt, .ref mf, .ref mh, .ref mn, .ref mt, .ref mz, .ref mc_, .ref mq, .ref mgr, .int cl, .int wa, .int co_, .int fi, .int bu, .int ho, .ref ml, .ref mi, .ref mr, .int lh, .int mg, .int wd, .int fpi, .int fal, .ref mm, .ref mu, .ref mk, .ref mx, .long po, .long de])), (mi, .inl (0, 4, .inl (upd ir 0 (ir 0 + 0)))), (mr, .inl (3, 16, .inr (.inl (lfd gr (fun e => chS m1 3 e / 10) 4))))]) 0 0 := by
  refine z_of (by decide) rfl (Nat.le_of_ble_eq_true rfl) (fun w0 => ?_)
  refine r_lvE (lv2 := [(0, .ref m), (1, .int 107), (2, .int m1)]) rfl ?_
  refine r_aload_n d_Mm_charge_0 rfl 0 rfl ?_
  refine r_iconst d_Mm_charge_1 (v := 0) (by decide) ?_
  refine r_put fp_Mm_84 d_Mm_charge_2 (fun h => nomatch h) rfl rfl (q0 := 0) rfl (Nat.le_of_ble_eq_true rfl) (cs' := [(m, .inr (12, [.int 0, .ref mp, .int pt, .ref mf, .ref mh, .ref mn, .ref mt, .ref mz, .ref mc_, .ref mq, .ref mgr, .int cl, .int wa, .int co_, .int fi, .int bu, .int ho, .ref ml, .ref mi, .ref mr, .int lh, .int mg, .int wd, .int fpi, .int fal, .ref mm, .ref mu, .ref mk, .ref mx, .long po, .long de])), (mi, .inl (0, 4, .inl ir)), (mr, .inl (3, 16, .inr (.inl gr)))]) rfl ?_
  refine r_iload_n d_Mm_charge_5 rfl 1 rfl ?_
  refine r_bipush d_Mm_charge_6 (v := 103) (by decide) ?_
  refine r_icmp_ne (tgt := 15) d_Mm_charge_8 (by decide) (fun c_8 => ?_) (fun c_8 => ?_)
  · refine r_iload_n d_Mm_charge_15 rfl 1 rfl ?_
    refine r_bipush d_Mm_charge_16 (v := 100) (by decide) ?_
    refine r_icmp_ne (tgt := 25) d_Mm_charge_18 (by decide) (fun c_18 => ?_) (fun c_18 => ?_)
    · refine r_iconst d_Mm_charge_25 (v := (-1)) (by decide) ?_
      refine r_istore_n (lv' := [(3, .int (-1)), (0, .ref m), (1, .int 107), (2, .int m1)]) d_Mm_charge_26 rfl (by decide) rfl ?_
      refine r_aload_n d_Mm_charge_27 rfl 1 rfl ?_
      refine r_ldcS (own := "IronpourModel") (i := 1) (by decide) d_Mm_charge_28 ?_
      refine r_iload_n d_Mm_charge_30 rfl 2 rfl ?_
      refine r_callVS (As := [.int 107]) (rest := [.ref m]) (csC := []) (is := []) (i := 1) (by first | assumption | decide) rfl ln_Mm_97 w_im_String_indexOf_0 w_se_String_indexOf_0 ok_Mm_charge_String_indexOf_0 d_Mm_charge_31 (C_St_indexOf g 1 (by decide) 107) rfl rfl (Nat.le_of_ble_eq_true rfl) rfl (by decide) (by omega) (by omega) (fun E cs1 hx => ?_) (fun v cs1 hx => ?_)
      · exact absurd hx.1 (by simp)
      · obtain ⟨e1, rfl⟩ := hx
        cases e1
        refine ⟨rfl, ?_⟩
        refine r_st (st2 := [.int (z_ix 1 107), .ref m]) rfl ?_
        refine r_cs (cs2 := [(m, .inr (12, [.int 0, .ref mp, .int pt, .ref mf, .ref mh, .ref mn, .ref mt, .ref mz, .ref mc_, .ref mq, .ref mgr, .int cl, .int wa, .int co_, .int fi, .int bu, .int ho, .ref ml, .ref mi, .ref mr, .int lh, .int mg, .int wd, .int fpi, .int fal, .ref mm, .ref mu, .ref mk, .ref mx, .long po, .long de])), (mi, .inl (0, 4, .inl ir)), (mr, .inl (3, 16, .inr (.inl gr)))]) rfl ?_
        refine r_if_lt (tgt := 48) d_Mm_charge_34 (by decide) (fun c_34 => ?_) (fun c_34 => ?_)
        · exact absurd c_34 (by decide)
        · refine r_iload_n d_Mm_charge_37 rfl 3 rfl ?_
          refine r_iconst d_Mm_charge_38 (v := 1) (by decide) ?_
          refine r_sipush d_Mm_charge_39 (v := 1000) (by decide) ?_
          refine r_callS (As := [.int m1, .int 1, .int 1000]) (rest := [.ref m]) (csC := []) (is := []) ln_Mm_87 w_st_Mm_in ok_Mm_charge_Mm_in d_Mm_charge_42 (C_Mm_in g m1 1 1000) rfl rfl (Nat.le_of_ble_eq_true rfl) rfl (by decide) (by omega) (by omega) (fun E cs1 hx => ?_) (fun v cs1 hx => ?_)
          · exact absurd hx.1 (by simp)
          · obtain ⟨e1, rfl⟩ := hx
            rw [if_pos hw] at e1
            cases e1
            refine ⟨rfl, ?_⟩
            refine r_st (st2 := [.int 1, .ref m]) rfl ?_
            refine r_cs (cs2 := [(m, .inr (12, [.int 0, .ref mp, .int pt, .ref mf, .ref mh, .ref mn, .ref mt, .ref mz, .ref mc_, .ref mq, .ref mgr, .int cl, .int wa, .int co_, .int fi, .int bu, .int ho, .ref ml, .ref mi, .ref mr, .int lh, .int mg, .int wd, .int fpi, .int fal, .ref mm, .ref mu, .ref mk, .ref mx, .long po, .long de])), (mi, .inl (0, 4, .inl ir)), (mr, .inl (3, 16, .inr (.inl gr)))]) rfl ?_
            refine r_if_ne (tgt := 52) d_Mm_charge_45 (by decide) (fun c_45 => ?_) (fun c_45 => ?_)
            · refine r_iconst d_Mm_charge_52 (v := 0) (by decide) ?_
              refine r_iconst d_Mm_charge_53 (v := 1) (by decide) ?_
              refine r_callV (As := [.int 0, .int 1]) (rest := []) (csC := [(m, .inr (12, [.int 0, .ref mp, .int pt, .ref mf, .ref mh, .ref mn, .ref mt, .ref mz, .ref mc_, .ref mq, .ref mgr, .int cl, .int wa, .int co_, .int fi, .int bu, .int ho, .ref ml, .ref mi, .ref mr, .int lh, .int mg, .int wd, .int fpi, .int fal, .ref mm, .ref mu, .ref mk, .ref mx, .long po, .long de]))]) (is := [0]) (q0 := 0) rfl rfl ln_Mm_103 w_im_Mm_fails w_se_Mm_fails ok_Mm_charge_Mm_fails d_Mm_charge_54 (C_Mm_fails0 g m mp mf mh mn mt mz mc_ mq mgr ml mi mr mm mu mk mx th pt cl wa co_ fi bu ho lh mg wd fpi fal po de 1) rfl rfl (Nat.le_of_ble_eq_true rfl) rfl (by decide) (by omega) (by omega) (fun E cs1 hx => ?_) (fun v cs1 hx => ?_)
              · exact absurd hx.1 (by simp)
              · obtain ⟨e1, rfl⟩ := hx
                cases e1
                refine ⟨rfl, ?_⟩
                refine r_st (st2 := [.int 0]) rfl ?_
                refine r_cs (cs2 := [(m, .inr (12, [.int 0, .ref mp, .int pt, .ref mf, .ref mh, .ref mn, .ref mt, .ref mz, .ref mc_, .ref mq, .ref mgr, .int cl, .int wa, .int co_, .int fi, .int bu, .int ho, .ref ml, .ref mi, .ref mr, .int lh, .int mg, .int wd, .int fpi, .int fal, .ref mm, .ref mu, .ref mk, .ref mx, .long po, .long de])), (mi, .inl (0, 4, .inl ir)), (mr, .inl (3, 16, .inr (.inl gr)))]) rfl ?_
                refine r_if_ne (tgt := 88) d_Mm_charge_57 (by decide) (fun c_57 => ?_) (fun c_57 => ?_)
                · exact absurd c_57 (by decide)
                · refine r_aload_n d_Mm_charge_60 rfl 1 rfl ?_
                  refine r_iload_n d_Mm_charge_61 rfl 0 rfl ?_
                  refine r_iconst d_Mm_charge_62 (v := (-1)) (by decide) ?_
                  refine r_icmp_eq (tgt := 80) d_Mm_charge_63 (by decide) (fun c_63 => ?_) (fun c_63 => ?_)
                  · refine r_iconst d_Mm_charge_80 (v := 0) (by decide) ?_
                    refine r_iconst d_Mm_charge_81 (v := 2) (by decide) ?_
                    refine r_callV (As := [.int 0, .int 2]) (rest := []) (csC := [(m, .inr (12, [.int 0, .ref mp, .int pt, .ref mf, .ref mh, .ref mn, .ref mt, .ref mz, .ref mc_, .ref mq, .ref mgr, .int cl, .int wa, .int co_, .int fi, .int bu, .int ho, .ref ml, .ref mi, .ref mr, .int lh, .int mg, .int wd, .int fpi, .int fal, .ref mm, .ref mu, .ref mk, .ref mx, .long po, .long de]))]) (is := [0]) (q0 := 0) rfl rfl ln_Mm_103 w_im_Mm_fails w_se_Mm_fails ok_Mm_charge_Mm_fails d_Mm_charge_82 (C_Mm_fails0 g m mp mf mh mn mt mz mc_ mq mgr ml mi mr mm mu mk mx th pt cl wa co_ fi bu ho lh mg wd fpi fal po de 2) rfl rfl (Nat.le_of_ble_eq_true rfl) rfl (by decide) (by omega) (by omega) (fun E cs1 hx => ?_) (fun v cs1 hx => ?_)
                    · exact absurd hx.1 (by simp)
                    · obtain ⟨e1, rfl⟩ := hx
                      cases e1
                      refine ⟨rfl, ?_⟩
                      refine r_st (st2 := [.int 0]) rfl ?_
                      refine r_cs (cs2 := [(m, .inr (12, [.int 0, .ref mp, .int pt, .ref mf, .ref mh, .ref mn, .ref mt, .ref mz, .ref mc_, .ref mq, .ref mgr, .int cl, .int wa, .int co_, .int fi, .int bu, .int ho, .ref ml, .ref mi, .ref mr, .int lh, .int mg, .int wd, .int fpi, .int fal, .ref mm, .ref mu, .ref mk, .ref mx, .long po, .long de])), (mi, .inl (0, 4, .inl ir)), (mr, .inl (3, 16, .inr (.inl gr)))]) rfl ?_
                      refine r_if_eq (tgt := 90) d_Mm_charge_85 (by decide) (fun c_85 => ?_) (fun c_85 => ?_)
                      · refine r_aload_n d_Mm_charge_90 rfl 1 rfl ?_
                        refine r_iload_n d_Mm_charge_91 rfl 2 rfl ?_
                        refine r_bipush d_Mm_charge_92 (v := 107) (by decide) ?_
                        refine r_icmp_eq (tgt := 115) d_Mm_charge_94 (by decide) (fun c_94 => ?_) (fun c_94 => ?_)
                        · refine r_iconst d_Mm_charge_115 (v := 0) (by decide) ?_
                          refine r_iconst d_Mm_charge_116 (v := 3) (by decide) ?_
                          refine r_callV (As := [.int 0, .int 3]) (rest := []) (csC := [(m, .inr (12, [.int 0, .ref mp, .int pt, .ref mf, .ref mh, .ref mn, .ref mt, .ref mz, .ref mc_, .ref mq, .ref mgr, .int cl, .int wa, .int co_, .int fi, .int bu, .int ho, .ref ml, .ref mi, .ref mr, .int lh, .int mg, .int wd, .int fpi, .int fal, .ref mm, .ref mu, .ref mk, .ref mx, .long po, .long de]))]) (is := [0]) (q0 := 0) rfl rfl ln_Mm_103 w_im_Mm_fails w_se_Mm_fails ok_Mm_charge_Mm_fails d_Mm_charge_117 (C_Mm_fails0 g m mp mf mh mn mt mz mc_ mq mgr ml mi mr mm mu mk mx th pt cl wa co_ fi bu ho lh mg wd fpi fal po de 3) rfl rfl (Nat.le_of_ble_eq_true rfl) rfl (by decide) (by omega) (by omega) (fun E cs1 hx => ?_) (fun v cs1 hx => ?_)
                          · exact absurd hx.1 (by simp)
                          · obtain ⟨e1, rfl⟩ := hx
                            cases e1
                            refine ⟨rfl, ?_⟩
                            refine r_st (st2 := [.int 0]) rfl ?_
                            refine r_cs (cs2 := [(m, .inr (12, [.int 0, .ref mp, .int pt, .ref mf, .ref mh, .ref mn, .ref mt, .ref mz, .ref mc_, .ref mq, .ref mgr, .int cl, .int wa, .int co_, .int fi, .int bu, .int ho, .ref ml, .ref mi, .ref mr, .int lh, .int mg, .int wd, .int fpi, .int fal, .ref mm, .ref mu, .ref mk, .ref mx, .long po, .long de])), (mi, .inl (0, 4, .inl ir)), (mr, .inl (3, 16, .inr (.inl gr)))]) rfl ?_
                            refine r_if_eq (tgt := 125) d_Mm_charge_120 (by decide) (fun c_120 => ?_) (fun c_120 => ?_)
                            · refine r_iload_n d_Mm_charge_125 rfl 0 rfl ?_
                              refine r_iconst d_Mm_charge_126 (v := (-1)) (by decide) ?_
                              refine r_icmp_eq (tgt := 140) d_Mm_charge_127 (by decide) (fun c_127 => ?_) (fun c_127 => ?_)
                              · refine r_iconst d_Mm_charge_140 (v := 0) (by decide) ?_
                                refine r_istore (lv' := [(4, .int 0), (3, .int (-1)), (0, .ref m), (1, .int 107), (2, .int m1)]) d_Mm_charge_141 (by decide) rfl ?_
                                refine r_lv (lv' := [(4, .int 0), (2, .int m1), (1, .int 107), (0, .ref m)]) [0, 4, 3, 2] rfl ?_
                                refine r_lvE (lv2 := [(4, .int (nI 0)), (2, .int m1), (1, .int 107), (0, .ref m)]) (rfl) ?_
                                refine r_cs (cs2 := [(m, .inr (12, [.int 0, .ref mp, .int pt, .ref mf, .ref mh, .ref mn, .ref mt, .ref mz, .ref mc_, .ref mq, .ref mgr, .int cl, .int wa, .int co_, .int fi, .int bu, .int ho, .ref ml, .ref mi, .ref mr, .int lh, .int mg, .int wd, .int fpi, .int fal, .ref mm, .ref mu, .ref mk, .ref mx, .long po, .long de])), (mi, .inl (0, 4, .inl ir)), (mr, .inl (3, 16, .inr (.inl (lfd gr (fun e => chS m1 3 e / 10) 0))))]) (rfl) ?_
                                exact L_Mm_charge107N_143 g m mp mf mh mn mt mz mc_ mq mgr ml mi mr mm mu mk mx th pt cl wa co_ fi bu ho lh mg wd fpi fal po de ir gr m1 hw w0 _  (4 + 1) 0 (Nat.zero_le _) (by omega)
                              · exact absurd c_127 (by decide)
                            · exact absurd c_120 (by decide)
                        · exact absurd c_94 (by decide)
                      · exact absurd c_85 (by decide)
                  · exact absurd c_63 (by decide)
            · exact absurd c_45 (by decide)
    · exact absurd c_18 (by decide)
  · exact absurd c_8 (by decide)
abbrev M_Mm_furnace : zM := (⟨"IronpourModel", "furnace", "(C)I"⟩, prog_14_method_60_code, 2, (Option.some FieldType.int), 9, 199, [])
theorem d_Mm_furnace_0 : decode prog_14_method_60_code 0 = .ok (.aload_n 0, 1) := zo_42 (zd_b zq_prog_14_method_60_code_0 0 rfl rfl rfl)
theorem d_Mm_furnace_1 : decode prog_14_method_60_code 1 = .ok (.iconst 0, 1) := zo_3 (zd_b zq_prog_14_method_60_code_0 1 rfl rfl rfl)
theorem d_Mm_furnace_2 : decode prog_14_method_60_code 2 = .ok (.putfield 84, 3) := zo_181 (d := 0) (e := 84) (zd_b zq_prog_14_method_60_code_0 2 rfl rfl rfl) (zd_b zq_prog_14_method_60_code_0 3 rfl rfl rfl) (zd_b zq_prog_14_method_60_code_0 4 rfl rfl rfl)
theorem d_Mm_furnace_5 : decode prog_14_method_60_code 5 = .ok (.aload_n 0, 1) := zo_42 (zd_b zq_prog_14_method_60_code_0 5 rfl rfl rfl)
theorem d_Mm_furnace_6 : decode prog_14_method_60_code 6 = .ok (.iload_n 1, 1) := zo_27 (zd_b zq_prog_14_method_60_code_0 6 rfl rfl rfl)
theorem d_Mm_furnace_7 : decode prog_14_method_60_code 7 = .ok (.invokestatic 246, 3) := zo_184 (d := 0) (e := 246) (zd_b zq_prog_14_method_60_code_0 7 rfl rfl rfl) (zd_b zq_prog_14_method_60_code_0 8 rfl rfl rfl) (zd_b zq_prog_14_method_60_code_0 9 rfl rfl rfl)
theorem ok_Mm_furnace_Mm_element : z_ok M_Mm_furnace M_Mm_element 1 := ⟨z_mj8 (i := 164) rfl (by decide +kernel), rfl, ⟨by decide +kernel, by decide +kernel, by decide +kernel⟩, ⟨by decide, by decide⟩, z_mj1 (i := 14) rfl (by decide +kernel), rfl⟩
theorem ln_Mm_246 : Cond.methodLink "IronpourModel" 246 M_Mm_element.1 ∈ z_gw := z_mj8 (i := 162) rfl (by decide +kernel)
theorem w_st_Mm_element : Cond.static M_Mm_element.1 ∈ z_gw := z_mj8 (i := 163) rfl (by decide +kernel)
theorem d_Mm_furnace_10 : decode prog_14_method_60_code 10 = .ok (.ifCond .ge 7, 3) := zo_156 (d := 0) (e := 7) (zd_b zq_prog_14_method_60_code_0 10 rfl rfl rfl) (zd_b zq_prog_14_method_60_code_0 11 rfl rfl rfl) (zd_b zq_prog_14_method_60_code_0 12 rfl rfl rfl) (by decide +kernel)
theorem d_Mm_furnace_13 : decode prog_14_method_60_code 13 = .ok (.iconst 1, 1) := zo_4 (zd_b zq_prog_14_method_60_code_0 13 rfl rfl rfl)
theorem d_Mm_furnace_14 : decode prog_14_method_60_code 14 = .ok (.goto 4, 3) := zo_167 (d := 0) (e := 4) (zd_b zq_prog_14_method_60_code_0 14 rfl rfl rfl) (zd_b zq_prog_14_method_60_code_0 15 rfl rfl rfl) (zd_b zq_prog_14_method_60_code_0 16 rfl rfl rfl) (by decide +kernel)
theorem d_Mm_furnace_18 : decode prog_14_method_60_code 18 = .ok (.iconst 1, 1) := zo_4 (zd_b zq_prog_14_method_60_code_0 18 rfl rfl rfl)
theorem d_Mm_furnace_19 : decode prog_14_method_60_code 19 = .ok (.invokevirtual 103, 3) := zo_182 (d := 0) (e := 103) (zd_b zq_prog_14_method_60_code_0 19 rfl rfl rfl) (zd_b zq_prog_14_method_60_code_0 20 rfl rfl rfl) (zd_b zq_prog_14_method_60_code_0 21 rfl rfl rfl)
theorem ok_Mm_furnace_Mm_fails : z_ok M_Mm_furnace M_Mm_fails 2 := ⟨z_mj7 (i := 196) rfl (by decide +kernel), rfl, ⟨by decide +kernel, by decide +kernel, by decide +kernel⟩, ⟨by decide, by decide⟩, z_mj1 (i := 14) rfl (by decide +kernel), rfl⟩
theorem d_Mm_furnace_22 : decode prog_14_method_60_code 22 = .ok (.ifCond .ne 25, 3) := zo_154 (d := 0) (e := 25) (zd_b zq_prog_14_method_60_code_0 22 rfl rfl rfl) (zd_b zq_prog_14_method_60_code_0 23 rfl rfl rfl) (zd_b zq_prog_14_method_60_code_0 24 rfl rfl rfl) (by decide +kernel)
theorem d_Mm_furnace_47 : decode prog_14_method_60_code 47 = .ok (.iconst 0, 1) := zo_3 (zd_b zq_prog_14_method_60_code_1 15 rfl rfl rfl)
theorem d_Mm_furnace_48 : decode prog_14_method_60_code 48 = .ok (.goto 12, 3) := zo_167 (d := 0) (e := 12) (zd_b zq_prog_14_method_60_code_1 16 rfl rfl rfl) (zd_b zq_prog_14_method_60_code_1 17 rfl rfl rfl) (zd_b zq_prog_14_method_60_code_1 18 rfl rfl rfl) (by decide +kernel)
theorem d_Mm_furnace_60 : decode prog_14_method_60_code 60 = .ok (.ireturn, 1) := zo_172 (zd_b zq_prog_14_method_60_code_1 28 rfl rfl rfl)
set_option maxHeartbeats 4000000 in
set_option maxRecDepth 100000 in
theorem C_Mm_furnaceE (g : zG) (m mp mf mh mn mt mz mc_ mq mgr ml mi mr mm mu mk mx : Nat) (th pt cl wa co_ fi bu ho lh mg wd fpi fal : Int32) (po de : Int64) (k : Int32) (hk : z_ix 2 k < 0) : CT g M_Mm_furnace [.ref m, .int k] [(m, .inr (12, [.int th, .ref mp, .int pt, .ref mf, .ref mh, .ref mn, .ref mt, .ref mz, .ref mc_, .ref mq, .ref mgr, .int cl, .int wa, .int co_, .int fi, .int bu, .int ho, .ref ml, .ref mi, .ref mr, .int lh, .int mg, .int wd, .int fpi, .int fal, .ref mm, .ref mu, .ref mk, .ref mx, .long po, .long de]))] (fun o cs1 => o = .inl (some (.int 0)) ∧ cs1 = [(m, .inr (12, [.int 1, .ref mp, .int pt, .ref mf, .ref mh, .ref mn, .ref mt, .ref mz, .ref mc_, .ref mq, .ref mgr, .int cl, .int wa, .int co_, .int fi, .int bu, .int ho, .ref ml, .ref mi, .ref mr, .int lh, .int mg, .int wd, .int fpi, .int fal, .ref mm, .ref mu, .ref mk, .ref mx, .long po, .long de]))]) 0 0 := by
  refine z_of (by decide) rfl (Nat.le_of_ble_eq_true rfl) (fun w0 => ?_)
  refine r_lvE (lv2 := [(0, .ref m), (1, .int k)]) rfl ?_
  refine r_aload_n d_Mm_furnace_0 rfl 0 rfl ?_
  refine r_iconst d_Mm_furnace_1 (v := 0) (by decide) ?_
  refine r_put fp_Mm_84 d_Mm_furnace_2 (fun h => nomatch h) rfl rfl (q0 := 0) rfl (Nat.le_of_ble_eq_true rfl) (cs' := [(m, .inr (12, [.int 0, .ref mp, .int pt, .ref mf, .ref mh, .ref mn, .ref mt, .ref mz, .ref mc_, .ref mq, .ref mgr, .int cl, .int wa, .int co_, .int fi, .int bu, .int ho, .ref ml, .ref mi, .ref mr, .int lh, .int mg, .int wd, .int fpi, .int fal, .ref mm, .ref mu, .ref mk, .ref mx, .long po, .long de]))]) rfl ?_
  refine r_aload_n d_Mm_furnace_5 rfl 0 rfl ?_
  refine r_iload_n d_Mm_furnace_6 rfl 1 rfl ?_
  refine r_callS (As := [.int k]) (rest := [.ref m]) (csC := []) (is := []) ln_Mm_246 w_st_Mm_element ok_Mm_furnace_Mm_element d_Mm_furnace_7 (C_Mm_element g k) rfl rfl (Nat.le_of_ble_eq_true rfl) rfl (by decide) (by omega) (by omega) (fun E cs1 hx => ?_) (fun v cs1 hx => ?_)
  · exact absurd hx.1 (by simp)
  · obtain ⟨e1, rfl⟩ := hx
    cases e1
    refine ⟨rfl, ?_⟩
    refine r_st (st2 := [.int (z_ix 2 k), .ref m]) rfl ?_
    refine r_cs (cs2 := [(m, .inr (12, [.int 0, .ref mp, .int pt, .ref mf, .ref mh, .ref mn, .ref mt, .ref mz, .ref mc_, .ref mq, .ref mgr, .int cl, .int wa, .int co_, .int fi, .int bu, .int ho, .ref ml, .ref mi, .ref mr, .int lh, .int mg, .int wd, .int fpi, .int fal, .ref mm, .ref mu, .ref mk, .ref mx, .long po, .long de]))]) rfl ?_
    refine r_if_ge (tgt := 17) d_Mm_furnace_10 (by decide) (fun c_10 => ?_) (fun c_10 => ?_)
    · exact absurd hk (Int32.not_lt.mpr c_10)
    · refine r_iconst d_Mm_furnace_13 (v := 1) (by decide) ?_
      refine r_goto (tgt := 18) d_Mm_furnace_14 (by decide) ?_
      refine r_iconst d_Mm_furnace_18 (v := 1) (by decide) ?_
      refine r_callV (As := [.int 1, .int 1]) (rest := []) (csC := [(m, .inr (12, [.int 0, .ref mp, .int pt, .ref mf, .ref mh, .ref mn, .ref mt, .ref mz, .ref mc_, .ref mq, .ref mgr, .int cl, .int wa, .int co_, .int fi, .int bu, .int ho, .ref ml, .ref mi, .ref mr, .int lh, .int mg, .int wd, .int fpi, .int fal, .ref mm, .ref mu, .ref mk, .ref mx, .long po, .long de]))]) (is := [0]) (q0 := 0) rfl rfl ln_Mm_103 w_im_Mm_fails w_se_Mm_fails ok_Mm_furnace_Mm_fails d_Mm_furnace_19 (C_Mm_fails1 g m mp mf mh mn mt mz mc_ mq mgr ml mi mr mm mu mk mx th pt cl wa co_ fi bu ho lh mg wd fpi fal po de) rfl rfl (Nat.le_of_ble_eq_true rfl) rfl (by decide) (by omega) (by omega) (fun E cs1 hx => ?_) (fun v cs1 hx => ?_)
      · exact absurd hx.1 (by simp)
      · obtain ⟨e1, rfl⟩ := hx
        cases e1
        refine ⟨rfl, ?_⟩
        refine r_st (st2 := [.int 1]) rfl ?_
        refine r_cs (cs2 := [(m, .inr (12, [.int 1, .ref mp, .int pt, .ref mf, .ref mh, .ref mn, .ref mt, .ref mz, .ref mc_, .ref mq, .ref mgr, .int cl, .int wa, .int co_, .int fi, .int bu, .int ho, .ref ml, .ref mi, .ref mr, .int lh, .int mg, .int wd, .int fpi, .int fal, .ref mm, .ref mu, .ref mk, .ref mx, .long po, .long de]))]) rfl ?_
        refine r_if_ne (tgt := 47) d_Mm_furnace_22 (by decide) (fun c_22 => ?_) (fun c_22 => ?_)
        · refine r_iconst d_Mm_furnace_47 (v := 0) (by decide) ?_
          refine r_goto (tgt := 60) d_Mm_furnace_48 (by decide) ?_
          refine r_iret d_Mm_furnace_60 rfl rfl ?_
          exact ⟨rfl, rfl⟩
        · exact absurd c_22 (by decide)
theorem d_Mm_furnace_17 : decode prog_14_method_60_code 17 = .ok (.iconst 0, 1) := zo_3 (zd_b zq_prog_14_method_60_code_0 17 rfl rfl rfl)
theorem d_Mm_furnace_25 : decode prog_14_method_60_code 25 = .ok (.aload_n 0, 1) := zo_42 (zd_b zq_prog_14_method_60_code_0 25 rfl rfl rfl)
theorem d_Mm_furnace_26 : decode prog_14_method_60_code 26 = .ok (.aload_n 0, 1) := zo_42 (zd_b zq_prog_14_method_60_code_0 26 rfl rfl rfl)
theorem d_Mm_furnace_27 : decode prog_14_method_60_code 27 = .ok (.getfield 62, 3) := zo_180 (d := 0) (e := 62) (zd_b zq_prog_14_method_60_code_0 27 rfl rfl rfl) (zd_b zq_prog_14_method_60_code_0 28 rfl rfl rfl) (zd_b zq_prog_14_method_60_code_0 29 rfl rfl rfl)
theorem d_Mm_furnace_30 : decode prog_14_method_60_code 30 = .ok (.iconst 0, 1) := zo_3 (zd_b zq_prog_14_method_60_code_0 30 rfl rfl rfl)
theorem d_Mm_furnace_31 : decode prog_14_method_60_code 31 = .ok (.iaload, 1) := zo_46 (zd_b zq_prog_14_method_60_code_0 31 rfl rfl rfl)
theorem d_Mm_furnace_32 : decode prog_14_method_60_code 32 = .ok (.ifCond .ne 7, 3) := zo_154 (d := 0) (e := 7) (zd_b zq_prog_14_method_60_code_1 0 rfl rfl rfl) (zd_b zq_prog_14_method_60_code_1 1 rfl rfl rfl) (zd_b zq_prog_14_method_60_code_1 2 rfl rfl rfl) (by decide +kernel)
theorem d_Mm_furnace_35 : decode prog_14_method_60_code 35 = .ok (.iconst 1, 1) := zo_4 (zd_b zq_prog_14_method_60_code_1 3 rfl rfl rfl)
theorem d_Mm_furnace_36 : decode prog_14_method_60_code 36 = .ok (.goto 4, 3) := zo_167 (d := 0) (e := 4) (zd_b zq_prog_14_method_60_code_1 4 rfl rfl rfl) (zd_b zq_prog_14_method_60_code_1 5 rfl rfl rfl) (zd_b zq_prog_14_method_60_code_1 6 rfl rfl rfl) (by decide +kernel)
theorem d_Mm_furnace_40 : decode prog_14_method_60_code 40 = .ok (.iconst 2, 1) := zo_5 (zd_b zq_prog_14_method_60_code_1 8 rfl rfl rfl)
theorem d_Mm_furnace_41 : decode prog_14_method_60_code 41 = .ok (.invokevirtual 103, 3) := zo_182 (d := 0) (e := 103) (zd_b zq_prog_14_method_60_code_1 9 rfl rfl rfl) (zd_b zq_prog_14_method_60_code_1 10 rfl rfl rfl) (zd_b zq_prog_14_method_60_code_1 11 rfl rfl rfl)
theorem d_Mm_furnace_44 : decode prog_14_method_60_code 44 = .ok (.ifCond .eq 7, 3) := zo_153 (d := 0) (e := 7) (zd_b zq_prog_14_method_60_code_1 12 rfl rfl rfl) (zd_b zq_prog_14_method_60_code_1 13 rfl rfl rfl) (zd_b zq_prog_14_method_60_code_1 14 rfl rfl rfl) (by decide +kernel)
set_option maxHeartbeats 4000000 in
set_option maxRecDepth 100000 in
theorem C_Mm_furnaceF (g : zG) (m mp mf mh mn mt mz mc_ mq mgr ml mi mr mm mu mk mx : Nat) (th pt cl wa co_ fi bu ho lh mg wd fpi fal : Int32) (po de : Int64) (ir : Nat → Int32) (k : Int32) (hk : ¬ z_ix 2 k < 0) (h0 : ir 0 = 0) : CT g M_Mm_furnace [.ref m, .int k] [(m, .inr (12, [.int th, .ref mp, .int pt, .ref mf, .ref mh, .ref mn, .ref mt, .ref mz, .ref mc_, .ref mq, .ref mgr, .int cl, .int wa, .int co_, .int fi, .int bu, .int ho, .ref ml, .ref mi, .ref mr, .int lh, .int mg, .int wd, .int fpi, .int fal, .ref mm, .ref mu, .ref mk, .ref mx, .long po, .long de])), (mi, .inl (0, 4, .inl ir))] (fun o cs1 => o = .inl (some (.int 0)) ∧ cs1 = [(m, .inr (12, [.int 2, .ref mp, .int pt, .ref mf, .ref mh, .ref mn, .ref mt, .ref mz, .ref mc_, .ref mq, .ref mgr, .int cl, .int wa, .int co_, .int fi, .int bu, .int ho, .ref ml, .ref mi, .ref mr, .int lh, .int mg, .int wd, .int fpi, .int fal, .ref mm, .ref mu, .ref mk, .ref mx, .long po, .long de])), (mi, .inl (0, 4, .inl ir))]) 0 0 := by
  refine z_of (by decide) rfl (Nat.le_of_ble_eq_true rfl) (fun w0 => ?_)
  refine r_lvE (lv2 := [(0, .ref m), (1, .int k)]) rfl ?_
  refine r_aload_n d_Mm_furnace_0 rfl 0 rfl ?_
  refine r_iconst d_Mm_furnace_1 (v := 0) (by decide) ?_
  refine r_put fp_Mm_84 d_Mm_furnace_2 (fun h => nomatch h) rfl rfl (q0 := 0) rfl (Nat.le_of_ble_eq_true rfl) (cs' := [(m, .inr (12, [.int 0, .ref mp, .int pt, .ref mf, .ref mh, .ref mn, .ref mt, .ref mz, .ref mc_, .ref mq, .ref mgr, .int cl, .int wa, .int co_, .int fi, .int bu, .int ho, .ref ml, .ref mi, .ref mr, .int lh, .int mg, .int wd, .int fpi, .int fal, .ref mm, .ref mu, .ref mk, .ref mx, .long po, .long de])), (mi, .inl (0, 4, .inl ir))]) rfl ?_
  refine r_aload_n d_Mm_furnace_5 rfl 0 rfl ?_
  refine r_iload_n d_Mm_furnace_6 rfl 1 rfl ?_
  refine r_callS (As := [.int k]) (rest := [.ref m]) (csC := []) (is := []) ln_Mm_246 w_st_Mm_element ok_Mm_furnace_Mm_element d_Mm_furnace_7 (C_Mm_element g k) rfl rfl (Nat.le_of_ble_eq_true rfl) rfl (by decide) (by omega) (by omega) (fun E cs1 hx => ?_) (fun v cs1 hx => ?_)
  · exact absurd hx.1 (by simp)
  · obtain ⟨e1, rfl⟩ := hx
    cases e1
    refine ⟨rfl, ?_⟩
    refine r_st (st2 := [.int (z_ix 2 k), .ref m]) rfl ?_
    refine r_cs (cs2 := [(m, .inr (12, [.int 0, .ref mp, .int pt, .ref mf, .ref mh, .ref mn, .ref mt, .ref mz, .ref mc_, .ref mq, .ref mgr, .int cl, .int wa, .int co_, .int fi, .int bu, .int ho, .ref ml, .ref mi, .ref mr, .int lh, .int mg, .int wd, .int fpi, .int fal, .ref mm, .ref mu, .ref mk, .ref mx, .long po, .long de])), (mi, .inl (0, 4, .inl ir))]) rfl ?_
    refine r_if_ge (tgt := 17) d_Mm_furnace_10 (by decide) (fun c_10 => ?_) (fun c_10 => ?_)
    · refine r_iconst d_Mm_furnace_17 (v := 0) (by decide) ?_
      refine r_iconst d_Mm_furnace_18 (v := 1) (by decide) ?_
      refine r_callV (As := [.int 0, .int 1]) (rest := []) (csC := [(m, .inr (12, [.int 0, .ref mp, .int pt, .ref mf, .ref mh, .ref mn, .ref mt, .ref mz, .ref mc_, .ref mq, .ref mgr, .int cl, .int wa, .int co_, .int fi, .int bu, .int ho, .ref ml, .ref mi, .ref mr, .int lh, .int mg, .int wd, .int fpi, .int fal, .ref mm, .ref mu, .ref mk, .ref mx, .long po, .long de]))]) (is := [0]) (q0 := 0) rfl rfl ln_Mm_103 w_im_Mm_fails w_se_Mm_fails ok_Mm_furnace_Mm_fails d_Mm_furnace_19 (C_Mm_fails0 g m mp mf mh mn mt mz mc_ mq mgr ml mi mr mm mu mk mx th pt cl wa co_ fi bu ho lh mg wd fpi fal po de 1) rfl rfl (Nat.le_of_ble_eq_true rfl) rfl (by decide) (by omega) (by omega) (fun E cs1 hx => ?_) (fun v cs1 hx => ?_)
      · exact absurd hx.1 (by simp)
      · obtain ⟨e1, rfl⟩ := hx
        cases e1
        refine ⟨rfl, ?_⟩
        refine r_st (st2 := [.int 0]) rfl ?_
        refine r_cs (cs2 := [(m, .inr (12, [.int 0, .ref mp, .int pt, .ref mf, .ref mh, .ref mn, .ref mt, .ref mz, .ref mc_, .ref mq, .ref mgr, .int cl, .int wa, .int co_, .int fi, .int bu, .int ho, .ref ml, .ref mi, .ref mr, .int lh, .int mg, .int wd, .int fpi, .int fal, .ref mm, .ref mu, .ref mk, .ref mx, .long po, .long de])), (mi, .inl (0, 4, .inl ir))]) rfl ?_
        refine r_if_ne (tgt := 47) d_Mm_furnace_22 (by decide) (fun c_22 => ?_) (fun c_22 => ?_)
        · exact absurd c_22 (by decide)
        · refine r_aload_n d_Mm_furnace_25 rfl 0 rfl ?_
          refine r_aload_n d_Mm_furnace_26 rfl 0 rfl ?_
          refine r_get fs_Mm_62 d_Mm_furnace_27 (q0 := 0) rfl rfl ?_
          refine r_iconst d_Mm_furnace_30 (v := 0) (by decide) ?_
          refine r_iald d_Mm_furnace_31 (q0 := 1) rfl (fun q => q.elim (by decide) (by decide)) (v := ir 0) rfl ?_
          refine r_if_ne (tgt := 39) d_Mm_furnace_32 (by decide) (fun c_32 => ?_) (fun c_32 => ?_)
          · exact absurd h0 c_32
          · refine r_iconst d_Mm_furnace_35 (v := 1) (by decide) ?_
            refine r_goto (tgt := 40) d_Mm_furnace_36 (by decide) ?_
            refine r_iconst d_Mm_furnace_40 (v := 2) (by decide) ?_
            refine r_callV (As := [.int 1, .int 2]) (rest := []) (csC := [(m, .inr (12, [.int 0, .ref mp, .int pt, .ref mf, .ref mh, .ref mn, .ref mt, .ref mz, .ref mc_, .ref mq, .ref mgr, .int cl, .int wa, .int co_, .int fi, .int bu, .int ho, .ref ml, .ref mi, .ref mr, .int lh, .int mg, .int wd, .int fpi, .int fal, .ref mm, .ref mu, .ref mk, .ref mx, .long po, .long de]))]) (is := [0]) (q0 := 0) rfl rfl ln_Mm_103 w_im_Mm_fails w_se_Mm_fails ok_Mm_furnace_Mm_fails d_Mm_furnace_41 (C_Mm_fails2 g m mp mf mh mn mt mz mc_ mq mgr ml mi mr mm mu mk mx th pt cl wa co_ fi bu ho lh mg wd fpi fal po de) rfl rfl (Nat.le_of_ble_eq_true rfl) rfl (by decide) (by omega) (by omega) (fun E cs1 hx => ?_) (fun v cs1 hx => ?_)
            · exact absurd hx.1 (by simp)
            · obtain ⟨e1, rfl⟩ := hx
              cases e1
              refine ⟨rfl, ?_⟩
              refine r_st (st2 := [.int 1]) rfl ?_
              refine r_cs (cs2 := [(m, .inr (12, [.int 2, .ref mp, .int pt, .ref mf, .ref mh, .ref mn, .ref mt, .ref mz, .ref mc_, .ref mq, .ref mgr, .int cl, .int wa, .int co_, .int fi, .int bu, .int ho, .ref ml, .ref mi, .ref mr, .int lh, .int mg, .int wd, .int fpi, .int fal, .ref mm, .ref mu, .ref mk, .ref mx, .long po, .long de])), (mi, .inl (0, 4, .inl ir))]) rfl ?_
              refine r_if_eq (tgt := 51) d_Mm_furnace_44 (by decide) (fun c_44 => ?_) (fun c_44 => ?_)
              · exact absurd c_44 (by decide)
              · refine r_iconst d_Mm_furnace_47 (v := 0) (by decide) ?_
                refine r_goto (tgt := 60) d_Mm_furnace_48 (by decide) ?_
                refine r_iret d_Mm_furnace_60 rfl rfl ?_
                exact ⟨rfl, rfl⟩
    · exact absurd (Int32.not_le.mp c_10) hk
abbrev M_Mm_pool : zM := (⟨"IronpourModel", "pool", "(C)I"⟩, prog_14_method_68_code, 2, (Option.some FieldType.int), 2, 42, [])
theorem d_Mm_pool_0 : decode prog_14_method_68_code 0 = .ok (.aload_n 0, 1) := zo_42 (zd_b zq_prog_14_method_68_code_0 0 rfl rfl rfl)
theorem d_Mm_pool_1 : decode prog_14_method_68_code 1 = .ok (.iconst 0, 1) := zo_3 (zd_b zq_prog_14_method_68_code_0 1 rfl rfl rfl)
theorem d_Mm_pool_2 : decode prog_14_method_68_code 2 = .ok (.putfield 84, 3) := zo_181 (d := 0) (e := 84) (zd_b zq_prog_14_method_68_code_0 2 rfl rfl rfl) (zd_b zq_prog_14_method_68_code_0 3 rfl rfl rfl) (zd_b zq_prog_14_method_68_code_0 4 rfl rfl rfl)
theorem d_Mm_pool_5 : decode prog_14_method_68_code 5 = .ok (.aload_n 0, 1) := zo_42 (zd_b zq_prog_14_method_68_code_0 5 rfl rfl rfl)
theorem d_Mm_pool_6 : decode prog_14_method_68_code 6 = .ok (.iload_n 1, 1) := zo_27 (zd_b zq_prog_14_method_68_code_0 6 rfl rfl rfl)
theorem d_Mm_pool_7 : decode prog_14_method_68_code 7 = .ok (.invokestatic 269, 3) := zo_184 (d := 1) (e := 13) (zd_b zq_prog_14_method_68_code_0 7 rfl rfl rfl) (zd_b zq_prog_14_method_68_code_0 8 rfl rfl rfl) (zd_b zq_prog_14_method_68_code_0 9 rfl rfl rfl)
theorem ok_Mm_pool_Mm_place : z_ok M_Mm_pool M_Mm_place 1 := ⟨z_mj8 (i := 203) rfl (by decide +kernel), rfl, ⟨by decide +kernel, by decide +kernel, by decide +kernel⟩, ⟨by decide, by decide⟩, z_mj1 (i := 14) rfl (by decide +kernel), rfl⟩
theorem ln_Mm_269 : Cond.methodLink "IronpourModel" 269 M_Mm_place.1 ∈ z_gw := z_mj8 (i := 201) rfl (by decide +kernel)
theorem w_st_Mm_place : Cond.static M_Mm_place.1 ∈ z_gw := z_mj8 (i := 202) rfl (by decide +kernel)
theorem d_Mm_pool_10 : decode prog_14_method_68_code 10 = .ok (.iconst (-1), 1) := zo_2 (zd_b zq_prog_14_method_68_code_0 10 rfl rfl rfl)
theorem d_Mm_pool_11 : decode prog_14_method_68_code 11 = .ok (.if_icmp .ne 7, 3) := zo_160 (d := 0) (e := 7) (zd_b zq_prog_14_method_68_code_0 11 rfl rfl rfl) (zd_b zq_prog_14_method_68_code_0 12 rfl rfl rfl) (zd_b zq_prog_14_method_68_code_0 13 rfl rfl rfl) (by decide +kernel)
theorem d_Mm_pool_14 : decode prog_14_method_68_code 14 = .ok (.iconst 1, 1) := zo_4 (zd_b zq_prog_14_method_68_code_0 14 rfl rfl rfl)
theorem d_Mm_pool_15 : decode prog_14_method_68_code 15 = .ok (.goto 4, 3) := zo_167 (d := 0) (e := 4) (zd_b zq_prog_14_method_68_code_0 15 rfl rfl rfl) (zd_b zq_prog_14_method_68_code_0 16 rfl rfl rfl) (zd_b zq_prog_14_method_68_code_0 17 rfl rfl rfl) (by decide +kernel)
theorem d_Mm_pool_19 : decode prog_14_method_68_code 19 = .ok (.iconst 1, 1) := zo_4 (zd_b zq_prog_14_method_68_code_0 19 rfl rfl rfl)
theorem d_Mm_pool_20 : decode prog_14_method_68_code 20 = .ok (.invokevirtual 103, 3) := zo_182 (d := 0) (e := 103) (zd_b zq_prog_14_method_68_code_0 20 rfl rfl rfl) (zd_b zq_prog_14_method_68_code_0 21 rfl rfl rfl) (zd_b zq_prog_14_method_68_code_0 22 rfl rfl rfl)
theorem ok_Mm_pool_Mm_fails : z_ok M_Mm_pool M_Mm_fails 2 := ⟨z_mj7 (i := 196) rfl (by decide +kernel), rfl, ⟨by decide +kernel, by decide +kernel, by decide +kernel⟩, ⟨by decide, by decide⟩, z_mj1 (i := 14) rfl (by decide +kernel), rfl⟩
theorem d_Mm_pool_23 : decode prog_14_method_68_code 23 = .ok (.ifCond .eq 7, 3) := zo_153 (d := 0) (e := 7) (zd_b zq_prog_14_method_68_code_0 23 rfl rfl rfl) (zd_b zq_prog_14_method_68_code_0 24 rfl rfl rfl) (zd_b zq_prog_14_method_68_code_0 25 rfl rfl rfl) (by decide +kernel)
theorem d_Mm_pool_26 : decode prog_14_method_68_code 26 = .ok (.iconst 0, 1) := zo_3 (zd_b zq_prog_14_method_68_code_0 26 rfl rfl rfl)
theorem d_Mm_pool_27 : decode prog_14_method_68_code 27 = .ok (.goto 12, 3) := zo_167 (d := 0) (e := 12) (zd_b zq_prog_14_method_68_code_0 27 rfl rfl rfl) (zd_b zq_prog_14_method_68_code_0 28 rfl rfl rfl) (zd_b zq_prog_14_method_68_code_0 29 rfl rfl rfl) (by decide +kernel)
theorem d_Mm_pool_39 : decode prog_14_method_68_code 39 = .ok (.ireturn, 1) := zo_172 (zd_b zq_prog_14_method_68_code_1 7 rfl rfl rfl)
set_option maxHeartbeats 4000000 in
set_option maxRecDepth 100000 in
theorem C_Mm_poolE (g : zG) (m mp mf mh mn mt mz mc_ mq mgr ml mi mr mm mu mk mx : Nat) (th pt cl wa co_ fi bu ho lh mg wd fpi fal : Int32) (po de : Int64) (k : Int32) (h1 : ¬ k = 103) (h2 : ¬ k = 100) : CT g M_Mm_pool [.ref m, .int k] [(m, .inr (12, [.int th, .ref mp, .int pt, .ref mf, .ref mh, .ref mn, .ref mt, .ref mz, .ref mc_, .ref mq, .ref mgr, .int cl, .int wa, .int co_, .int fi, .int bu, .int ho, .ref ml, .ref mi, .ref mr, .int lh, .int mg, .int wd, .int fpi, .int fal, .ref mm, .ref mu, .ref mk, .ref mx, .long po, .long de]))] (fun o cs1 => o = .inl (some (.int 0)) ∧ cs1 = [(m, .inr (12, [.int 1, .ref mp, .int pt, .ref mf, .ref mh, .ref mn, .ref mt, .ref mz, .ref mc_, .ref mq, .ref mgr, .int cl, .int wa, .int co_, .int fi, .int bu, .int ho, .ref ml, .ref mi, .ref mr, .int lh, .int mg, .int wd, .int fpi, .int fal, .ref mm, .ref mu, .ref mk, .ref mx, .long po, .long de]))]) 0 0 := by
  refine z_of (by decide) rfl (Nat.le_of_ble_eq_true rfl) (fun w0 => ?_)
  refine r_lvE (lv2 := [(0, .ref m), (1, .int k)]) rfl ?_
  refine r_aload_n d_Mm_pool_0 rfl 0 rfl ?_
  refine r_iconst d_Mm_pool_1 (v := 0) (by decide) ?_
  refine r_put fp_Mm_84 d_Mm_pool_2 (fun h => nomatch h) rfl rfl (q0 := 0) rfl (Nat.le_of_ble_eq_true rfl) (cs' := [(m, .inr (12, [.int 0, .ref mp, .int pt, .ref mf, .ref mh, .ref mn, .ref mt, .ref mz, .ref mc_, .ref mq, .ref mgr, .int cl, .int wa, .int co_, .int fi, .int bu, .int ho, .ref ml, .ref mi, .ref mr, .int lh, .int mg, .int wd, .int fpi, .int fal, .ref mm, .ref mu, .ref mk, .ref mx, .long po, .long de]))]) rfl ?_
  refine r_aload_n d_Mm_pool_5 rfl 0 rfl ?_
  refine r_iload_n d_Mm_pool_6 rfl 1 rfl ?_
  refine r_callS (As := [.int k]) (rest := [.ref m]) (csC := []) (is := []) ln_Mm_269 w_st_Mm_place ok_Mm_pool_Mm_place d_Mm_pool_7 (C_Mm_placeO g k h1 h2) rfl rfl (Nat.le_of_ble_eq_true rfl) rfl (by decide) (by omega) (by omega) (fun E cs1 hx => ?_) (fun v cs1 hx => ?_)
  · exact absurd hx.1 (by simp)
  · obtain ⟨e1, rfl⟩ := hx
    cases e1
    refine ⟨rfl, ?_⟩
    refine r_st (st2 := [.int (-1), .ref m]) rfl ?_
    refine r_cs (cs2 := [(m, .inr (12, [.int 0, .ref mp, .int pt, .ref mf, .ref mh, .ref mn, .ref mt, .ref mz, .ref mc_, .ref mq, .ref mgr, .int cl, .int wa, .int co_, .int fi, .int bu, .int ho, .ref ml, .ref mi, .ref mr, .int lh, .int mg, .int wd, .int fpi, .int fal, .ref mm, .ref mu, .ref mk, .ref mx, .long po, .long de]))]) rfl ?_
    refine r_iconst d_Mm_pool_10 (v := (-1)) (by decide) ?_
    refine r_icmp_ne (tgt := 18) d_Mm_pool_11 (by decide) (fun c_11 => ?_) (fun c_11 => ?_)
    · exact absurd c_11 (by decide)
    · refine r_iconst d_Mm_pool_14 (v := 1) (by decide) ?_
      refine r_goto (tgt := 19) d_Mm_pool_15 (by decide) ?_
      refine r_iconst d_Mm_pool_19 (v := 1) (by decide) ?_
      refine r_callV (As := [.int 1, .int 1]) (rest := []) (csC := [(m, .inr (12, [.int 0, .ref mp, .int pt, .ref mf, .ref mh, .ref mn, .ref mt, .ref mz, .ref mc_, .ref mq, .ref mgr, .int cl, .int wa, .int co_, .int fi, .int bu, .int ho, .ref ml, .ref mi, .ref mr, .int lh, .int mg, .int wd, .int fpi, .int fal, .ref mm, .ref mu, .ref mk, .ref mx, .long po, .long de]))]) (is := [0]) (q0 := 0) rfl rfl ln_Mm_103 w_im_Mm_fails w_se_Mm_fails ok_Mm_pool_Mm_fails d_Mm_pool_20 (C_Mm_fails1 g m mp mf mh mn mt mz mc_ mq mgr ml mi mr mm mu mk mx th pt cl wa co_ fi bu ho lh mg wd fpi fal po de) rfl rfl (Nat.le_of_ble_eq_true rfl) rfl (by decide) (by omega) (by omega) (fun E cs1 hx => ?_) (fun v cs1 hx => ?_)
      · exact absurd hx.1 (by simp)
      · obtain ⟨e1, rfl⟩ := hx
        cases e1
        refine ⟨rfl, ?_⟩
        refine r_st (st2 := [.int 1]) rfl ?_
        refine r_cs (cs2 := [(m, .inr (12, [.int 1, .ref mp, .int pt, .ref mf, .ref mh, .ref mn, .ref mt, .ref mz, .ref mc_, .ref mq, .ref mgr, .int cl, .int wa, .int co_, .int fi, .int bu, .int ho, .ref ml, .ref mi, .ref mr, .int lh, .int mg, .int wd, .int fpi, .int fal, .ref mm, .ref mu, .ref mk, .ref mx, .long po, .long de]))]) rfl ?_
        refine r_if_eq (tgt := 30) d_Mm_pool_23 (by decide) (fun c_23 => ?_) (fun c_23 => ?_)
        · exact absurd c_23 (by decide)
        · refine r_iconst d_Mm_pool_26 (v := 0) (by decide) ?_
          refine r_goto (tgt := 39) d_Mm_pool_27 (by decide) ?_
          refine r_iret d_Mm_pool_39 rfl rfl ?_
          exact ⟨rfl, rfl⟩
abbrev M_Mm_poolHas : zM := (⟨"IronpourModel", "poolHas", "(CC)I"⟩, prog_14_method_69_code, 3, (Option.some FieldType.int), 9, 199, [])
theorem d_Mm_poolHas_0 : decode prog_14_method_69_code 0 = .ok (.aload_n 0, 1) := zo_42 (zd_b zq_prog_14_method_69_code_0 0 rfl rfl rfl)
theorem d_Mm_poolHas_1 : decode prog_14_method_69_code 1 = .ok (.iconst 0, 1) := zo_3 (zd_b zq_prog_14_method_69_code_0 1 rfl rfl rfl)
theorem d_Mm_poolHas_2 : decode prog_14_method_69_code 2 = .ok (.putfield 84, 3) := zo_181 (d := 0) (e := 84) (zd_b zq_prog_14_method_69_code_0 2 rfl rfl rfl) (zd_b zq_prog_14_method_69_code_0 3 rfl rfl rfl) (zd_b zq_prog_14_method_69_code_0 4 rfl rfl rfl)
theorem d_Mm_poolHas_5 : decode prog_14_method_69_code 5 = .ok (.aload_n 0, 1) := zo_42 (zd_b zq_prog_14_method_69_code_0 5 rfl rfl rfl)
theorem d_Mm_poolHas_6 : decode prog_14_method_69_code 6 = .ok (.iload_n 1, 1) := zo_27 (zd_b zq_prog_14_method_69_code_0 6 rfl rfl rfl)
theorem d_Mm_poolHas_7 : decode prog_14_method_69_code 7 = .ok (.invokestatic 269, 3) := zo_184 (d := 1) (e := 13) (zd_b zq_prog_14_method_69_code_0 7 rfl rfl rfl) (zd_b zq_prog_14_method_69_code_0 8 rfl rfl rfl) (zd_b zq_prog_14_method_69_code_0 9 rfl rfl rfl)
theorem ok_Mm_poolHas_Mm_place : z_ok M_Mm_poolHas M_Mm_place 1 := ⟨z_mj8 (i := 203) rfl (by decide +kernel), rfl, ⟨by decide +kernel, by decide +kernel, by decide +kernel⟩, ⟨by decide, by decide⟩, z_mj1 (i := 14) rfl (by decide +kernel), rfl⟩
theorem d_Mm_poolHas_10 : decode prog_14_method_69_code 10 = .ok (.iconst (-1), 1) := zo_2 (zd_b zq_prog_14_method_69_code_0 10 rfl rfl rfl)
theorem d_Mm_poolHas_11 : decode prog_14_method_69_code 11 = .ok (.if_icmp .eq 10, 3) := zo_159 (d := 0) (e := 10) (zd_b zq_prog_14_method_69_code_0 11 rfl rfl rfl) (zd_b zq_prog_14_method_69_code_0 12 rfl rfl rfl) (zd_b zq_prog_14_method_69_code_0 13 rfl rfl rfl) (by decide +kernel)
theorem d_Mm_poolHas_21 : decode prog_14_method_69_code 21 = .ok (.iconst 1, 1) := zo_4 (zd_b zq_prog_14_method_69_code_0 21 rfl rfl rfl)
theorem d_Mm_poolHas_22 : decode prog_14_method_69_code 22 = .ok (.goto 4, 3) := zo_167 (d := 0) (e := 4) (zd_b zq_prog_14_method_69_code_0 22 rfl rfl rfl) (zd_b zq_prog_14_method_69_code_0 23 rfl rfl rfl) (zd_b zq_prog_14_method_69_code_0 24 rfl rfl rfl) (by decide +kernel)
theorem d_Mm_poolHas_26 : decode prog_14_method_69_code 26 = .ok (.iconst 1, 1) := zo_4 (zd_b zq_prog_14_method_69_code_0 26 rfl rfl rfl)
theorem d_Mm_poolHas_27 : decode prog_14_method_69_code 27 = .ok (.invokevirtual 103, 3) := zo_182 (d := 0) (e := 103) (zd_b zq_prog_14_method_69_code_0 27 rfl rfl rfl) (zd_b zq_prog_14_method_69_code_0 28 rfl rfl rfl) (zd_b zq_prog_14_method_69_code_0 29 rfl rfl rfl)
theorem ok_Mm_poolHas_Mm_fails : z_ok M_Mm_poolHas M_Mm_fails 2 := ⟨z_mj7 (i := 196) rfl (by decide +kernel), rfl, ⟨by decide +kernel, by decide +kernel, by decide +kernel⟩, ⟨by decide, by decide⟩, z_mj1 (i := 14) rfl (by decide +kernel), rfl⟩
theorem d_Mm_poolHas_30 : decode prog_14_method_69_code 30 = .ok (.ifCond .ne 28, 3) := zo_154 (d := 0) (e := 28) (zd_b zq_prog_14_method_69_code_0 30 rfl rfl rfl) (zd_b zq_prog_14_method_69_code_0 31 rfl rfl rfl) (zd_b zq_prog_14_method_69_code_1 0 rfl rfl rfl) (by decide +kernel)
theorem d_Mm_poolHas_58 : decode prog_14_method_69_code 58 = .ok (.iconst 0, 1) := zo_3 (zd_b zq_prog_14_method_69_code_1 26 rfl rfl rfl)
theorem d_Mm_poolHas_59 : decode prog_14_method_69_code 59 = .ok (.ireturn, 1) := zo_172 (zd_b zq_prog_14_method_69_code_1 27 rfl rfl rfl)
set_option maxHeartbeats 4000000 in
set_option maxRecDepth 100000 in
theorem C_Mm_poolHasE (g : zG) (m mp mf mh mn mt mz mc_ mq mgr ml mi mr mm mu mk mx : Nat) (th pt cl wa co_ fi bu ho lh mg wd fpi fal : Int32) (po de : Int64) (k k2 : Int32) (h1 : ¬ k = 103) (h2 : ¬ k = 100) : CT g M_Mm_poolHas [.ref m, .int k, .int k2] [(m, .inr (12, [.int th, .ref mp, .int pt, .ref mf, .ref mh, .ref mn, .ref mt, .ref mz, .ref mc_, .ref mq, .ref mgr, .int cl, .int wa, .int co_, .int fi, .int bu, .int ho, .ref ml, .ref mi, .ref mr, .int lh, .int mg, .int wd, .int fpi, .int fal, .ref mm, .ref mu, .ref mk, .ref mx, .long po, .long de]))] (fun o cs1 => o = .inl (some (.int 0)) ∧ cs1 = [(m, .inr (12, [.int 1, .ref mp, .int pt, .ref mf, .ref mh, .ref mn, .ref mt, .ref mz, .ref mc_, .ref mq, .ref mgr, .int cl, .int wa, .int co_, .int fi, .int bu, .int ho, .ref ml, .ref mi, .ref mr, .int lh, .int mg, .int wd, .int fpi, .int fal, .ref mm, .ref mu, .ref mk, .ref mx, .long po, .long de]))]) 0 0 := by
  refine z_of (by decide) rfl (Nat.le_of_ble_eq_true rfl) (fun w0 => ?_)
  refine r_lvE (lv2 := [(0, .ref m), (1, .int k), (2, .int k2)]) rfl ?_
  refine r_aload_n d_Mm_poolHas_0 rfl 0 rfl ?_
  refine r_iconst d_Mm_poolHas_1 (v := 0) (by decide) ?_
  refine r_put fp_Mm_84 d_Mm_poolHas_2 (fun h => nomatch h) rfl rfl (q0 := 0) rfl (Nat.le_of_ble_eq_true rfl) (cs' := [(m, .inr (12, [.int 0, .ref mp, .int pt, .ref mf, .ref mh, .ref mn, .ref mt, .ref mz, .ref mc_, .ref mq, .ref mgr, .int cl, .int wa, .int co_, .int fi, .int bu, .int ho, .ref ml, .ref mi, .ref mr, .int lh, .int mg, .int wd, .int fpi, .int fal, .ref mm, .ref mu, .ref mk, .ref mx, .long po, .long de]))]) rfl ?_
  refine r_aload_n d_Mm_poolHas_5 rfl 0 rfl ?_
  refine r_iload_n d_Mm_poolHas_6 rfl 1 rfl ?_
  refine r_callS (As := [.int k]) (rest := [.ref m]) (csC := []) (is := []) ln_Mm_269 w_st_Mm_place ok_Mm_poolHas_Mm_place d_Mm_poolHas_7 (C_Mm_placeO g k h1 h2) rfl rfl (Nat.le_of_ble_eq_true rfl) rfl (by decide) (by omega) (by omega) (fun E cs1 hx => ?_) (fun v cs1 hx => ?_)
  · exact absurd hx.1 (by simp)
  · obtain ⟨e1, rfl⟩ := hx
    cases e1
    refine ⟨rfl, ?_⟩
    refine r_st (st2 := [.int (-1), .ref m]) rfl ?_
    refine r_cs (cs2 := [(m, .inr (12, [.int 0, .ref mp, .int pt, .ref mf, .ref mh, .ref mn, .ref mt, .ref mz, .ref mc_, .ref mq, .ref mgr, .int cl, .int wa, .int co_, .int fi, .int bu, .int ho, .ref ml, .ref mi, .ref mr, .int lh, .int mg, .int wd, .int fpi, .int fal, .ref mm, .ref mu, .ref mk, .ref mx, .long po, .long de]))]) rfl ?_
    refine r_iconst d_Mm_poolHas_10 (v := (-1)) (by decide) ?_
    refine r_icmp_eq (tgt := 21) d_Mm_poolHas_11 (by decide) (fun c_11 => ?_) (fun c_11 => ?_)
    · refine r_iconst d_Mm_poolHas_21 (v := 1) (by decide) ?_
      refine r_goto (tgt := 26) d_Mm_poolHas_22 (by decide) ?_
      refine r_iconst d_Mm_poolHas_26 (v := 1) (by decide) ?_
      refine r_callV (As := [.int 1, .int 1]) (rest := []) (csC := [(m, .inr (12, [.int 0, .ref mp, .int pt, .ref mf, .ref mh, .ref mn, .ref mt, .ref mz, .ref mc_, .ref mq, .ref mgr, .int cl, .int wa, .int co_, .int fi, .int bu, .int ho, .ref ml, .ref mi, .ref mr, .int lh, .int mg, .int wd, .int fpi, .int fal, .ref mm, .ref mu, .ref mk, .ref mx, .long po, .long de]))]) (is := [0]) (q0 := 0) rfl rfl ln_Mm_103 w_im_Mm_fails w_se_Mm_fails ok_Mm_poolHas_Mm_fails d_Mm_poolHas_27 (C_Mm_fails1 g m mp mf mh mn mt mz mc_ mq mgr ml mi mr mm mu mk mx th pt cl wa co_ fi bu ho lh mg wd fpi fal po de) rfl rfl (Nat.le_of_ble_eq_true rfl) rfl (by decide) (by omega) (by omega) (fun E cs1 hx => ?_) (fun v cs1 hx => ?_)
      · exact absurd hx.1 (by simp)
      · obtain ⟨e1, rfl⟩ := hx
        cases e1
        refine ⟨rfl, ?_⟩
        refine r_st (st2 := [.int 1]) rfl ?_
        refine r_cs (cs2 := [(m, .inr (12, [.int 1, .ref mp, .int pt, .ref mf, .ref mh, .ref mn, .ref mt, .ref mz, .ref mc_, .ref mq, .ref mgr, .int cl, .int wa, .int co_, .int fi, .int bu, .int ho, .ref ml, .ref mi, .ref mr, .int lh, .int mg, .int wd, .int fpi, .int fal, .ref mm, .ref mu, .ref mk, .ref mx, .long po, .long de]))]) rfl ?_
        refine r_if_ne (tgt := 58) d_Mm_poolHas_30 (by decide) (fun c_30 => ?_) (fun c_30 => ?_)
        · refine r_iconst d_Mm_poolHas_58 (v := 0) (by decide) ?_
          refine r_iret d_Mm_poolHas_59 rfl rfl ?_
          exact ⟨rfl, rfl⟩
        · exact absurd c_30 (by decide)
    · exact absurd c_11 (by decide)
theorem d_Mm_pool_18 : decode prog_14_method_68_code 18 = .ok (.iconst 0, 1) := zo_3 (zd_b zq_prog_14_method_68_code_0 18 rfl rfl rfl)
theorem d_Mm_pool_30 : decode prog_14_method_68_code 30 = .ok (.aload_n 0, 1) := zo_42 (zd_b zq_prog_14_method_68_code_0 30 rfl rfl rfl)
theorem d_Mm_pool_31 : decode prog_14_method_68_code 31 = .ok (.getfield 62, 3) := zo_180 (d := 0) (e := 62) (zd_b zq_prog_14_method_68_code_0 31 rfl rfl rfl) (zd_b zq_prog_14_method_68_code_1 0 rfl rfl rfl) (zd_b zq_prog_14_method_68_code_1 1 rfl rfl rfl)
theorem d_Mm_pool_34 : decode prog_14_method_68_code 34 = .ok (.iload_n 1, 1) := zo_27 (zd_b zq_prog_14_method_68_code_1 2 rfl rfl rfl)
theorem d_Mm_pool_35 : decode prog_14_method_68_code 35 = .ok (.invokestatic 269, 3) := zo_184 (d := 1) (e := 13) (zd_b zq_prog_14_method_68_code_1 3 rfl rfl rfl) (zd_b zq_prog_14_method_68_code_1 4 rfl rfl rfl) (zd_b zq_prog_14_method_68_code_1 5 rfl rfl rfl)
theorem d_Mm_pool_38 : decode prog_14_method_68_code 38 = .ok (.iaload, 1) := zo_46 (zd_b zq_prog_14_method_68_code_1 6 rfl rfl rfl)
set_option maxHeartbeats 4000000 in
set_option maxRecDepth 100000 in
theorem C_Mm_pool103 (g : zG) (m mp mf mh mn mt mz mc_ mq mgr ml mi mr mm mu mk mx : Nat) (th pt cl wa co_ fi bu ho lh mg wd fpi fal : Int32) (po de : Int64) (ir : Nat → Int32) : CT g M_Mm_pool [.ref m, .int 103] [(m, .inr (12, [.int th, .ref mp, .int pt, .ref mf, .ref mh, .ref mn, .ref mt, .ref mz, .ref mc_, .ref mq, .ref mgr, .int cl, .int wa, .int co_, .int fi, .int bu, .int ho, .ref ml, .ref mi, .ref mr, .int lh, .int mg, .int wd, .int fpi, .int fal, .ref mm, .ref mu, .ref mk, .ref mx, .long po, .long de])), (mi, .inl (0, 4, .inl ir))] (fun o cs1 => o = .inl (some (.int (ir 2))) ∧ cs1 = [(m, .inr (12, [.int 0, .ref mp, .int pt, .ref mf, .ref mh, .ref mn, .ref mt, .ref mz, .ref mc_, .ref mq, .ref mgr, .int cl, .int wa, .int co_, .int fi, .int bu, .int ho, .ref ml, .ref mi, .ref mr, .int lh, .int mg, .int wd, .int fpi, .int fal, .ref mm, .ref mu, .ref mk, .ref mx, .long po, .long de])), (mi, .inl (0, 4, .inl ir))]) 0 0 := by
  refine z_of (by decide) rfl (Nat.le_of_ble_eq_true rfl) (fun w0 => ?_)
  refine r_lvE (lv2 := [(0, .ref m), (1, .int 103)]) rfl ?_
  refine r_aload_n d_Mm_pool_0 rfl 0 rfl ?_
  refine r_iconst d_Mm_pool_1 (v := 0) (by decide) ?_
  refine r_put fp_Mm_84 d_Mm_pool_2 (fun h => nomatch h) rfl rfl (q0 := 0) rfl (Nat.le_of_ble_eq_true rfl) (cs' := [(m, .inr (12, [.int 0, .ref mp, .int pt, .ref mf, .ref mh, .ref mn, .ref mt, .ref mz, .ref mc_, .ref mq, .ref mgr, .int cl, .int wa, .int co_, .int fi, .int bu, .int ho, .ref ml, .ref mi, .ref mr, .int lh, .int mg, .int wd, .int fpi, .int fal, .ref mm, .ref mu, .ref mk, .ref mx, .long po, .long de])), (mi, .inl (0, 4, .inl ir))]) rfl ?_
  refine r_aload_n d_Mm_pool_5 rfl 0 rfl ?_
  refine r_iload_n d_Mm_pool_6 rfl 1 rfl ?_
  refine r_callS (As := [.int 103]) (rest := [.ref m]) (csC := []) (is := []) ln_Mm_269 w_st_Mm_place ok_Mm_pool_Mm_place d_Mm_pool_7 (C_Mm_placeG g) rfl rfl (Nat.le_of_ble_eq_true rfl) rfl (by decide) (by omega) (by omega) (fun E cs1 hx => ?_) (fun v cs1 hx => ?_)
  · exact absurd hx.1 (by simp)
  · obtain ⟨e1, rfl⟩ := hx
    cases e1
    refine ⟨rfl, ?_⟩
    refine r_st (st2 := [.int 2, .ref m]) rfl ?_
    refine r_cs (cs2 := [(m, .inr (12, [.int 0, .ref mp, .int pt, .ref mf, .ref mh, .ref mn, .ref mt, .ref mz, .ref mc_, .ref mq, .ref mgr, .int cl, .int wa, .int co_, .int fi, .int bu, .int ho, .ref ml, .ref mi, .ref mr, .int lh, .int mg, .int wd, .int fpi, .int fal, .ref mm, .ref mu, .ref mk, .ref mx, .long po, .long de])), (mi, .inl (0, 4, .inl ir))]) rfl ?_
    refine r_iconst d_Mm_pool_10 (v := (-1)) (by decide) ?_
    refine r_icmp_ne (tgt := 18) d_Mm_pool_11 (by decide) (fun c_11 => ?_) (fun c_11 => ?_)
    · refine r_iconst d_Mm_pool_18 (v := 0) (by decide) ?_
      refine r_iconst d_Mm_pool_19 (v := 1) (by decide) ?_
      refine r_callV (As := [.int 0, .int 1]) (rest := []) (csC := [(m, .inr (12, [.int 0, .ref mp, .int pt, .ref mf, .ref mh, .ref mn, .ref mt, .ref mz, .ref mc_, .ref mq, .ref mgr, .int cl, .int wa, .int co_, .int fi, .int bu, .int ho, .ref ml, .ref mi, .ref mr, .int lh, .int mg, .int wd, .int fpi, .int fal, .ref mm, .ref mu, .ref mk, .ref mx, .long po, .long de]))]) (is := [0]) (q0 := 0) rfl rfl ln_Mm_103 w_im_Mm_fails w_se_Mm_fails ok_Mm_pool_Mm_fails d_Mm_pool_20 (C_Mm_fails0 g m mp mf mh mn mt mz mc_ mq mgr ml mi mr mm mu mk mx th pt cl wa co_ fi bu ho lh mg wd fpi fal po de 1) rfl rfl (Nat.le_of_ble_eq_true rfl) rfl (by decide) (by omega) (by omega) (fun E cs1 hx => ?_) (fun v cs1 hx => ?_)
      · exact absurd hx.1 (by simp)
      · obtain ⟨e1, rfl⟩ := hx
        cases e1
        refine ⟨rfl, ?_⟩
        refine r_st (st2 := [.int 0]) rfl ?_
        refine r_cs (cs2 := [(m, .inr (12, [.int 0, .ref mp, .int pt, .ref mf, .ref mh, .ref mn, .ref mt, .ref mz, .ref mc_, .ref mq, .ref mgr, .int cl, .int wa, .int co_, .int fi, .int bu, .int ho, .ref ml, .ref mi, .ref mr, .int lh, .int mg, .int wd, .int fpi, .int fal, .ref mm, .ref mu, .ref mk, .ref mx, .long po, .long de])), (mi, .inl (0, 4, .inl ir))]) rfl ?_
        refine r_if_eq (tgt := 30) d_Mm_pool_23 (by decide) (fun c_23 => ?_) (fun c_23 => ?_)
        · refine r_aload_n d_Mm_pool_30 rfl 0 rfl ?_
          refine r_get fs_Mm_62 d_Mm_pool_31 (q0 := 0) rfl rfl ?_
          refine r_iload_n d_Mm_pool_34 rfl 1 rfl ?_
          refine r_callS (As := [.int 103]) (rest := [.ref mi]) (csC := []) (is := []) ln_Mm_269 w_st_Mm_place ok_Mm_pool_Mm_place d_Mm_pool_35 (C_Mm_placeG g) rfl rfl (Nat.le_of_ble_eq_true rfl) rfl (by decide) (by omega) (by omega) (fun E cs1 hx => ?_) (fun v cs1 hx => ?_)
          · exact absurd hx.1 (by simp)
          · obtain ⟨e1, rfl⟩ := hx
            cases e1
            refine ⟨rfl, ?_⟩
            refine r_st (st2 := [.int 2, .ref mi]) rfl ?_
            refine r_cs (cs2 := [(m, .inr (12, [.int 0, .ref mp, .int pt, .ref mf, .ref mh, .ref mn, .ref mt, .ref mz, .ref mc_, .ref mq, .ref mgr, .int cl, .int wa, .int co_, .int fi, .int bu, .int ho, .ref ml, .ref mi, .ref mr, .int lh, .int mg, .int wd, .int fpi, .int fal, .ref mm, .ref mu, .ref mk, .ref mx, .long po, .long de])), (mi, .inl (0, 4, .inl ir))]) rfl ?_
            refine r_iald d_Mm_pool_38 (q0 := 1) rfl (fun q => q.elim (by decide) (by decide)) (v := ir 2) rfl ?_
            refine r_iret d_Mm_pool_39 rfl rfl ?_
            exact ⟨rfl, rfl⟩
        · exact absurd c_23 (by decide)
    · exact absurd c_11 (by decide)
theorem d_Mm_poolHas_14 : decode prog_14_method_69_code 14 = .ok (.iload_n 2, 1) := zo_28 (zd_b zq_prog_14_method_69_code_0 14 rfl rfl rfl)
theorem d_Mm_poolHas_15 : decode prog_14_method_69_code 15 = .ok (.invokestatic 246, 3) := zo_184 (d := 0) (e := 246) (zd_b zq_prog_14_method_69_code_0 15 rfl rfl rfl) (zd_b zq_prog_14_method_69_code_0 16 rfl rfl rfl) (zd_b zq_prog_14_method_69_code_0 17 rfl rfl rfl)
theorem ok_Mm_poolHas_Mm_element : z_ok M_Mm_poolHas M_Mm_element 1 := ⟨z_mj8 (i := 164) rfl (by decide +kernel), rfl, ⟨by decide +kernel, by decide +kernel, by decide +kernel⟩, ⟨by decide, by decide⟩, z_mj1 (i := 14) rfl (by decide +kernel), rfl⟩
theorem d_Mm_poolHas_18 : decode prog_14_method_69_code 18 = .ok (.ifCond .ge 7, 3) := zo_156 (d := 0) (e := 7) (zd_b zq_prog_14_method_69_code_0 18 rfl rfl rfl) (zd_b zq_prog_14_method_69_code_0 19 rfl rfl rfl) (zd_b zq_prog_14_method_69_code_0 20 rfl rfl rfl) (by decide +kernel)
set_option maxHeartbeats 4000000 in
set_option maxRecDepth 100000 in
theorem C_Mm_poolHas103E (g : zG) (m mp mf mh mn mt mz mc_ mq mgr ml mi mr mm mu mk mx : Nat) (th pt cl wa co_ fi bu ho lh mg wd fpi fal : Int32) (po de : Int64) (k : Int32) (hk : z_ix 2 k < 0) : CT g M_Mm_poolHas [.ref m, .int 103, .int k] [(m, .inr (12, [.int th, .ref mp, .int pt, .ref mf, .ref mh, .ref mn, .ref mt, .ref mz, .ref mc_, .ref mq, .ref mgr, .int cl, .int wa, .int co_, .int fi, .int bu, .int ho, .ref ml, .ref mi, .ref mr, .int lh, .int mg, .int wd, .int fpi, .int fal, .ref mm, .ref mu, .ref mk, .ref mx, .long po, .long de]))] (fun o cs1 => o = .inl (some (.int 0)) ∧ cs1 = [(m, .inr (12, [.int 1, .ref mp, .int pt, .ref mf, .ref mh, .ref mn, .ref mt, .ref mz, .ref mc_, .ref mq, .ref mgr, .int cl, .int wa, .int co_, .int fi, .int bu, .int ho, .ref ml, .ref mi, .ref mr, .int lh, .int mg, .int wd, .int fpi, .int fal, .ref mm, .ref mu, .ref mk, .ref mx, .long po, .long de]))]) 0 0 := by
  refine z_of (by decide) rfl (Nat.le_of_ble_eq_true rfl) (fun w0 => ?_)
  refine r_lvE (lv2 := [(0, .ref m), (1, .int 103), (2, .int k)]) rfl ?_
  refine r_aload_n d_Mm_poolHas_0 rfl 0 rfl ?_
  refine r_iconst d_Mm_poolHas_1 (v := 0) (by decide) ?_
  refine r_put fp_Mm_84 d_Mm_poolHas_2 (fun h => nomatch h) rfl rfl (q0 := 0) rfl (Nat.le_of_ble_eq_true rfl) (cs' := [(m, .inr (12, [.int 0, .ref mp, .int pt, .ref mf, .ref mh, .ref mn, .ref mt, .ref mz, .ref mc_, .ref mq, .ref mgr, .int cl, .int wa, .int co_, .int fi, .int bu, .int ho, .ref ml, .ref mi, .ref mr, .int lh, .int mg, .int wd, .int fpi, .int fal, .ref mm, .ref mu, .ref mk, .ref mx, .long po, .long de]))]) rfl ?_
  refine r_aload_n d_Mm_poolHas_5 rfl 0 rfl ?_
  refine r_iload_n d_Mm_poolHas_6 rfl 1 rfl ?_
  refine r_callS (As := [.int 103]) (rest := [.ref m]) (csC := []) (is := []) ln_Mm_269 w_st_Mm_place ok_Mm_poolHas_Mm_place d_Mm_poolHas_7 (C_Mm_placeG g) rfl rfl (Nat.le_of_ble_eq_true rfl) rfl (by decide) (by omega) (by omega) (fun E cs1 hx => ?_) (fun v cs1 hx => ?_)
  · exact absurd hx.1 (by simp)
  · obtain ⟨e1, rfl⟩ := hx
    cases e1
    refine ⟨rfl, ?_⟩
    refine r_st (st2 := [.int 2, .ref m]) rfl ?_
    refine r_cs (cs2 := [(m, .inr (12, [.int 0, .ref mp, .int pt, .ref mf, .ref mh, .ref mn, .ref mt, .ref mz, .ref mc_, .ref mq, .ref mgr, .int cl, .int wa, .int co_, .int fi, .int bu, .int ho, .ref ml, .ref mi, .ref mr, .int lh, .int mg, .int wd, .int fpi, .int fal, .ref mm, .ref mu, .ref mk, .ref mx, .long po, .long de]))]) rfl ?_
    refine r_iconst d_Mm_poolHas_10 (v := (-1)) (by decide) ?_
    refine r_icmp_eq (tgt := 21) d_Mm_poolHas_11 (by decide) (fun c_11 => ?_) (fun c_11 => ?_)
    · exact absurd c_11 (by decide)
    · refine r_iload_n d_Mm_poolHas_14 rfl 2 rfl ?_
      refine r_callS (As := [.int k]) (rest := [.ref m]) (csC := []) (is := []) ln_Mm_246 w_st_Mm_element ok_Mm_poolHas_Mm_element d_Mm_poolHas_15 (C_Mm_element g k) rfl rfl (Nat.le_of_ble_eq_true rfl) rfl (by decide) (by omega) (by omega) (fun E cs1 hx => ?_) (fun v cs1 hx => ?_)
      · exact absurd hx.1 (by simp)
      · obtain ⟨e1, rfl⟩ := hx
        cases e1
        refine ⟨rfl, ?_⟩
        refine r_st (st2 := [.int (z_ix 2 k), .ref m]) rfl ?_
        refine r_cs (cs2 := [(m, .inr (12, [.int 0, .ref mp, .int pt, .ref mf, .ref mh, .ref mn, .ref mt, .ref mz, .ref mc_, .ref mq, .ref mgr, .int cl, .int wa, .int co_, .int fi, .int bu, .int ho, .ref ml, .ref mi, .ref mr, .int lh, .int mg, .int wd, .int fpi, .int fal, .ref mm, .ref mu, .ref mk, .ref mx, .long po, .long de]))]) rfl ?_
        refine r_if_ge (tgt := 25) d_Mm_poolHas_18 (by decide) (fun c_18 => ?_) (fun c_18 => ?_)
        · exact absurd hk (Int32.not_lt.mpr c_18)
        · refine r_iconst d_Mm_poolHas_21 (v := 1) (by decide) ?_
          refine r_goto (tgt := 26) d_Mm_poolHas_22 (by decide) ?_
          refine r_iconst d_Mm_poolHas_26 (v := 1) (by decide) ?_
          refine r_callV (As := [.int 1, .int 1]) (rest := []) (csC := [(m, .inr (12, [.int 0, .ref mp, .int pt, .ref mf, .ref mh, .ref mn, .ref mt, .ref mz, .ref mc_, .ref mq, .ref mgr, .int cl, .int wa, .int co_, .int fi, .int bu, .int ho, .ref ml, .ref mi, .ref mr, .int lh, .int mg, .int wd, .int fpi, .int fal, .ref mm, .ref mu, .ref mk, .ref mx, .long po, .long de]))]) (is := [0]) (q0 := 0) rfl rfl ln_Mm_103 w_im_Mm_fails w_se_Mm_fails ok_Mm_poolHas_Mm_fails d_Mm_poolHas_27 (C_Mm_fails1 g m mp mf mh mn mt mz mc_ mq mgr ml mi mr mm mu mk mx th pt cl wa co_ fi bu ho lh mg wd fpi fal po de) rfl rfl (Nat.le_of_ble_eq_true rfl) rfl (by decide) (by omega) (by omega) (fun E cs1 hx => ?_) (fun v cs1 hx => ?_)
          · exact absurd hx.1 (by simp)
          · obtain ⟨e1, rfl⟩ := hx
            cases e1
            refine ⟨rfl, ?_⟩
            refine r_st (st2 := [.int 1]) rfl ?_
            refine r_cs (cs2 := [(m, .inr (12, [.int 1, .ref mp, .int pt, .ref mf, .ref mh, .ref mn, .ref mt, .ref mz, .ref mc_, .ref mq, .ref mgr, .int cl, .int wa, .int co_, .int fi, .int bu, .int ho, .ref ml, .ref mi, .ref mr, .int lh, .int mg, .int wd, .int fpi, .int fal, .ref mm, .ref mu, .ref mk, .ref mx, .long po, .long de]))]) rfl ?_
            refine r_if_ne (tgt := 58) d_Mm_poolHas_30 (by decide) (fun c_30 => ?_) (fun c_30 => ?_)
            · refine r_iconst d_Mm_poolHas_58 (v := 0) (by decide) ?_
              refine r_iret d_Mm_poolHas_59 rfl rfl ?_
              exact ⟨rfl, rfl⟩
            · exact absurd c_30 (by decide)
theorem d_Mm_poolHas_25 : decode prog_14_method_69_code 25 = .ok (.iconst 0, 1) := zo_3 (zd_b zq_prog_14_method_69_code_0 25 rfl rfl rfl)
theorem d_Mm_poolHas_33 : decode prog_14_method_69_code 33 = .ok (.aload_n 0, 1) := zo_42 (zd_b zq_prog_14_method_69_code_1 1 rfl rfl rfl)
theorem d_Mm_poolHas_34 : decode prog_14_method_69_code 34 = .ok (.aload_n 0, 1) := zo_42 (zd_b zq_prog_14_method_69_code_1 2 rfl rfl rfl)
theorem d_Mm_poolHas_35 : decode prog_14_method_69_code 35 = .ok (.getfield 62, 3) := zo_180 (d := 0) (e := 62) (zd_b zq_prog_14_method_69_code_1 3 rfl rfl rfl) (zd_b zq_prog_14_method_69_code_1 4 rfl rfl rfl) (zd_b zq_prog_14_method_69_code_1 5 rfl rfl rfl)
theorem d_Mm_poolHas_38 : decode prog_14_method_69_code 38 = .ok (.iload_n 1, 1) := zo_27 (zd_b zq_prog_14_method_69_code_1 6 rfl rfl rfl)
theorem d_Mm_poolHas_39 : decode prog_14_method_69_code 39 = .ok (.invokestatic 269, 3) := zo_184 (d := 1) (e := 13) (zd_b zq_prog_14_method_69_code_1 7 rfl rfl rfl) (zd_b zq_prog_14_method_69_code_1 8 rfl rfl rfl) (zd_b zq_prog_14_method_69_code_1 9 rfl rfl rfl)
theorem d_Mm_poolHas_42 : decode prog_14_method_69_code 42 = .ok (.iaload, 1) := zo_46 (zd_b zq_prog_14_method_69_code_1 10 rfl rfl rfl)
theorem d_Mm_poolHas_43 : decode prog_14_method_69_code 43 = .ok (.ifCond .ne 7, 3) := zo_154 (d := 0) (e := 7) (zd_b zq_prog_14_method_69_code_1 11 rfl rfl rfl) (zd_b zq_prog_14_method_69_code_1 12 rfl rfl rfl) (zd_b zq_prog_14_method_69_code_1 13 rfl rfl rfl) (by decide +kernel)
theorem d_Mm_poolHas_46 : decode prog_14_method_69_code 46 = .ok (.iconst 1, 1) := zo_4 (zd_b zq_prog_14_method_69_code_1 14 rfl rfl rfl)
theorem d_Mm_poolHas_47 : decode prog_14_method_69_code 47 = .ok (.goto 4, 3) := zo_167 (d := 0) (e := 4) (zd_b zq_prog_14_method_69_code_1 15 rfl rfl rfl) (zd_b zq_prog_14_method_69_code_1 16 rfl rfl rfl) (zd_b zq_prog_14_method_69_code_1 17 rfl rfl rfl) (by decide +kernel)
theorem d_Mm_poolHas_51 : decode prog_14_method_69_code 51 = .ok (.iconst 2, 1) := zo_5 (zd_b zq_prog_14_method_69_code_1 19 rfl rfl rfl)
theorem d_Mm_poolHas_52 : decode prog_14_method_69_code 52 = .ok (.invokevirtual 103, 3) := zo_182 (d := 0) (e := 103) (zd_b zq_prog_14_method_69_code_1 20 rfl rfl rfl) (zd_b zq_prog_14_method_69_code_1 21 rfl rfl rfl) (zd_b zq_prog_14_method_69_code_1 22 rfl rfl rfl)
theorem d_Mm_poolHas_55 : decode prog_14_method_69_code 55 = .ok (.ifCond .eq 5, 3) := zo_153 (d := 0) (e := 5) (zd_b zq_prog_14_method_69_code_1 23 rfl rfl rfl) (zd_b zq_prog_14_method_69_code_1 24 rfl rfl rfl) (zd_b zq_prog_14_method_69_code_1 25 rfl rfl rfl) (by decide +kernel)
set_option maxHeartbeats 4000000 in
set_option maxRecDepth 100000 in
theorem C_Mm_poolHas103F (g : zG) (m mp mf mh mn mt mz mc_ mq mgr ml mi mr mm mu mk mx : Nat) (th pt cl wa co_ fi bu ho lh mg wd fpi fal : Int32) (po de : Int64) (ir : Nat → Int32) (k : Int32) (hk : ¬ z_ix 2 k < 0) (h0 : ir 2 = 0) : CT g M_Mm_poolHas [.ref m, .int 103, .int k] [(m, .inr (12, [.int th, .ref mp, .int pt, .ref mf, .ref mh, .ref mn, .ref mt, .ref mz, .ref mc_, .ref mq, .ref mgr, .int cl, .int wa, .int co_, .int fi, .int bu, .int ho, .ref ml, .ref mi, .ref mr, .int lh, .int mg, .int wd, .int fpi, .int fal, .ref mm, .ref mu, .ref mk, .ref mx, .long po, .long de])), (mi, .inl (0, 4, .inl ir))] (fun o cs1 => o = .inl (some (.int 0)) ∧ cs1 = [(m, .inr (12, [.int 2, .ref mp, .int pt, .ref mf, .ref mh, .ref mn, .ref mt, .ref mz, .ref mc_, .ref mq, .ref mgr, .int cl, .int wa, .int co_, .int fi, .int bu, .int ho, .ref ml, .ref mi, .ref mr, .int lh, .int mg, .int wd, .int fpi, .int fal, .ref mm, .ref mu, .ref mk, .ref mx, .long po, .long de])), (mi, .inl (0, 4, .inl ir))]) 0 0 := by
  refine z_of (by decide) rfl (Nat.le_of_ble_eq_true rfl) (fun w0 => ?_)
  refine r_lvE (lv2 := [(0, .ref m), (1, .int 103), (2, .int k)]) rfl ?_
  refine r_aload_n d_Mm_poolHas_0 rfl 0 rfl ?_
  refine r_iconst d_Mm_poolHas_1 (v := 0) (by decide) ?_
  refine r_put fp_Mm_84 d_Mm_poolHas_2 (fun h => nomatch h) rfl rfl (q0 := 0) rfl (Nat.le_of_ble_eq_true rfl) (cs' := [(m, .inr (12, [.int 0, .ref mp, .int pt, .ref mf, .ref mh, .ref mn, .ref mt, .ref mz, .ref mc_, .ref mq, .ref mgr, .int cl, .int wa, .int co_, .int fi, .int bu, .int ho, .ref ml, .ref mi, .ref mr, .int lh, .int mg, .int wd, .int fpi, .int fal, .ref mm, .ref mu, .ref mk, .ref mx, .long po, .long de])), (mi, .inl (0, 4, .inl ir))]) rfl ?_
  refine r_aload_n d_Mm_poolHas_5 rfl 0 rfl ?_
  refine r_iload_n d_Mm_poolHas_6 rfl 1 rfl ?_
  refine r_callS (As := [.int 103]) (rest := [.ref m]) (csC := []) (is := []) ln_Mm_269 w_st_Mm_place ok_Mm_poolHas_Mm_place d_Mm_poolHas_7 (C_Mm_placeG g) rfl rfl (Nat.le_of_ble_eq_true rfl) rfl (by decide) (by omega) (by omega) (fun E cs1 hx => ?_) (fun v cs1 hx => ?_)
  · exact absurd hx.1 (by simp)
  · obtain ⟨e1, rfl⟩ := hx
    cases e1
    refine ⟨rfl, ?_⟩
    refine r_st (st2 := [.int 2, .ref m]) rfl ?_
    refine r_cs (cs2 := [(m, .inr (12, [.int 0, .ref mp, .int pt, .ref mf, .ref mh, .ref mn, .ref mt, .ref mz, .ref mc_, .ref mq, .ref mgr, .int cl, .int wa, .int co_, .int fi, .int bu, .int ho, .ref ml, .ref mi, .ref mr, .int lh, .int mg, .int wd, .int fpi, .int fal, .ref mm, .ref mu, .ref mk, .ref mx, .long po, .long de])), (mi, .inl (0, 4, .inl ir))]) rfl ?_
    refine r_iconst d_Mm_poolHas_10 (v := (-1)) (by decide) ?_
    refine r_icmp_eq (tgt := 21) d_Mm_poolHas_11 (by decide) (fun c_11 => ?_) (fun c_11 => ?_)
    · exact absurd c_11 (by decide)
    · refine r_iload_n d_Mm_poolHas_14 rfl 2 rfl ?_
      refine r_callS (As := [.int k]) (rest := [.ref m]) (csC := []) (is := []) ln_Mm_246 w_st_Mm_element ok_Mm_poolHas_Mm_element d_Mm_poolHas_15 (C_Mm_element g k) rfl rfl (Nat.le_of_ble_eq_true rfl) rfl (by decide) (by omega) (by omega) (fun E cs1 hx => ?_) (fun v cs1 hx => ?_)
      · exact absurd hx.1 (by simp)
      · obtain ⟨e1, rfl⟩ := hx
        cases e1
        refine ⟨rfl, ?_⟩
        refine r_st (st2 := [.int (z_ix 2 k), .ref m]) rfl ?_
        refine r_cs (cs2 := [(m, .inr (12, [.int 0, .ref mp, .int pt, .ref mf, .ref mh, .ref mn, .ref mt, .ref mz, .ref mc_, .ref mq, .ref mgr, .int cl, .int wa, .int co_, .int fi, .int bu, .int ho, .ref ml, .ref mi, .ref mr, .int lh, .int mg, .int wd, .int fpi, .int fal, .ref mm, .ref mu, .ref mk, .ref mx, .long po, .long de])), (mi, .inl (0, 4, .inl ir))]) rfl ?_
        refine r_if_ge (tgt := 25) d_Mm_poolHas_18 (by decide) (fun c_18 => ?_) (fun c_18 => ?_)
        · refine r_iconst d_Mm_poolHas_25 (v := 0) (by decide) ?_
          refine r_iconst d_Mm_poolHas_26 (v := 1) (by decide) ?_
          refine r_callV (As := [.int 0, .int 1]) (rest := []) (csC := [(m, .inr (12, [.int 0, .ref mp, .int pt, .ref mf, .ref mh, .ref mn, .ref mt, .ref mz, .ref mc_, .ref mq, .ref mgr, .int cl, .int wa, .int co_, .int fi, .int bu, .int ho, .ref ml, .ref mi, .ref mr, .int lh, .int mg, .int wd, .int fpi, .int fal, .ref mm, .ref mu, .ref mk, .ref mx, .long po, .long de]))]) (is := [0]) (q0 := 0) rfl rfl ln_Mm_103 w_im_Mm_fails w_se_Mm_fails ok_Mm_poolHas_Mm_fails d_Mm_poolHas_27 (C_Mm_fails0 g m mp mf mh mn mt mz mc_ mq mgr ml mi mr mm mu mk mx th pt cl wa co_ fi bu ho lh mg wd fpi fal po de 1) rfl rfl (Nat.le_of_ble_eq_true rfl) rfl (by decide) (by omega) (by omega) (fun E cs1 hx => ?_) (fun v cs1 hx => ?_)
          · exact absurd hx.1 (by simp)
          · obtain ⟨e1, rfl⟩ := hx
            cases e1
            refine ⟨rfl, ?_⟩
            refine r_st (st2 := [.int 0]) rfl ?_
            refine r_cs (cs2 := [(m, .inr (12, [.int 0, .ref mp, .int pt, .ref mf, .ref mh, .ref mn, .ref mt, .ref mz, .ref mc_, .ref mq, .ref mgr, .int cl, .int wa, .int co_, .int fi, .int bu, .int ho, .ref ml, .ref mi, .ref mr, .int lh, .int mg, .int wd, .int fpi, .int fal, .ref mm, .ref mu, .ref mk, .ref mx, .long po, .long de])), (mi, .inl (0, 4, .inl ir))]) rfl ?_
            refine r_if_ne (tgt := 58) d_Mm_poolHas_30 (by decide) (fun c_30 => ?_) (fun c_30 => ?_)
            · exact absurd c_30 (by decide)
            · refine r_aload_n d_Mm_poolHas_33 rfl 0 rfl ?_
              refine r_aload_n d_Mm_poolHas_34 rfl 0 rfl ?_
              refine r_get fs_Mm_62 d_Mm_poolHas_35 (q0 := 0) rfl rfl ?_
              refine r_iload_n d_Mm_poolHas_38 rfl 1 rfl ?_
              refine r_callS (As := [.int 103]) (rest := [.ref mi, .ref m]) (csC := []) (is := []) ln_Mm_269 w_st_Mm_place ok_Mm_poolHas_Mm_place d_Mm_poolHas_39 (C_Mm_placeG g) rfl rfl (Nat.le_of_ble_eq_true rfl) rfl (by decide) (by omega) (by omega) (fun E cs1 hx => ?_) (fun v cs1 hx => ?_)
              · exact absurd hx.1 (by simp)
              · obtain ⟨e1, rfl⟩ := hx
                cases e1
                refine ⟨rfl, ?_⟩
                refine r_st (st2 := [.int 2, .ref mi, .ref m]) rfl ?_
                refine r_cs (cs2 := [(m, .inr (12, [.int 0, .ref mp, .int pt, .ref mf, .ref mh, .ref mn, .ref mt, .ref mz, .ref mc_, .ref mq, .ref mgr, .int cl, .int wa, .int co_, .int fi, .int bu, .int ho, .ref ml, .ref mi, .ref mr, .int lh, .int mg, .int wd, .int fpi, .int fal, .ref mm, .ref mu, .ref mk, .ref mx, .long po, .long de])), (mi, .inl (0, 4, .inl ir))]) rfl ?_
                refine r_iald d_Mm_poolHas_42 (q0 := 1) rfl (fun q => q.elim (by decide) (by decide)) (v := ir 2) rfl ?_
                refine r_if_ne (tgt := 50) d_Mm_poolHas_43 (by decide) (fun c_43 => ?_) (fun c_43 => ?_)
                · exact absurd h0 c_43
                · refine r_iconst d_Mm_poolHas_46 (v := 1) (by decide) ?_
                  refine r_goto (tgt := 51) d_Mm_poolHas_47 (by decide) ?_
                  refine r_iconst d_Mm_poolHas_51 (v := 2) (by decide) ?_
                  refine r_callV (As := [.int 1, .int 2]) (rest := []) (csC := [(m, .inr (12, [.int 0, .ref mp, .int pt, .ref mf, .ref mh, .ref mn, .ref mt, .ref mz, .ref mc_, .ref mq, .ref mgr, .int cl, .int wa, .int co_, .int fi, .int bu, .int ho, .ref ml, .ref mi, .ref mr, .int lh, .int mg, .int wd, .int fpi, .int fal, .ref mm, .ref mu, .ref mk, .ref mx, .long po, .long de]))]) (is := [0]) (q0 := 0) rfl rfl ln_Mm_103 w_im_Mm_fails w_se_Mm_fails ok_Mm_poolHas_Mm_fails d_Mm_poolHas_52 (C_Mm_fails2 g m mp mf mh mn mt mz mc_ mq mgr ml mi mr mm mu mk mx th pt cl wa co_ fi bu ho lh mg wd fpi fal po de) rfl rfl (Nat.le_of_ble_eq_true rfl) rfl (by decide) (by omega) (by omega) (fun E cs1 hx => ?_) (fun v cs1 hx => ?_)
                  · exact absurd hx.1 (by simp)
                  · obtain ⟨e1, rfl⟩ := hx
                    cases e1
                    refine ⟨rfl, ?_⟩
                    refine r_st (st2 := [.int 1]) rfl ?_
                    refine r_cs (cs2 := [(m, .inr (12, [.int 2, .ref mp, .int pt, .ref mf, .ref mh, .ref mn, .ref mt, .ref mz, .ref mc_, .ref mq, .ref mgr, .int cl, .int wa, .int co_, .int fi, .int bu, .int ho, .ref ml, .ref mi, .ref mr, .int lh, .int mg, .int wd, .int fpi, .int fal, .ref mm, .ref mu, .ref mk, .ref mx, .long po, .long de])), (mi, .inl (0, 4, .inl ir))]) rfl ?_
                    refine r_if_eq (tgt := 60) d_Mm_poolHas_55 (by decide) (fun c_55 => ?_) (fun c_55 => ?_)
                    · exact absurd c_55 (by decide)
                    · refine r_iconst d_Mm_poolHas_58 (v := 0) (by decide) ?_
                      refine r_iret d_Mm_poolHas_59 rfl rfl ?_
                      exact ⟨rfl, rfl⟩
        · exact absurd (Int32.not_le.mp c_18) hk
set_option maxHeartbeats 4000000 in
set_option maxRecDepth 100000 in
theorem C_Mm_pool100 (g : zG) (m mp mf mh mn mt mz mc_ mq mgr ml mi mr mm mu mk mx : Nat) (th pt cl wa co_ fi bu ho lh mg wd fpi fal : Int32) (po de : Int64) (ir : Nat → Int32) : CT g M_Mm_pool [.ref m, .int 100] [(m, .inr (12, [.int th, .ref mp, .int pt, .ref mf, .ref mh, .ref mn, .ref mt, .ref mz, .ref mc_, .ref mq, .ref mgr, .int cl, .int wa, .int co_, .int fi, .int bu, .int ho, .ref ml, .ref mi, .ref mr, .int lh, .int mg, .int wd, .int fpi, .int fal, .ref mm, .ref mu, .ref mk, .ref mx, .long po, .long de])), (mi, .inl (0, 4, .inl ir))] (fun o cs1 => o = .inl (some (.int (ir 3))) ∧ cs1 = [(m, .inr (12, [.int 0, .ref mp, .int pt, .ref mf, .ref mh, .ref mn, .ref mt, .ref mz, .ref mc_, .ref mq, .ref mgr, .int cl, .int wa, .int co_, .int fi, .int bu, .int ho, .ref ml, .ref mi, .ref mr, .int lh, .int mg, .int wd, .int fpi, .int fal, .ref mm, .ref mu, .ref mk, .ref mx, .long po, .long de])), (mi, .inl (0, 4, .inl ir))]) 0 0 := by
  refine z_of (by decide) rfl (Nat.le_of_ble_eq_true rfl) (fun w0 => ?_)
  refine r_lvE (lv2 := [(0, .ref m), (1, .int 100)]) rfl ?_
  refine r_aload_n d_Mm_pool_0 rfl 0 rfl ?_
  refine r_iconst d_Mm_pool_1 (v := 0) (by decide) ?_
  refine r_put fp_Mm_84 d_Mm_pool_2 (fun h => nomatch h) rfl rfl (q0 := 0) rfl (Nat.le_of_ble_eq_true rfl) (cs' := [(m, .inr (12, [.int 0, .ref mp, .int pt, .ref mf, .ref mh, .ref mn, .ref mt, .ref mz, .ref mc_, .ref mq, .ref mgr, .int cl, .int wa, .int co_, .int fi, .int bu, .int ho, .ref ml, .ref mi, .ref mr, .int lh, .int mg, .int wd, .int fpi, .int fal, .ref mm, .ref mu, .ref mk, .ref mx, .long po, .long de])), (mi, .inl (0, 4, .inl ir))]) rfl ?_
  refine r_aload_n d_Mm_pool_5 rfl 0 rfl ?_
  refine r_iload_n d_Mm_pool_6 rfl 1 rfl ?_
  refine r_callS (As := [.int 100]) (rest := [.ref m]) (csC := []) (is := []) ln_Mm_269 w_st_Mm_place ok_Mm_pool_Mm_place d_Mm_pool_7 (C_Mm_placeD g) rfl rfl (Nat.le_of_ble_eq_true rfl) rfl (by decide) (by omega) (by omega) (fun E cs1 hx => ?_) (fun v cs1 hx => ?_)
  · exact absurd hx.1 (by simp)
  · obtain ⟨e1, rfl⟩ := hx
    cases e1
    refine ⟨rfl, ?_⟩
    refine r_st (st2 := [.int 3, .ref m]) rfl ?_
    refine r_cs (cs2 := [(m, .inr (12, [.int 0, .ref mp, .int pt, .ref mf, .ref mh, .ref mn, .ref mt, .ref mz, .ref mc_, .ref mq, .ref mgr, .int cl, .int wa, .int co_, .int fi, .int bu, .int ho, .ref ml, .ref mi, .ref mr, .int lh, .int mg, .int wd, .int fpi, .int fal, .ref mm, .ref mu, .ref mk, .ref mx, .long po, .long de])), (mi, .inl (0, 4, .inl ir))]) rfl ?_
    refine r_iconst d_Mm_pool_10 (v := (-1)) (by decide) ?_
    refine r_icmp_ne (tgt := 18) d_Mm_pool_11 (by decide) (fun c_11 => ?_) (fun c_11 => ?_)
    · refine r_iconst d_Mm_pool_18 (v := 0) (by decide) ?_
      refine r_iconst d_Mm_pool_19 (v := 1) (by decide) ?_
      refine r_callV (As := [.int 0, .int 1]) (rest := []) (csC := [(m, .inr (12, [.int 0, .ref mp, .int pt, .ref mf, .ref mh, .ref mn, .ref mt, .ref mz, .ref mc_, .ref mq, .ref mgr, .int cl, .int wa, .int co_, .int fi, .int bu, .int ho, .ref ml, .ref mi, .ref mr, .int lh, .int mg, .int wd, .int fpi, .int fal, .ref mm, .ref mu, .ref mk, .ref mx, .long po, .long de]))]) (is := [0]) (q0 := 0) rfl rfl ln_Mm_103 w_im_Mm_fails w_se_Mm_fails ok_Mm_pool_Mm_fails d_Mm_pool_20 (C_Mm_fails0 g m mp mf mh mn mt mz mc_ mq mgr ml mi mr mm mu mk mx th pt cl wa co_ fi bu ho lh mg wd fpi fal po de 1) rfl rfl (Nat.le_of_ble_eq_true rfl) rfl (by decide) (by omega) (by omega) (fun E cs1 hx => ?_) (fun v cs1 hx => ?_)
      · exact absurd hx.1 (by simp)
      · obtain ⟨e1, rfl⟩ := hx
        cases e1
        refine ⟨rfl, ?_⟩
        refine r_st (st2 := [.int 0]) rfl ?_
        refine r_cs (cs2 := [(m, .inr (12, [.int 0, .ref mp, .int pt, .ref mf, .ref mh, .ref mn, .ref mt, .ref mz, .ref mc_, .ref mq, .ref mgr, .int cl, .int wa, .int co_, .int fi, .int bu, .int ho, .ref ml, .ref mi, .ref mr, .int lh, .int mg, .int wd, .int fpi, .int fal, .ref mm, .ref mu, .ref mk, .ref mx, .long po, .long de])), (mi, .inl (0, 4, .inl ir))]) rfl ?_
        refine r_if_eq (tgt := 30) d_Mm_pool_23 (by decide) (fun c_23 => ?_) (fun c_23 => ?_)
        · refine r_aload_n d_Mm_pool_30 rfl 0 rfl ?_
          refine r_get fs_Mm_62 d_Mm_pool_31 (q0 := 0) rfl rfl ?_
          refine r_iload_n d_Mm_pool_34 rfl 1 rfl ?_
          refine r_callS (As := [.int 100]) (rest := [.ref mi]) (csC := []) (is := []) ln_Mm_269 w_st_Mm_place ok_Mm_pool_Mm_place d_Mm_pool_35 (C_Mm_placeD g) rfl rfl (Nat.le_of_ble_eq_true rfl) rfl (by decide) (by omega) (by omega) (fun E cs1 hx => ?_) (fun v cs1 hx => ?_)
          · exact absurd hx.1 (by simp)
          · obtain ⟨e1, rfl⟩ := hx
            cases e1
            refine ⟨rfl, ?_⟩
            refine r_st (st2 := [.int 3, .ref mi]) rfl ?_
            refine r_cs (cs2 := [(m, .inr (12, [.int 0, .ref mp, .int pt, .ref mf, .ref mh, .ref mn, .ref mt, .ref mz, .ref mc_, .ref mq, .ref mgr, .int cl, .int wa, .int co_, .int fi, .int bu, .int ho, .ref ml, .ref mi, .ref mr, .int lh, .int mg, .int wd, .int fpi, .int fal, .ref mm, .ref mu, .ref mk, .ref mx, .long po, .long de])), (mi, .inl (0, 4, .inl ir))]) rfl ?_
            refine r_iald d_Mm_pool_38 (q0 := 1) rfl (fun q => q.elim (by decide) (by decide)) (v := ir 3) rfl ?_
            refine r_iret d_Mm_pool_39 rfl rfl ?_
            exact ⟨rfl, rfl⟩
        · exact absurd c_23 (by decide)
    · exact absurd c_11 (by decide)
set_option maxHeartbeats 4000000 in
set_option maxRecDepth 100000 in
theorem C_Mm_poolHas100E (g : zG) (m mp mf mh mn mt mz mc_ mq mgr ml mi mr mm mu mk mx : Nat) (th pt cl wa co_ fi bu ho lh mg wd fpi fal : Int32) (po de : Int64) (k : Int32) (hk : z_ix 2 k < 0) : CT g M_Mm_poolHas [.ref m, .int 100, .int k] [(m, .inr (12, [.int th, .ref mp, .int pt, .ref mf, .ref mh, .ref mn, .ref mt, .ref mz, .ref mc_, .ref mq, .ref mgr, .int cl, .int wa, .int co_, .int fi, .int bu, .int ho, .ref ml, .ref mi, .ref mr, .int lh, .int mg, .int wd, .int fpi, .int fal, .ref mm, .ref mu, .ref mk, .ref mx, .long po, .long de]))] (fun o cs1 => o = .inl (some (.int 0)) ∧ cs1 = [(m, .inr (12, [.int 1, .ref mp, .int pt, .ref mf, .ref mh, .ref mn, .ref mt, .ref mz, .ref mc_, .ref mq, .ref mgr, .int cl, .int wa, .int co_, .int fi, .int bu, .int ho, .ref ml, .ref mi, .ref mr, .int lh, .int mg, .int wd, .int fpi, .int fal, .ref mm, .ref mu, .ref mk, .ref mx, .long po, .long de]))]) 0 0 := by
  refine z_of (by decide) rfl (Nat.le_of_ble_eq_true rfl) (fun w0 => ?_)
  refine r_lvE (lv2 := [(0, .ref m), (1, .int 100), (2, .int k)]) rfl ?_
  refine r_aload_n d_Mm_poolHas_0 rfl 0 rfl ?_
  refine r_iconst d_Mm_poolHas_1 (v := 0) (by decide) ?_
  refine r_put fp_Mm_84 d_Mm_poolHas_2 (fun h => nomatch h) rfl rfl (q0 := 0) rfl (Nat.le_of_ble_eq_true rfl) (cs' := [(m, .inr (12, [.int 0, .ref mp, .int pt, .ref mf, .ref mh, .ref mn, .ref mt, .ref mz, .ref mc_, .ref mq, .ref mgr, .int cl, .int wa, .int co_, .int fi, .int bu, .int ho, .ref ml, .ref mi, .ref mr, .int lh, .int mg, .int wd, .int fpi, .int fal, .ref mm, .ref mu, .ref mk, .ref mx, .long po, .long de]))]) rfl ?_
  refine r_aload_n d_Mm_poolHas_5 rfl 0 rfl ?_
  refine r_iload_n d_Mm_poolHas_6 rfl 1 rfl ?_
  refine r_callS (As := [.int 100]) (rest := [.ref m]) (csC := []) (is := []) ln_Mm_269 w_st_Mm_place ok_Mm_poolHas_Mm_place d_Mm_poolHas_7 (C_Mm_placeD g) rfl rfl (Nat.le_of_ble_eq_true rfl) rfl (by decide) (by omega) (by omega) (fun E cs1 hx => ?_) (fun v cs1 hx => ?_)
  · exact absurd hx.1 (by simp)
  · obtain ⟨e1, rfl⟩ := hx
    cases e1
    refine ⟨rfl, ?_⟩
    refine r_st (st2 := [.int 3, .ref m]) rfl ?_
    refine r_cs (cs2 := [(m, .inr (12, [.int 0, .ref mp, .int pt, .ref mf, .ref mh, .ref mn, .ref mt, .ref mz, .ref mc_, .ref mq, .ref mgr, .int cl, .int wa, .int co_, .int fi, .int bu, .int ho, .ref ml, .ref mi, .ref mr, .int lh, .int mg, .int wd, .int fpi, .int fal, .ref mm, .ref mu, .ref mk, .ref mx, .long po, .long de]))]) rfl ?_
    refine r_iconst d_Mm_poolHas_10 (v := (-1)) (by decide) ?_
    refine r_icmp_eq (tgt := 21) d_Mm_poolHas_11 (by decide) (fun c_11 => ?_) (fun c_11 => ?_)
    · exact absurd c_11 (by decide)
    · refine r_iload_n d_Mm_poolHas_14 rfl 2 rfl ?_
      refine r_callS (As := [.int k]) (rest := [.ref m]) (csC := []) (is := []) ln_Mm_246 w_st_Mm_element ok_Mm_poolHas_Mm_element d_Mm_poolHas_15 (C_Mm_element g k) rfl rfl (Nat.le_of_ble_eq_true rfl) rfl (by decide) (by omega) (by omega) (fun E cs1 hx => ?_) (fun v cs1 hx => ?_)
      · exact absurd hx.1 (by simp)
      · obtain ⟨e1, rfl⟩ := hx
        cases e1
        refine ⟨rfl, ?_⟩
        refine r_st (st2 := [.int (z_ix 2 k), .ref m]) rfl ?_
        refine r_cs (cs2 := [(m, .inr (12, [.int 0, .ref mp, .int pt, .ref mf, .ref mh, .ref mn, .ref mt, .ref mz, .ref mc_, .ref mq, .ref mgr, .int cl, .int wa, .int co_, .int fi, .int bu, .int ho, .ref ml, .ref mi, .ref mr, .int lh, .int mg, .int wd, .int fpi, .int fal, .ref mm, .ref mu, .ref mk, .ref mx, .long po, .long de]))]) rfl ?_
        refine r_if_ge (tgt := 25) d_Mm_poolHas_18 (by decide) (fun c_18 => ?_) (fun c_18 => ?_)
        · exact absurd hk (Int32.not_lt.mpr c_18)
        · refine r_iconst d_Mm_poolHas_21 (v := 1) (by decide) ?_
          refine r_goto (tgt := 26) d_Mm_poolHas_22 (by decide) ?_
          refine r_iconst d_Mm_poolHas_26 (v := 1) (by decide) ?_
          refine r_callV (As := [.int 1, .int 1]) (rest := []) (csC := [(m, .inr (12, [.int 0, .ref mp, .int pt, .ref mf, .ref mh, .ref mn, .ref mt, .ref mz, .ref mc_, .ref mq, .ref mgr, .int cl, .int wa, .int co_, .int fi, .int bu, .int ho, .ref ml, .ref mi, .ref mr, .int lh, .int mg, .int wd, .int fpi, .int fal, .ref mm, .ref mu, .ref mk, .ref mx, .long po, .long de]))]) (is := [0]) (q0 := 0) rfl rfl ln_Mm_103 w_im_Mm_fails w_se_Mm_fails ok_Mm_poolHas_Mm_fails d_Mm_poolHas_27 (C_Mm_fails1 g m mp mf mh mn mt mz mc_ mq mgr ml mi mr mm mu mk mx th pt cl wa co_ fi bu ho lh mg wd fpi fal po de) rfl rfl (Nat.le_of_ble_eq_true rfl) rfl (by decide) (by omega) (by omega) (fun E cs1 hx => ?_) (fun v cs1 hx => ?_)
          · exact absurd hx.1 (by simp)
          · obtain ⟨e1, rfl⟩ := hx
            cases e1
            refine ⟨rfl, ?_⟩
            refine r_st (st2 := [.int 1]) rfl ?_
            refine r_cs (cs2 := [(m, .inr (12, [.int 1, .ref mp, .int pt, .ref mf, .ref mh, .ref mn, .ref mt, .ref mz, .ref mc_, .ref mq, .ref mgr, .int cl, .int wa, .int co_, .int fi, .int bu, .int ho, .ref ml, .ref mi, .ref mr, .int lh, .int mg, .int wd, .int fpi, .int fal, .ref mm, .ref mu, .ref mk, .ref mx, .long po, .long de]))]) rfl ?_
            refine r_if_ne (tgt := 58) d_Mm_poolHas_30 (by decide) (fun c_30 => ?_) (fun c_30 => ?_)
            · refine r_iconst d_Mm_poolHas_58 (v := 0) (by decide) ?_
              refine r_iret d_Mm_poolHas_59 rfl rfl ?_
              exact ⟨rfl, rfl⟩
            · exact absurd c_30 (by decide)
set_option maxHeartbeats 4000000 in
set_option maxRecDepth 100000 in
theorem C_Mm_poolHas100F (g : zG) (m mp mf mh mn mt mz mc_ mq mgr ml mi mr mm mu mk mx : Nat) (th pt cl wa co_ fi bu ho lh mg wd fpi fal : Int32) (po de : Int64) (ir : Nat → Int32) (k : Int32) (hk : ¬ z_ix 2 k < 0) (h0 : ir 3 = 0) : CT g M_Mm_poolHas [.ref m, .int 100, .int k] [(m, .inr (12, [.int th, .ref mp, .int pt, .ref mf, .ref mh, .ref mn, .ref mt, .ref mz, .ref mc_, .ref mq, .ref mgr, .int cl, .int wa, .int co_, .int fi, .int bu, .int ho, .ref ml, .ref mi, .ref mr, .int lh, .int mg, .int wd, .int fpi, .int fal, .ref mm, .ref mu, .ref mk, .ref mx, .long po, .long de])), (mi, .inl (0, 4, .inl ir))] (fun o cs1 => o = .inl (some (.int 0)) ∧ cs1 = [(m, .inr (12, [.int 2, .ref mp, .int pt, .ref mf, .ref mh, .ref mn, .ref mt, .ref mz, .ref mc_, .ref mq, .ref mgr, .int cl, .int wa, .int co_, .int fi, .int bu, .int ho, .ref ml, .ref mi, .ref mr, .int lh, .int mg, .int wd, .int fpi, .int fal, .ref mm, .ref mu, .ref mk, .ref mx, .long po, .long de])), (mi, .inl (0, 4, .inl ir))]) 0 0 := by
  refine z_of (by decide) rfl (Nat.le_of_ble_eq_true rfl) (fun w0 => ?_)
  refine r_lvE (lv2 := [(0, .ref m), (1, .int 100), (2, .int k)]) rfl ?_
  refine r_aload_n d_Mm_poolHas_0 rfl 0 rfl ?_
  refine r_iconst d_Mm_poolHas_1 (v := 0) (by decide) ?_
  refine r_put fp_Mm_84 d_Mm_poolHas_2 (fun h => nomatch h) rfl rfl (q0 := 0) rfl (Nat.le_of_ble_eq_true rfl) (cs' := [(m, .inr (12, [.int 0, .ref mp, .int pt, .ref mf, .ref mh, .ref mn, .ref mt, .ref mz, .ref mc_, .ref mq, .ref mgr, .int cl, .int wa, .int co_, .int fi, .int bu, .int ho, .ref ml, .ref mi, .ref mr, .int lh, .int mg, .int wd, .int fpi, .int fal, .ref mm, .ref mu, .ref mk, .ref mx, .long po, .long de])), (mi, .inl (0, 4, .inl ir))]) rfl ?_
  refine r_aload_n d_Mm_poolHas_5 rfl 0 rfl ?_
  refine r_iload_n d_Mm_poolHas_6 rfl 1 rfl ?_
  refine r_callS (As := [.int 100]) (rest := [.ref m]) (csC := []) (is := []) ln_Mm_269 w_st_Mm_place ok_Mm_poolHas_Mm_place d_Mm_poolHas_7 (C_Mm_placeD g) rfl rfl (Nat.le_of_ble_eq_true rfl) rfl (by decide) (by omega) (by omega) (fun E cs1 hx => ?_) (fun v cs1 hx => ?_)
  · exact absurd hx.1 (by simp)
  · obtain ⟨e1, rfl⟩ := hx
    cases e1
    refine ⟨rfl, ?_⟩
    refine r_st (st2 := [.int 3, .ref m]) rfl ?_
    refine r_cs (cs2 := [(m, .inr (12, [.int 0, .ref mp, .int pt, .ref mf, .ref mh, .ref mn, .ref mt, .ref mz, .ref mc_, .ref mq, .ref mgr, .int cl, .int wa, .int co_, .int fi, .int bu, .int ho, .ref ml, .ref mi, .ref mr, .int lh, .int mg, .int wd, .int fpi, .int fal, .ref mm, .ref mu, .ref mk, .ref mx, .long po, .long de])), (mi, .inl (0, 4, .inl ir))]) rfl ?_
    refine r_iconst d_Mm_poolHas_10 (v := (-1)) (by decide) ?_
    refine r_icmp_eq (tgt := 21) d_Mm_poolHas_11 (by decide) (fun c_11 => ?_) (fun c_11 => ?_)
    · exact absurd c_11 (by decide)
    · refine r_iload_n d_Mm_poolHas_14 rfl 2 rfl ?_
      refine r_callS (As := [.int k]) (rest := [.ref m]) (csC := []) (is := []) ln_Mm_246 w_st_Mm_element ok_Mm_poolHas_Mm_element d_Mm_poolHas_15 (C_Mm_element g k) rfl rfl (Nat.le_of_ble_eq_true rfl) rfl (by decide) (by omega) (by omega) (fun E cs1 hx => ?_) (fun v cs1 hx => ?_)
      · exact absurd hx.1 (by simp)
      · obtain ⟨e1, rfl⟩ := hx
        cases e1
        refine ⟨rfl, ?_⟩
        refine r_st (st2 := [.int (z_ix 2 k), .ref m]) rfl ?_
        refine r_cs (cs2 := [(m, .inr (12, [.int 0, .ref mp, .int pt, .ref mf, .ref mh, .ref mn, .ref mt, .ref mz, .ref mc_, .ref mq, .ref mgr, .int cl, .int wa, .int co_, .int fi, .int bu, .int ho, .ref ml, .ref mi, .ref mr, .int lh, .int mg, .int wd, .int fpi, .int fal, .ref mm, .ref mu, .ref mk, .ref mx, .long po, .long de])), (mi, .inl (0, 4, .inl ir))]) rfl ?_
        refine r_if_ge (tgt := 25) d_Mm_poolHas_18 (by decide) (fun c_18 => ?_) (fun c_18 => ?_)
        · refine r_iconst d_Mm_poolHas_25 (v := 0) (by decide) ?_
          refine r_iconst d_Mm_poolHas_26 (v := 1) (by decide) ?_
          refine r_callV (As := [.int 0, .int 1]) (rest := []) (csC := [(m, .inr (12, [.int 0, .ref mp, .int pt, .ref mf, .ref mh, .ref mn, .ref mt, .ref mz, .ref mc_, .ref mq, .ref mgr, .int cl, .int wa, .int co_, .int fi, .int bu, .int ho, .ref ml, .ref mi, .ref mr, .int lh, .int mg, .int wd, .int fpi, .int fal, .ref mm, .ref mu, .ref mk, .ref mx, .long po, .long de]))]) (is := [0]) (q0 := 0) rfl rfl ln_Mm_103 w_im_Mm_fails w_se_Mm_fails ok_Mm_poolHas_Mm_fails d_Mm_poolHas_27 (C_Mm_fails0 g m mp mf mh mn mt mz mc_ mq mgr ml mi mr mm mu mk mx th pt cl wa co_ fi bu ho lh mg wd fpi fal po de 1) rfl rfl (Nat.le_of_ble_eq_true rfl) rfl (by decide) (by omega) (by omega) (fun E cs1 hx => ?_) (fun v cs1 hx => ?_)
          · exact absurd hx.1 (by simp)
          · obtain ⟨e1, rfl⟩ := hx
            cases e1
            refine ⟨rfl, ?_⟩
            refine r_st (st2 := [.int 0]) rfl ?_
            refine r_cs (cs2 := [(m, .inr (12, [.int 0, .ref mp, .int pt, .ref mf, .ref mh, .ref mn, .ref mt, .ref mz, .ref mc_, .ref mq, .ref mgr, .int cl, .int wa, .int co_, .int fi, .int bu, .int ho, .ref ml, .ref mi, .ref mr, .int lh, .int mg, .int wd, .int fpi, .int fal, .ref mm, .ref mu, .ref mk, .ref mx, .long po, .long de])), (mi, .inl (0, 4, .inl ir))]) rfl ?_
            refine r_if_ne (tgt := 58) d_Mm_poolHas_30 (by decide) (fun c_30 => ?_) (fun c_30 => ?_)
            · exact absurd c_30 (by decide)
            · refine r_aload_n d_Mm_poolHas_33 rfl 0 rfl ?_
              refine r_aload_n d_Mm_poolHas_34 rfl 0 rfl ?_
              refine r_get fs_Mm_62 d_Mm_poolHas_35 (q0 := 0) rfl rfl ?_
              refine r_iload_n d_Mm_poolHas_38 rfl 1 rfl ?_
              refine r_callS (As := [.int 100]) (rest := [.ref mi, .ref m]) (csC := []) (is := []) ln_Mm_269 w_st_Mm_place ok_Mm_poolHas_Mm_place d_Mm_poolHas_39 (C_Mm_placeD g) rfl rfl (Nat.le_of_ble_eq_true rfl) rfl (by decide) (by omega) (by omega) (fun E cs1 hx => ?_) (fun v cs1 hx => ?_)
              · exact absurd hx.1 (by simp)
              · obtain ⟨e1, rfl⟩ := hx
                cases e1
                refine ⟨rfl, ?_⟩
                refine r_st (st2 := [.int 3, .ref mi, .ref m]) rfl ?_
                refine r_cs (cs2 := [(m, .inr (12, [.int 0, .ref mp, .int pt, .ref mf, .ref mh, .ref mn, .ref mt, .ref mz, .ref mc_, .ref mq, .ref mgr, .int cl, .int wa, .int co_, .int fi, .int bu, .int ho, .ref ml, .ref mi, .ref mr, .int lh, .int mg, .int wd, .int fpi, .int fal, .ref mm, .ref mu, .ref mk, .ref mx, .long po, .long de])), (mi, .inl (0, 4, .inl ir))]) rfl ?_
                refine r_iald d_Mm_poolHas_42 (q0 := 1) rfl (fun q => q.elim (by decide) (by decide)) (v := ir 3) rfl ?_
                refine r_if_ne (tgt := 50) d_Mm_poolHas_43 (by decide) (fun c_43 => ?_) (fun c_43 => ?_)
                · exact absurd h0 c_43
                · refine r_iconst d_Mm_poolHas_46 (v := 1) (by decide) ?_
                  refine r_goto (tgt := 51) d_Mm_poolHas_47 (by decide) ?_
                  refine r_iconst d_Mm_poolHas_51 (v := 2) (by decide) ?_
                  refine r_callV (As := [.int 1, .int 2]) (rest := []) (csC := [(m, .inr (12, [.int 0, .ref mp, .int pt, .ref mf, .ref mh, .ref mn, .ref mt, .ref mz, .ref mc_, .ref mq, .ref mgr, .int cl, .int wa, .int co_, .int fi, .int bu, .int ho, .ref ml, .ref mi, .ref mr, .int lh, .int mg, .int wd, .int fpi, .int fal, .ref mm, .ref mu, .ref mk, .ref mx, .long po, .long de]))]) (is := [0]) (q0 := 0) rfl rfl ln_Mm_103 w_im_Mm_fails w_se_Mm_fails ok_Mm_poolHas_Mm_fails d_Mm_poolHas_52 (C_Mm_fails2 g m mp mf mh mn mt mz mc_ mq mgr ml mi mr mm mu mk mx th pt cl wa co_ fi bu ho lh mg wd fpi fal po de) rfl rfl (Nat.le_of_ble_eq_true rfl) rfl (by decide) (by omega) (by omega) (fun E cs1 hx => ?_) (fun v cs1 hx => ?_)
                  · exact absurd hx.1 (by simp)
                  · obtain ⟨e1, rfl⟩ := hx
                    cases e1
                    refine ⟨rfl, ?_⟩
                    refine r_st (st2 := [.int 1]) rfl ?_
                    refine r_cs (cs2 := [(m, .inr (12, [.int 2, .ref mp, .int pt, .ref mf, .ref mh, .ref mn, .ref mt, .ref mz, .ref mc_, .ref mq, .ref mgr, .int cl, .int wa, .int co_, .int fi, .int bu, .int ho, .ref ml, .ref mi, .ref mr, .int lh, .int mg, .int wd, .int fpi, .int fal, .ref mm, .ref mu, .ref mk, .ref mx, .long po, .long de])), (mi, .inl (0, 4, .inl ir))]) rfl ?_
                    refine r_if_eq (tgt := 60) d_Mm_poolHas_55 (by decide) (fun c_55 => ?_) (fun c_55 => ?_)
                    · exact absurd c_55 (by decide)
                    · refine r_iconst d_Mm_poolHas_58 (v := 0) (by decide) ?_
                      refine r_iret d_Mm_poolHas_59 rfl rfl ?_
                      exact ⟨rfl, rfl⟩
        · exact absurd (Int32.not_le.mp c_18) hk
abbrev M_Mm_hold : zM := (⟨"IronpourModel", "hold", "(I)I"⟩, prog_14_method_61_code, 3, (Option.some FieldType.int), 2, 42, [])
theorem d_Mm_hold_0 : decode prog_14_method_61_code 0 = .ok (.aload_n 0, 1) := zo_42 (zd_b zq_prog_14_method_61_code_0 0 rfl rfl rfl)
theorem d_Mm_hold_1 : decode prog_14_method_61_code 1 = .ok (.iconst 0, 1) := zo_3 (zd_b zq_prog_14_method_61_code_0 1 rfl rfl rfl)
theorem d_Mm_hold_2 : decode prog_14_method_61_code 2 = .ok (.putfield 84, 3) := zo_181 (d := 0) (e := 84) (zd_b zq_prog_14_method_61_code_0 2 rfl rfl rfl) (zd_b zq_prog_14_method_61_code_0 3 rfl rfl rfl) (zd_b zq_prog_14_method_61_code_0 4 rfl rfl rfl)
theorem d_Mm_hold_5 : decode prog_14_method_61_code 5 = .ok (.aload_n 0, 1) := zo_42 (zd_b zq_prog_14_method_61_code_0 5 rfl rfl rfl)
theorem d_Mm_hold_6 : decode prog_14_method_61_code 6 = .ok (.iload_n 1, 1) := zo_27 (zd_b zq_prog_14_method_61_code_0 6 rfl rfl rfl)
theorem d_Mm_hold_7 : decode prog_14_method_61_code 7 = .ok (.iconst 1, 1) := zo_4 (zd_b zq_prog_14_method_61_code_0 7 rfl rfl rfl)
theorem d_Mm_hold_8 : decode prog_14_method_61_code 8 = .ok (.bipush 120, 2) := zo_16 (d := 120) (zd_b zq_prog_14_method_61_code_0 8 rfl rfl rfl) (zd_b zq_prog_14_method_61_code_0 9 rfl rfl rfl) (by decide +kernel)
theorem d_Mm_hold_10 : decode prog_14_method_61_code 10 = .ok (.invokestatic 87, 3) := zo_184 (d := 0) (e := 87) (zd_b zq_prog_14_method_61_code_0 10 rfl rfl rfl) (zd_b zq_prog_14_method_61_code_0 11 rfl rfl rfl) (zd_b zq_prog_14_method_61_code_0 12 rfl rfl rfl)
theorem ok_Mm_hold_Mm_in : z_ok M_Mm_hold M_Mm_in 3 := ⟨z_mj7 (i := 190) rfl (by decide +kernel), rfl, ⟨by decide +kernel, by decide +kernel, by decide +kernel⟩, ⟨by decide, by decide⟩, z_mj1 (i := 14) rfl (by decide +kernel), rfl⟩
theorem d_Mm_hold_13 : decode prog_14_method_61_code 13 = .ok (.ifCond .ne 7, 3) := zo_154 (d := 0) (e := 7) (zd_b zq_prog_14_method_61_code_0 13 rfl rfl rfl) (zd_b zq_prog_14_method_61_code_0 14 rfl rfl rfl) (zd_b zq_prog_14_method_61_code_0 15 rfl rfl rfl) (by decide +kernel)
theorem d_Mm_hold_16 : decode prog_14_method_61_code 16 = .ok (.iconst 1, 1) := zo_4 (zd_b zq_prog_14_method_61_code_0 16 rfl rfl rfl)
theorem d_Mm_hold_17 : decode prog_14_method_61_code 17 = .ok (.goto 4, 3) := zo_167 (d := 0) (e := 4) (zd_b zq_prog_14_method_61_code_0 17 rfl rfl rfl) (zd_b zq_prog_14_method_61_code_0 18 rfl rfl rfl) (zd_b zq_prog_14_method_61_code_0 19 rfl rfl rfl) (by decide +kernel)
theorem d_Mm_hold_21 : decode prog_14_method_61_code 21 = .ok (.iconst 1, 1) := zo_4 (zd_b zq_prog_14_method_61_code_0 21 rfl rfl rfl)
theorem d_Mm_hold_22 : decode prog_14_method_61_code 22 = .ok (.invokevirtual 103, 3) := zo_182 (d := 0) (e := 103) (zd_b zq_prog_14_method_61_code_0 22 rfl rfl rfl) (zd_b zq_prog_14_method_61_code_0 23 rfl rfl rfl) (zd_b zq_prog_14_method_61_code_0 24 rfl rfl rfl)
theorem ok_Mm_hold_Mm_fails : z_ok M_Mm_hold M_Mm_fails 2 := ⟨z_mj7 (i := 196) rfl (by decide +kernel), rfl, ⟨by decide +kernel, by decide +kernel, by decide +kernel⟩, ⟨by decide, by decide⟩, z_mj1 (i := 14) rfl (by decide +kernel), rfl⟩
theorem d_Mm_hold_25 : decode prog_14_method_61_code 25 = .ok (.ifCond .eq 5, 3) := zo_153 (d := 0) (e := 5) (zd_b zq_prog_14_method_61_code_0 25 rfl rfl rfl) (zd_b zq_prog_14_method_61_code_0 26 rfl rfl rfl) (zd_b zq_prog_14_method_61_code_0 27 rfl rfl rfl) (by decide +kernel)
theorem d_Mm_hold_28 : decode prog_14_method_61_code 28 = .ok (.iconst 0, 1) := zo_3 (zd_b zq_prog_14_method_61_code_0 28 rfl rfl rfl)
theorem d_Mm_hold_29 : decode prog_14_method_61_code 29 = .ok (.ireturn, 1) := zo_172 (zd_b zq_prog_14_method_61_code_0 29 rfl rfl rfl)
set_option maxHeartbeats 4000000 in
set_option maxRecDepth 100000 in
theorem C_Mm_holdE (g : zG) (m mp mf mh mn mt mz mc_ mq mgr ml mi mr mm mu mk mx : Nat) (th pt cl wa co_ fi bu ho lh mg wd fpi fal : Int32) (po de : Int64) (h : Int32) (hw : ¬ (1 ≤ h ∧ h ≤ 120)) : CT g M_Mm_hold [.ref m, .int h] [(m, .inr (12, [.int th, .ref mp, .int pt, .ref mf, .ref mh, .ref mn, .ref mt, .ref mz, .ref mc_, .ref mq, .ref mgr, .int cl, .int wa, .int co_, .int fi, .int bu, .int ho, .ref ml, .ref mi, .ref mr, .int lh, .int mg, .int wd, .int fpi, .int fal, .ref mm, .ref mu, .ref mk, .ref mx, .long po, .long de]))] (fun o cs1 => o = .inl (some (.int 0)) ∧ cs1 = [(m, .inr (12, [.int 1, .ref mp, .int pt, .ref mf, .ref mh, .ref mn, .ref mt, .ref mz, .ref mc_, .ref mq, .ref mgr, .int cl, .int wa, .int co_, .int fi, .int bu, .int ho, .ref ml, .ref mi, .ref mr, .int lh, .int mg, .int wd, .int fpi, .int fal, .ref mm, .ref mu, .ref mk, .ref mx, .long po, .long de]))]) 0 0 := by
  refine z_of (by decide) rfl (Nat.le_of_ble_eq_true rfl) (fun w0 => ?_)
  refine r_lvE (lv2 := [(0, .ref m), (1, .int h)]) rfl ?_
  refine r_aload_n d_Mm_hold_0 rfl 0 rfl ?_
  refine r_iconst d_Mm_hold_1 (v := 0) (by decide) ?_
  refine r_put fp_Mm_84 d_Mm_hold_2 (fun h => nomatch h) rfl rfl (q0 := 0) rfl (Nat.le_of_ble_eq_true rfl) (cs' := [(m, .inr (12, [.int 0, .ref mp, .int pt, .ref mf, .ref mh, .ref mn, .ref mt, .ref mz, .ref mc_, .ref mq, .ref mgr, .int cl, .int wa, .int co_, .int fi, .int bu, .int ho, .ref ml, .ref mi, .ref mr, .int lh, .int mg, .int wd, .int fpi, .int fal, .ref mm, .ref mu, .ref mk, .ref mx, .long po, .long de]))]) rfl ?_
  refine r_aload_n d_Mm_hold_5 rfl 0 rfl ?_
  refine r_iload_n d_Mm_hold_6 rfl 1 rfl ?_
  refine r_iconst d_Mm_hold_7 (v := 1) (by decide) ?_
  refine r_bipush d_Mm_hold_8 (v := 120) (by decide) ?_
  refine r_callS (As := [.int h, .int 1, .int 120]) (rest := [.ref m]) (csC := []) (is := []) ln_Mm_87 w_st_Mm_in ok_Mm_hold_Mm_in d_Mm_hold_10 (C_Mm_in g h 1 120) rfl rfl (Nat.le_of_ble_eq_true rfl) rfl (by decide) (by omega) (by omega) (fun E cs1 hx => ?_) (fun v cs1 hx => ?_)
  · exact absurd hx.1 (by simp)
  · obtain ⟨e1, rfl⟩ := hx
    rw [if_neg hw] at e1
    cases e1
    refine ⟨rfl, ?_⟩
    refine r_st (st2 := [.int 0, .ref m]) rfl ?_
    refine r_cs (cs2 := [(m, .inr (12, [.int 0, .ref mp, .int pt, .ref mf, .ref mh, .ref mn, .ref mt, .ref mz, .ref mc_, .ref mq, .ref mgr, .int cl, .int wa, .int co_, .int fi, .int bu, .int ho, .ref ml, .ref mi, .ref mr, .int lh, .int mg, .int wd, .int fpi, .int fal, .ref mm, .ref mu, .ref mk, .ref mx, .long po, .long de]))]) rfl ?_
    refine r_if_ne (tgt := 20) d_Mm_hold_13 (by decide) (fun c_13 => ?_) (fun c_13 => ?_)
    · exact absurd c_13 (by decide)
    · refine r_iconst d_Mm_hold_16 (v := 1) (by decide) ?_
      refine r_goto (tgt := 21) d_Mm_hold_17 (by decide) ?_
      refine r_iconst d_Mm_hold_21 (v := 1) (by decide) ?_
      refine r_callV (As := [.int 1, .int 1]) (rest := []) (csC := [(m, .inr (12, [.int 0, .ref mp, .int pt, .ref mf, .ref mh, .ref mn, .ref mt, .ref mz, .ref mc_, .ref mq, .ref mgr, .int cl, .int wa, .int co_, .int fi, .int bu, .int ho, .ref ml, .ref mi, .ref mr, .int lh, .int mg, .int wd, .int fpi, .int fal, .ref mm, .ref mu, .ref mk, .ref mx, .long po, .long de]))]) (is := [0]) (q0 := 0) rfl rfl ln_Mm_103 w_im_Mm_fails w_se_Mm_fails ok_Mm_hold_Mm_fails d_Mm_hold_22 (C_Mm_fails1 g m mp mf mh mn mt mz mc_ mq mgr ml mi mr mm mu mk mx th pt cl wa co_ fi bu ho lh mg wd fpi fal po de) rfl rfl (Nat.le_of_ble_eq_true rfl) rfl (by decide) (by omega) (by omega) (fun E cs1 hx => ?_) (fun v cs1 hx => ?_)
      · exact absurd hx.1 (by simp)
      · obtain ⟨e1, rfl⟩ := hx
        cases e1
        refine ⟨rfl, ?_⟩
        refine r_st (st2 := [.int 1]) rfl ?_
        refine r_cs (cs2 := [(m, .inr (12, [.int 1, .ref mp, .int pt, .ref mf, .ref mh, .ref mn, .ref mt, .ref mz, .ref mc_, .ref mq, .ref mgr, .int cl, .int wa, .int co_, .int fi, .int bu, .int ho, .ref ml, .ref mi, .ref mr, .int lh, .int mg, .int wd, .int fpi, .int fal, .ref mm, .ref mu, .ref mk, .ref mx, .long po, .long de]))]) rfl ?_
        refine r_if_eq (tgt := 30) d_Mm_hold_25 (by decide) (fun c_25 => ?_) (fun c_25 => ?_)
        · exact absurd c_25 (by decide)
        · refine r_iconst d_Mm_hold_28 (v := 0) (by decide) ?_
          refine r_iret d_Mm_hold_29 rfl rfl ?_
          exact ⟨rfl, rfl⟩
theorem d_Mm_hold_32 : decode prog_14_method_61_code 32 = .ok (.iload_n 2, 1) := zo_28 (zd_b zq_prog_14_method_61_code_1 0 rfl rfl rfl)
theorem d_Mm_hold_33 : decode prog_14_method_61_code 33 = .ok (.iload_n 1, 1) := zo_27 (zd_b zq_prog_14_method_61_code_1 1 rfl rfl rfl)
theorem d_Mm_hold_34 : decode prog_14_method_61_code 34 = .ok (.if_icmp .ge 66, 3) := zo_162 (d := 0) (e := 66) (zd_b zq_prog_14_method_61_code_1 2 rfl rfl rfl) (zd_b zq_prog_14_method_61_code_1 3 rfl rfl rfl) (zd_b zq_prog_14_method_61_code_1 4 rfl rfl rfl) (by decide +kernel)
theorem d_Mm_hold_100 : decode prog_14_method_61_code 100 = .ok (.aload_n 0, 1) := zo_42 (zd_b zq_prog_14_method_61_code_3 4 rfl rfl rfl)
theorem d_Mm_hold_101 : decode prog_14_method_61_code 101 = .ok (.getfield 65, 3) := zo_180 (d := 0) (e := 65) (zd_b zq_prog_14_method_61_code_3 5 rfl rfl rfl) (zd_b zq_prog_14_method_61_code_3 6 rfl rfl rfl) (zd_b zq_prog_14_method_61_code_3 7 rfl rfl rfl)
theorem d_Mm_hold_104 : decode prog_14_method_61_code 104 = .ok (.iconst 0, 1) := zo_3 (zd_b zq_prog_14_method_61_code_3 8 rfl rfl rfl)
theorem d_Mm_hold_105 : decode prog_14_method_61_code 105 = .ok (.laload, 1) := zo_47 (zd_b zq_prog_14_method_61_code_3 9 rfl rfl rfl)
theorem d_Mm_hold_106 : decode prog_14_method_61_code 106 = .ok (.l2i, 1) := zo_136 (zd_b zq_prog_14_method_61_code_3 10 rfl rfl rfl)
theorem d_Mm_hold_107 : decode prog_14_method_61_code 107 = .ok (.ireturn, 1) := zo_172 (zd_b zq_prog_14_method_61_code_3 11 rfl rfl rfl)
theorem d_Mm_hold_37 : decode prog_14_method_61_code 37 = .ok (.aload_n 0, 1) := zo_42 (zd_b zq_prog_14_method_61_code_1 5 rfl rfl rfl)
theorem d_Mm_hold_38 : decode prog_14_method_61_code 38 = .ok (.getfield 65, 3) := zo_180 (d := 0) (e := 65) (zd_b zq_prog_14_method_61_code_1 6 rfl rfl rfl) (zd_b zq_prog_14_method_61_code_1 7 rfl rfl rfl) (zd_b zq_prog_14_method_61_code_1 8 rfl rfl rfl)
theorem d_Mm_hold_41 : decode prog_14_method_61_code 41 = .ok (.iconst 0, 1) := zo_3 (zd_b zq_prog_14_method_61_code_1 9 rfl rfl rfl)
theorem d_Mm_hold_42 : decode prog_14_method_61_code 42 = .ok (.dup2, 1) := zo_92 (zd_b zq_prog_14_method_61_code_1 10 rfl rfl rfl)
theorem d_Mm_hold_43 : decode prog_14_method_61_code 43 = .ok (.laload, 1) := zo_47 (zd_b zq_prog_14_method_61_code_1 11 rfl rfl rfl)
theorem d_Mm_hold_44 : decode prog_14_method_61_code 44 = .ok (.aload_n 0, 1) := zo_42 (zd_b zq_prog_14_method_61_code_1 12 rfl rfl rfl)
theorem d_Mm_hold_45 : decode prog_14_method_61_code 45 = .ok (.getfield 65, 3) := zo_180 (d := 0) (e := 65) (zd_b zq_prog_14_method_61_code_1 13 rfl rfl rfl) (zd_b zq_prog_14_method_61_code_1 14 rfl rfl rfl) (zd_b zq_prog_14_method_61_code_1 15 rfl rfl rfl)
theorem d_Mm_hold_48 : decode prog_14_method_61_code 48 = .ok (.iconst 0, 1) := zo_3 (zd_b zq_prog_14_method_61_code_1 16 rfl rfl rfl)
theorem d_Mm_hold_49 : decode prog_14_method_61_code 49 = .ok (.laload, 1) := zo_47 (zd_b zq_prog_14_method_61_code_1 17 rfl rfl rfl)
theorem d_Mm_hold_50 : decode prog_14_method_61_code 50 = .ok (.ldc2_w 253, 3) := zo_20 (d := 0) (e := 253) (zd_b zq_prog_14_method_61_code_1 18 rfl rfl rfl) (zd_b zq_prog_14_method_61_code_1 19 rfl rfl rfl) (zd_b zq_prog_14_method_61_code_1 20 rfl rfl rfl)
theorem ct_Mm_253 : Cond.constantLong "IronpourModel" 253 2000 ∈ z_gw := z_mj8 (i := 174) rfl (by decide +kernel)
theorem d_Mm_hold_53 : decode prog_14_method_61_code 53 = .ok (.ldiv, 1) := zo_109 (zd_b zq_prog_14_method_61_code_1 21 rfl rfl rfl)
theorem d_Mm_hold_54 : decode prog_14_method_61_code 54 = .ok (.lsub, 1) := zo_101 (zd_b zq_prog_14_method_61_code_1 22 rfl rfl rfl)
theorem d_Mm_hold_55 : decode prog_14_method_61_code 55 = .ok (.lastore, 1) := zo_80 (zd_b zq_prog_14_method_61_code_1 23 rfl rfl rfl)
theorem d_Mm_hold_56 : decode prog_14_method_61_code 56 = .ok (.aload_n 0, 1) := zo_42 (zd_b zq_prog_14_method_61_code_1 24 rfl rfl rfl)
theorem d_Mm_hold_57 : decode prog_14_method_61_code 57 = .ok (.getfield 65, 3) := zo_180 (d := 0) (e := 65) (zd_b zq_prog_14_method_61_code_1 25 rfl rfl rfl) (zd_b zq_prog_14_method_61_code_1 26 rfl rfl rfl) (zd_b zq_prog_14_method_61_code_1 27 rfl rfl rfl)
theorem d_Mm_hold_60 : decode prog_14_method_61_code 60 = .ok (.iconst 1, 1) := zo_4 (zd_b zq_prog_14_method_61_code_1 28 rfl rfl rfl)
theorem d_Mm_hold_61 : decode prog_14_method_61_code 61 = .ok (.dup2, 1) := zo_92 (zd_b zq_prog_14_method_61_code_1 29 rfl rfl rfl)
theorem d_Mm_hold_62 : decode prog_14_method_61_code 62 = .ok (.laload, 1) := zo_47 (zd_b zq_prog_14_method_61_code_1 30 rfl rfl rfl)
theorem d_Mm_hold_63 : decode prog_14_method_61_code 63 = .ok (.aload_n 0, 1) := zo_42 (zd_b zq_prog_14_method_61_code_1 31 rfl rfl rfl)
theorem d_Mm_hold_64 : decode prog_14_method_61_code 64 = .ok (.getfield 65, 3) := zo_180 (d := 0) (e := 65) (zd_b zq_prog_14_method_61_code_2 0 rfl rfl rfl) (zd_b zq_prog_14_method_61_code_2 1 rfl rfl rfl) (zd_b zq_prog_14_method_61_code_2 2 rfl rfl rfl)
theorem d_Mm_hold_67 : decode prog_14_method_61_code 67 = .ok (.iconst 1, 1) := zo_4 (zd_b zq_prog_14_method_61_code_2 3 rfl rfl rfl)
theorem d_Mm_hold_68 : decode prog_14_method_61_code 68 = .ok (.laload, 1) := zo_47 (zd_b zq_prog_14_method_61_code_2 4 rfl rfl rfl)
theorem d_Mm_hold_69 : decode prog_14_method_61_code 69 = .ok (.ldc2_w 255, 3) := zo_20 (d := 0) (e := 255) (zd_b zq_prog_14_method_61_code_2 5 rfl rfl rfl) (zd_b zq_prog_14_method_61_code_2 6 rfl rfl rfl) (zd_b zq_prog_14_method_61_code_2 7 rfl rfl rfl)
theorem ct_Mm_255 : Cond.constantLong "IronpourModel" 255 4000 ∈ z_gw := z_mj8 (i := 175) rfl (by decide +kernel)
theorem d_Mm_hold_72 : decode prog_14_method_61_code 72 = .ok (.ldiv, 1) := zo_109 (zd_b zq_prog_14_method_61_code_2 8 rfl rfl rfl)
theorem d_Mm_hold_73 : decode prog_14_method_61_code 73 = .ok (.lsub, 1) := zo_101 (zd_b zq_prog_14_method_61_code_2 9 rfl rfl rfl)
theorem d_Mm_hold_74 : decode prog_14_method_61_code 74 = .ok (.lastore, 1) := zo_80 (zd_b zq_prog_14_method_61_code_2 10 rfl rfl rfl)
theorem d_Mm_hold_75 : decode prog_14_method_61_code 75 = .ok (.aload_n 0, 1) := zo_42 (zd_b zq_prog_14_method_61_code_2 11 rfl rfl rfl)
theorem d_Mm_hold_76 : decode prog_14_method_61_code 76 = .ok (.getfield 65, 3) := zo_180 (d := 0) (e := 65) (zd_b zq_prog_14_method_61_code_2 12 rfl rfl rfl) (zd_b zq_prog_14_method_61_code_2 13 rfl rfl rfl) (zd_b zq_prog_14_method_61_code_2 14 rfl rfl rfl)
theorem d_Mm_hold_79 : decode prog_14_method_61_code 79 = .ok (.iconst 2, 1) := zo_5 (zd_b zq_prog_14_method_61_code_2 15 rfl rfl rfl)
theorem d_Mm_hold_80 : decode prog_14_method_61_code 80 = .ok (.dup2, 1) := zo_92 (zd_b zq_prog_14_method_61_code_2 16 rfl rfl rfl)
theorem d_Mm_hold_81 : decode prog_14_method_61_code 81 = .ok (.laload, 1) := zo_47 (zd_b zq_prog_14_method_61_code_2 17 rfl rfl rfl)
theorem d_Mm_hold_82 : decode prog_14_method_61_code 82 = .ok (.aload_n 0, 1) := zo_42 (zd_b zq_prog_14_method_61_code_2 18 rfl rfl rfl)
theorem d_Mm_hold_83 : decode prog_14_method_61_code 83 = .ok (.getfield 65, 3) := zo_180 (d := 0) (e := 65) (zd_b zq_prog_14_method_61_code_2 19 rfl rfl rfl) (zd_b zq_prog_14_method_61_code_2 20 rfl rfl rfl) (zd_b zq_prog_14_method_61_code_2 21 rfl rfl rfl)
theorem d_Mm_hold_86 : decode prog_14_method_61_code 86 = .ok (.iconst 2, 1) := zo_5 (zd_b zq_prog_14_method_61_code_2 22 rfl rfl rfl)
theorem d_Mm_hold_87 : decode prog_14_method_61_code 87 = .ok (.laload, 1) := zo_47 (zd_b zq_prog_14_method_61_code_2 23 rfl rfl rfl)
theorem d_Mm_hold_88 : decode prog_14_method_61_code 88 = .ok (.ldc2_w 255, 3) := zo_20 (d := 0) (e := 255) (zd_b zq_prog_14_method_61_code_2 24 rfl rfl rfl) (zd_b zq_prog_14_method_61_code_2 25 rfl rfl rfl) (zd_b zq_prog_14_method_61_code_2 26 rfl rfl rfl)
theorem d_Mm_hold_91 : decode prog_14_method_61_code 91 = .ok (.ldiv, 1) := zo_109 (zd_b zq_prog_14_method_61_code_2 27 rfl rfl rfl)
theorem d_Mm_hold_92 : decode prog_14_method_61_code 92 = .ok (.lsub, 1) := zo_101 (zd_b zq_prog_14_method_61_code_2 28 rfl rfl rfl)
theorem d_Mm_hold_93 : decode prog_14_method_61_code 93 = .ok (.lastore, 1) := zo_80 (zd_b zq_prog_14_method_61_code_2 29 rfl rfl rfl)
theorem d_Mm_hold_94 : decode prog_14_method_61_code 94 = .ok (.iinc 2 1, 3) := by decide +kernel
theorem d_Mm_hold_97 : decode prog_14_method_61_code 97 = .ok (.goto (-65), 3) := zo_167 (d := 255) (e := 191) (zd_b zq_prog_14_method_61_code_3 1 rfl rfl rfl) (zd_b zq_prog_14_method_61_code_3 2 rfl rfl rfl) (zd_b zq_prog_14_method_61_code_3 3 rfl rfl rfl) (by decide +kernel)
theorem d_Mm_hold_20 : decode prog_14_method_61_code 20 = .ok (.iconst 0, 1) := zo_3 (zd_b zq_prog_14_method_61_code_0 20 rfl rfl rfl)
theorem d_Mm_hold_30 : decode prog_14_method_61_code 30 = .ok (.iconst 0, 1) := zo_3 (zd_b zq_prog_14_method_61_code_0 30 rfl rfl rfl)
theorem d_Mm_hold_31 : decode prog_14_method_61_code 31 = .ok (.istore_n 2, 1) := zo_61 (zd_b zq_prog_14_method_61_code_0 31 rfl rfl rfl)
set_option maxHeartbeats 4000000 in
set_option maxRecDepth 100000 in
theorem L_Mm_holdN_32 (g : zG) (m mp mf mh mn mt mz mc_ mq mgr ml mi mr mm mu mk mx : Nat) (th pt cl wa co_ fi bu ho lh mg wd fpi fal : Int32) (po de : Int64) (gr : Nat → Int64) (h : Nat) (hh9 : h < 1000) (hw : (1 ≤ nI h ∧ nI h ≤ 120)) (w0 : zW) (n : Nat) : ∀ (d i : Nat), i ≤ h → h < i + d → DV g M_Mm_hold (fun o cs1 => o = .inl (some (.int ((hdR gr h 0).toInt32))) ∧ cs1 = [(m, .inr (12, [.int 0, .ref mp, .int pt, .ref mf, .ref mh, .ref mn, .ref mt, .ref mz, .ref mc_, .ref mq, .ref mgr, .int cl, .int wa, .int co_, .int fi, .int bu, .int ho, .ref ml, .ref mi, .ref mr, .int lh, .int mg, .int wd, .int fpi, .int fal, .ref mm, .ref mu, .ref mk, .ref mx, .long po, .long de])), (mr, .inl (3, 16, .inr (.inl (hdR gr h))))]) w0 n 32 [(2, .int (nI i)), (1, .int (nI h)), (0, .ref m)] [] [(m, .inr (12, [.int 0, .ref mp, .int pt, .ref mf, .ref mh, .ref mn, .ref mt, .ref mz, .ref mc_, .ref mq, .ref mgr, .int cl, .int wa, .int co_, .int fi, .int bu, .int ho, .ref ml, .ref mi, .ref mr, .int lh, .int mg, .int wd, .int fpi, .int fal, .ref mm, .ref mu, .ref mk, .ref mx, .long po, .long de])), (mr, .inl (3, 16, .inr (.inl (hdR gr i))))] 0 0 := by
  intro d
  induction d with
  | zero => intro i h1 h2 ; exact absurd h2 (by omega)
  | succ d ih =>
    intro i h1 h2 
    refine r_iload_n d_Mm_hold_32 rfl 0 rfl ?_
    refine r_iload_n d_Mm_hold_33 rfl 1 rfl ?_
    refine r_icmp_ge (tgt := 100) d_Mm_hold_34 (by decide) (fun c_34 => ?_) (fun c_34 => ?_)
    · have hn := z_le (by omega) (by omega) c_34
      have hv : i = h := by omega
      rw [hv]
      refine r_aload_n d_Mm_hold_100 rfl 2 rfl ?_
      refine r_get fs_Mm_65 d_Mm_hold_101 (q0 := 0) rfl rfl ?_
      refine r_iconst d_Mm_hold_104 (v := 0) (by decide) ?_
      refine r_lald d_Mm_hold_105 (q0 := 1) rfl (fun q => q.elim (by decide) (by decide)) (v := (hdR gr h) 0) rfl ?_
      refine r_l2i d_Mm_hold_106 (v := (hdR gr h 0).toInt32) rfl ?_
      refine r_iret d_Mm_hold_107 rfl rfl ?_
      exact ⟨rfl, rfl⟩
    · have hn := z_nle (by omega) (by omega) c_34
      refine r_aload_n d_Mm_hold_37 rfl 2 rfl ?_
      refine r_get fs_Mm_65 d_Mm_hold_38 (q0 := 0) rfl rfl ?_
      refine r_iconst d_Mm_hold_41 (v := 0) (by decide) ?_
      refine r_dup2_11 d_Mm_hold_42 rfl rfl ?_
      refine r_lald d_Mm_hold_43 (q0 := 1) rfl (fun q => q.elim (by decide) (by decide)) (v := (hdR gr i) 0) rfl ?_
      refine r_aload_n d_Mm_hold_44 rfl 2 rfl ?_
      refine r_get fs_Mm_65 d_Mm_hold_45 (q0 := 0) rfl rfl ?_
      refine r_iconst d_Mm_hold_48 (v := 0) (by decide) ?_
      refine r_lald d_Mm_hold_49 (q0 := 1) rfl (fun q => q.elim (by decide) (by decide)) (v := (hdR gr i) 0) rfl ?_
      refine r_ldc2 ct_Mm_253 d_Mm_hold_50 ?_
      refine r_ldiv d_Mm_hold_53 (v := ((hdR gr i) 0) / 2000) (by decide) rfl ?_
      refine r_lsub d_Mm_hold_54 (v := ((hdR gr i) 0) - (((hdR gr i) 0) / 2000)) rfl ?_
      refine r_last d_Mm_hold_55 (q0 := 1) rfl (fun q => q.elim (by decide) (by decide)) (f' := (hdE (hdR gr i) 0 2000)) rfl (cs' := [(m, .inr (12, [.int 0, .ref mp, .int pt, .ref mf, .ref mh, .ref mn, .ref mt, .ref mz, .ref mc_, .ref mq, .ref mgr, .int cl, .int wa, .int co_, .int fi, .int bu, .int ho, .ref ml, .ref mi, .ref mr, .int lh, .int mg, .int wd, .int fpi, .int fal, .ref mm, .ref mu, .ref mk, .ref mx, .long po, .long de])), (mr, .inl (3, 16, .inr (.inl (hdE (hdR gr i) 0 2000))))]) rfl ?_
      refine r_aload_n d_Mm_hold_56 rfl 2 rfl ?_
      refine r_get fs_Mm_65 d_Mm_hold_57 (q0 := 0) rfl rfl ?_
      refine r_iconst d_Mm_hold_60 (v := 1) (by decide) ?_
      refine r_dup2_11 d_Mm_hold_61 rfl rfl ?_
      refine r_lald d_Mm_hold_62 (q0 := 1) rfl (fun q => q.elim (by decide) (by decide)) (v := (hdE (hdR gr i) 0 2000) 1) rfl ?_
      refine r_aload_n d_Mm_hold_63 rfl 2 rfl ?_
      refine r_get fs_Mm_65 d_Mm_hold_64 (q0 := 0) rfl rfl ?_
      refine r_iconst d_Mm_hold_67 (v := 1) (by decide) ?_
      refine r_lald d_Mm_hold_68 (q0 := 1) rfl (fun q => q.elim (by decide) (by decide)) (v := (hdE (hdR gr i) 0 2000) 1) rfl ?_
      refine r_ldc2 ct_Mm_255 d_Mm_hold_69 ?_
      refine r_ldiv d_Mm_hold_72 (v := ((hdE (hdR gr i) 0 2000) 1) / 4000) (by decide) rfl ?_
      refine r_lsub d_Mm_hold_73 (v := ((hdE (hdR gr i) 0 2000) 1) - (((hdE (hdR gr i) 0 2000) 1) / 4000)) rfl ?_
      refine r_last d_Mm_hold_74 (q0 := 1) rfl (fun q => q.elim (by decide) (by decide)) (f' := (hdE (hdE (hdR gr i) 0 2000) 1 4000)) rfl (cs' := [(m, .inr (12, [.int 0, .ref mp, .int pt, .ref mf, .ref mh, .ref mn, .ref mt, .ref mz, .ref mc_, .ref mq, .ref mgr, .int cl, .int wa, .int co_, .int fi, .int bu, .int ho, .ref ml, .ref mi, .ref mr, .int lh, .int mg, .int wd, .int fpi, .int fal, .ref mm, .ref mu, .ref mk, .ref mx, .long po, .long de])), (mr, .inl (3, 16, .inr (.inl (hdE (hdE (hdR gr i) 0 2000) 1 4000))))]) rfl ?_
      refine r_aload_n d_Mm_hold_75 rfl 2 rfl ?_
      refine r_get fs_Mm_65 d_Mm_hold_76 (q0 := 0) rfl rfl ?_
      refine r_iconst d_Mm_hold_79 (v := 2) (by decide) ?_
      refine r_dup2_11 d_Mm_hold_80 rfl rfl ?_
      refine r_lald d_Mm_hold_81 (q0 := 1) rfl (fun q => q.elim (by decide) (by decide)) (v := (hdE (hdE (hdR gr i) 0 2000) 1 4000) 2) rfl ?_
      refine r_aload_n d_Mm_hold_82 rfl 2 rfl ?_
      refine r_get fs_Mm_65 d_Mm_hold_83 (q0 := 0) rfl rfl ?_
      refine r_iconst d_Mm_hold_86 (v := 2) (by decide) ?_
      refine r_lald d_Mm_hold_87 (q0 := 1) rfl (fun q => q.elim (by decide) (by decide)) (v := (hdE (hdE (hdR gr i) 0 2000) 1 4000) 2) rfl ?_
      refine r_ldc2 ct_Mm_255 d_Mm_hold_88 ?_
      refine r_ldiv d_Mm_hold_91 (v := ((hdE (hdE (hdR gr i) 0 2000) 1 4000) 2) / 4000) (by decide) rfl ?_
      refine r_lsub d_Mm_hold_92 (v := ((hdE (hdE (hdR gr i) 0 2000) 1 4000) 2) - (((hdE (hdE (hdR gr i) 0 2000) 1 4000) 2) / 4000)) rfl ?_
      refine r_last d_Mm_hold_93 (q0 := 1) rfl (fun q => q.elim (by decide) (by decide)) (f' := hdR gr (i + 1)) rfl (cs' := [(m, .inr (12, [.int 0, .ref mp, .int pt, .ref mf, .ref mh, .ref mn, .ref mt, .ref mz, .ref mc_, .ref mq, .ref mgr, .int cl, .int wa, .int co_, .int fi, .int bu, .int ho, .ref ml, .ref mi, .ref mr, .int lh, .int mg, .int wd, .int fpi, .int fal, .ref mm, .ref mu, .ref mk, .ref mx, .long po, .long de])), (mr, .inl (3, 16, .inr (.inl (hdR gr (i + 1)))))]) rfl ?_
      refine r_iinc (lv' := [(2, .int (nI (i + 1))), (1, .int (nI h)), (0, .ref m)]) (v := nI (i + 1)) d_Mm_hold_94 (j := 0) rfl (nI_add _ _) (by decide) rfl ?_
      refine r_goto (tgt := 32) d_Mm_hold_97 (by decide) ?_
      refine r_lvE (lv2 := [(2, .int (nI (i + 1))), (1, .int (nI h)), (0, .ref m)]) (rfl) ?_
      refine r_cs (cs2 := [(m, .inr (12, [.int 0, .ref mp, .int pt, .ref mf, .ref mh, .ref mn, .ref mt, .ref mz, .ref mc_, .ref mq, .ref mgr, .int cl, .int wa, .int co_, .int fi, .int bu, .int ho, .ref ml, .ref mi, .ref mr, .int lh, .int mg, .int wd, .int fpi, .int fal, .ref mm, .ref mu, .ref mk, .ref mx, .long po, .long de])), (mr, .inl (3, 16, .inr (.inl (hdR gr (i + 1)))))]) (rfl) ?_
      exact ih (i + 1) (by omega) (by omega)
set_option maxHeartbeats 4000000 in
set_option maxRecDepth 100000 in
theorem C_Mm_holdN (g : zG) (m mp mf mh mn mt mz mc_ mq mgr ml mi mr mm mu mk mx : Nat) (th pt cl wa co_ fi bu ho lh mg wd fpi fal : Int32) (po de : Int64) (gr : Nat → Int64) (h : Nat) (hh9 : h < 1000) (hw : (1 ≤ nI h ∧ nI h ≤ 120)) : CT g M_Mm_hold [.ref m, .int (nI h)] [(m, .inr (12, [.int th, .ref mp, .int pt, .ref mf, .ref mh, .ref mn, .ref mt, .ref mz, .ref mc_, .ref mq, .ref mgr, .int cl, .int wa, .int co_, .int fi, .int bu, .int ho, .ref ml, .ref mi, .ref mr, .int lh, .int mg, .int wd, .int fpi, .int fal, .ref mm, .ref mu, .ref mk, .ref mx, .long po, .long de])), (mr, .inl (3, 16, .inr (.inl gr)))] (fun o cs1 => o = .inl (some (.int ((hdR gr h 0).toInt32))) ∧ cs1 = [(m, .inr (12, [.int 0, .ref mp, .int pt, .ref mf, .ref mh, .ref mn, .ref mt, .ref mz, .ref mc_, .ref mq, .ref mgr, .int cl, .int wa, .int co_, .int fi, .int bu, .int ho, .ref ml, .ref mi, .ref mr, .int lh, .int mg, .int wd, .int fpi, .int fal, .ref mm, .ref mu, .ref mk, .ref mx, .long po, .long de])), (mr, .inl (3, 16, .inr (.inl (hdR gr h))))]) 0 0 := by
  refine z_of (by decide) rfl (Nat.le_of_ble_eq_true rfl) (fun w0 => ?_)
  refine r_lvE (lv2 := [(0, .ref m), (1, .int (nI h))]) rfl ?_
  refine r_aload_n d_Mm_hold_0 rfl 0 rfl ?_
  refine r_iconst d_Mm_hold_1 (v := 0) (by decide) ?_
  refine r_put fp_Mm_84 d_Mm_hold_2 (fun h => nomatch h) rfl rfl (q0 := 0) rfl (Nat.le_of_ble_eq_true rfl) (cs' := [(m, .inr (12, [.int 0, .ref mp, .int pt, .ref mf, .ref mh, .ref mn, .ref mt, .ref mz, .ref mc_, .ref mq, .ref mgr, .int cl, .int wa, .int co_, .int fi, .int bu, .int ho, .ref ml, .ref mi, .ref mr, .int lh, .int mg, .int wd, .int fpi, .int fal, .ref mm, .ref mu, .ref mk, .ref mx, .long po, .long de])), (mr, .inl (3, 16, .inr (.inl gr)))]) rfl ?_
  refine r_aload_n d_Mm_hold_5 rfl 0 rfl ?_
  refine r_iload_n d_Mm_hold_6 rfl 1 rfl ?_
  refine r_iconst d_Mm_hold_7 (v := 1) (by decide) ?_
  refine r_bipush d_Mm_hold_8 (v := 120) (by decide) ?_
  refine r_callS (As := [.int (nI h), .int 1, .int 120]) (rest := [.ref m]) (csC := []) (is := []) ln_Mm_87 w_st_Mm_in ok_Mm_hold_Mm_in d_Mm_hold_10 (C_Mm_in g (nI h) 1 120) rfl rfl (Nat.le_of_ble_eq_true rfl) rfl (by decide) (by omega) (by omega) (fun E cs1 hx => ?_) (fun v cs1 hx => ?_)
  · exact absurd hx.1 (by simp)
  · obtain ⟨e1, rfl⟩ := hx
    rw [if_pos hw] at e1
    cases e1
    refine ⟨rfl, ?_⟩
    refine r_st (st2 := [.int 1, .ref m]) rfl ?_
    refine r_cs (cs2 := [(m, .inr (12, [.int 0, .ref mp, .int pt, .ref mf, .ref mh, .ref mn, .ref mt, .ref mz, .ref mc_, .ref mq, .ref mgr, .int cl, .int wa, .int co_, .int fi, .int bu, .int ho, .ref ml, .ref mi, .ref mr, .int lh, .int mg, .int wd, .int fpi, .int fal, .ref mm, .ref mu, .ref mk, .ref mx, .long po, .long de])), (mr, .inl (3, 16, .inr (.inl gr)))]) rfl ?_
    refine r_if_ne (tgt := 20) d_Mm_hold_13 (by decide) (fun c_13 => ?_) (fun c_13 => ?_)
    · refine r_iconst d_Mm_hold_20 (v := 0) (by decide) ?_
      refine r_iconst d_Mm_hold_21 (v := 1) (by decide) ?_
      refine r_callV (As := [.int 0, .int 1]) (rest := []) (csC := [(m, .inr (12, [.int 0, .ref mp, .int pt, .ref mf, .ref mh, .ref mn, .ref mt, .ref mz, .ref mc_, .ref mq, .ref mgr, .int cl, .int wa, .int co_, .int fi, .int bu, .int ho, .ref ml, .ref mi, .ref mr, .int lh, .int mg, .int wd, .int fpi, .int fal, .ref mm, .ref mu, .ref mk, .ref mx, .long po, .long de]))]) (is := [0]) (q0 := 0) rfl rfl ln_Mm_103 w_im_Mm_fails w_se_Mm_fails ok_Mm_hold_Mm_fails d_Mm_hold_22 (C_Mm_fails0 g m mp mf mh mn mt mz mc_ mq mgr ml mi mr mm mu mk mx th pt cl wa co_ fi bu ho lh mg wd fpi fal po de 1) rfl rfl (Nat.le_of_ble_eq_true rfl) rfl (by decide) (by omega) (by omega) (fun E cs1 hx => ?_) (fun v cs1 hx => ?_)
      · exact absurd hx.1 (by simp)
      · obtain ⟨e1, rfl⟩ := hx
        cases e1
        refine ⟨rfl, ?_⟩
        refine r_st (st2 := [.int 0]) rfl ?_
        refine r_cs (cs2 := [(m, .inr (12, [.int 0, .ref mp, .int pt, .ref mf, .ref mh, .ref mn, .ref mt, .ref mz, .ref mc_, .ref mq, .ref mgr, .int cl, .int wa, .int co_, .int fi, .int bu, .int ho, .ref ml, .ref mi, .ref mr, .int lh, .int mg, .int wd, .int fpi, .int fal, .ref mm, .ref mu, .ref mk, .ref mx, .long po, .long de])), (mr, .inl (3, 16, .inr (.inl gr)))]) rfl ?_
        refine r_if_eq (tgt := 30) d_Mm_hold_25 (by decide) (fun c_25 => ?_) (fun c_25 => ?_)
        · refine r_iconst d_Mm_hold_30 (v := 0) (by decide) ?_
          refine r_istore_n (lv' := [(2, .int 0), (0, .ref m), (1, .int (nI h))]) d_Mm_hold_31 rfl (by decide) rfl ?_
          refine r_lv (lv' := [(2, .int 0), (1, .int (nI h)), (0, .ref m)]) [0, 2, 1] rfl ?_
          refine r_lvE (lv2 := [(2, .int (nI 0)), (1, .int (nI h)), (0, .ref m)]) (rfl) ?_
          refine r_cs (cs2 := [(m, .inr (12, [.int 0, .ref mp, .int pt, .ref mf, .ref mh, .ref mn, .ref mt, .ref mz, .ref mc_, .ref mq, .ref mgr, .int cl, .int wa, .int co_, .int fi, .int bu, .int ho, .ref ml, .ref mi, .ref mr, .int lh, .int mg, .int wd, .int fpi, .int fal, .ref mm, .ref mu, .ref mk, .ref mx, .long po, .long de])), (mr, .inl (3, 16, .inr (.inl (hdR gr 0))))]) (rfl) ?_
          exact L_Mm_holdN_32 g m mp mf mh mn mt mz mc_ mq mgr ml mi mr mm mu mk mx th pt cl wa co_ fi bu ho lh mg wd fpi fal po de gr h hh9 hw w0 _  (h + 1) 0 (Nat.zero_le _) (by omega)
        · exact absurd c_25 (by decide)
    · exact absurd c_13 (by decide)
abbrev M_Mm_tap : zM := (⟨"IronpourModel", "tap", "(I)I"⟩, prog_14_method_62_code, 2, (Option.some FieldType.int), 2, 47, [])
theorem d_Mm_tap_0 : decode prog_14_method_62_code 0 = .ok (.aload_n 0, 1) := zo_42 (zd_b zq_prog_14_method_62_code_0 0 rfl rfl rfl)
theorem d_Mm_tap_1 : decode prog_14_method_62_code 1 = .ok (.iconst 0, 1) := zo_3 (zd_b zq_prog_14_method_62_code_0 1 rfl rfl rfl)
theorem d_Mm_tap_2 : decode prog_14_method_62_code 2 = .ok (.putfield 84, 3) := zo_181 (d := 0) (e := 84) (zd_b zq_prog_14_method_62_code_0 2 rfl rfl rfl) (zd_b zq_prog_14_method_62_code_0 3 rfl rfl rfl) (zd_b zq_prog_14_method_62_code_0 4 rfl rfl rfl)
theorem d_Mm_tap_5 : decode prog_14_method_62_code 5 = .ok (.aload_n 0, 1) := zo_42 (zd_b zq_prog_14_method_62_code_0 5 rfl rfl rfl)
theorem d_Mm_tap_6 : decode prog_14_method_62_code 6 = .ok (.iload_n 1, 1) := zo_27 (zd_b zq_prog_14_method_62_code_0 6 rfl rfl rfl)
theorem d_Mm_tap_7 : decode prog_14_method_62_code 7 = .ok (.iconst 1, 1) := zo_4 (zd_b zq_prog_14_method_62_code_0 7 rfl rfl rfl)
theorem d_Mm_tap_8 : decode prog_14_method_62_code 8 = .ok (.sipush 500, 3) := zo_17 (d := 1) (e := 244) (zd_b zq_prog_14_method_62_code_0 8 rfl rfl rfl) (zd_b zq_prog_14_method_62_code_0 9 rfl rfl rfl) (zd_b zq_prog_14_method_62_code_0 10 rfl rfl rfl) (by decide +kernel)
theorem d_Mm_tap_11 : decode prog_14_method_62_code 11 = .ok (.invokestatic 87, 3) := zo_184 (d := 0) (e := 87) (zd_b zq_prog_14_method_62_code_0 11 rfl rfl rfl) (zd_b zq_prog_14_method_62_code_0 12 rfl rfl rfl) (zd_b zq_prog_14_method_62_code_0 13 rfl rfl rfl)
theorem ok_Mm_tap_Mm_in : z_ok M_Mm_tap M_Mm_in 3 := ⟨z_mj7 (i := 190) rfl (by decide +kernel), rfl, ⟨by decide +kernel, by decide +kernel, by decide +kernel⟩, ⟨by decide, by decide⟩, z_mj1 (i := 14) rfl (by decide +kernel), rfl⟩
theorem d_Mm_tap_14 : decode prog_14_method_62_code 14 = .ok (.ifCond .ne 7, 3) := zo_154 (d := 0) (e := 7) (zd_b zq_prog_14_method_62_code_0 14 rfl rfl rfl) (zd_b zq_prog_14_method_62_code_0 15 rfl rfl rfl) (zd_b zq_prog_14_method_62_code_0 16 rfl rfl rfl) (by decide +kernel)
theorem d_Mm_tap_17 : decode prog_14_method_62_code 17 = .ok (.iconst 1, 1) := zo_4 (zd_b zq_prog_14_method_62_code_0 17 rfl rfl rfl)
theorem d_Mm_tap_18 : decode prog_14_method_62_code 18 = .ok (.goto 4, 3) := zo_167 (d := 0) (e := 4) (zd_b zq_prog_14_method_62_code_0 18 rfl rfl rfl) (zd_b zq_prog_14_method_62_code_0 19 rfl rfl rfl) (zd_b zq_prog_14_method_62_code_0 20 rfl rfl rfl) (by decide +kernel)
theorem d_Mm_tap_22 : decode prog_14_method_62_code 22 = .ok (.iconst 1, 1) := zo_4 (zd_b zq_prog_14_method_62_code_0 22 rfl rfl rfl)
theorem d_Mm_tap_23 : decode prog_14_method_62_code 23 = .ok (.invokevirtual 103, 3) := zo_182 (d := 0) (e := 103) (zd_b zq_prog_14_method_62_code_0 23 rfl rfl rfl) (zd_b zq_prog_14_method_62_code_0 24 rfl rfl rfl) (zd_b zq_prog_14_method_62_code_0 25 rfl rfl rfl)
theorem ok_Mm_tap_Mm_fails : z_ok M_Mm_tap M_Mm_fails 2 := ⟨z_mj7 (i := 196) rfl (by decide +kernel), rfl, ⟨by decide +kernel, by decide +kernel, by decide +kernel⟩, ⟨by decide, by decide⟩, z_mj1 (i := 14) rfl (by decide +kernel), rfl⟩
theorem d_Mm_tap_26 : decode prog_14_method_62_code 26 = .ok (.ifCond .ne 48, 3) := zo_154 (d := 0) (e := 48) (zd_b zq_prog_14_method_62_code_0 26 rfl rfl rfl) (zd_b zq_prog_14_method_62_code_0 27 rfl rfl rfl) (zd_b zq_prog_14_method_62_code_0 28 rfl rfl rfl) (by decide +kernel)
theorem d_Mm_tap_74 : decode prog_14_method_62_code 74 = .ok (.iconst 0, 1) := zo_3 (zd_b zq_prog_14_method_62_code_2 10 rfl rfl rfl)
theorem d_Mm_tap_75 : decode prog_14_method_62_code 75 = .ok (.ireturn, 1) := zo_172 (zd_b zq_prog_14_method_62_code_2 11 rfl rfl rfl)
set_option maxHeartbeats 4000000 in
set_option maxRecDepth 100000 in
theorem C_Mm_tapE (g : zG) (m mp mf mh mn mt mz mc_ mq mgr ml mi mr mm mu mk mx : Nat) (th pt cl wa co_ fi bu ho lh mg wd fpi fal : Int32) (po de : Int64) (h : Int32) (hw : ¬ (1 ≤ h ∧ h ≤ 500)) : CT g M_Mm_tap [.ref m, .int h] [(m, .inr (12, [.int th, .ref mp, .int pt, .ref mf, .ref mh, .ref mn, .ref mt, .ref mz, .ref mc_, .ref mq, .ref mgr, .int cl, .int wa, .int co_, .int fi, .int bu, .int ho, .ref ml, .ref mi, .ref mr, .int lh, .int mg, .int wd, .int fpi, .int fal, .ref mm, .ref mu, .ref mk, .ref mx, .long po, .long de]))] (fun o cs1 => o = .inl (some (.int 0)) ∧ cs1 = [(m, .inr (12, [.int 1, .ref mp, .int pt, .ref mf, .ref mh, .ref mn, .ref mt, .ref mz, .ref mc_, .ref mq, .ref mgr, .int cl, .int wa, .int co_, .int fi, .int bu, .int ho, .ref ml, .ref mi, .ref mr, .int lh, .int mg, .int wd, .int fpi, .int fal, .ref mm, .ref mu, .ref mk, .ref mx, .long po, .long de]))]) 0 0 := by
  refine z_of (by decide) rfl (Nat.le_of_ble_eq_true rfl) (fun w0 => ?_)
  refine r_lvE (lv2 := [(0, .ref m), (1, .int h)]) rfl ?_
  refine r_aload_n d_Mm_tap_0 rfl 0 rfl ?_
  refine r_iconst d_Mm_tap_1 (v := 0) (by decide) ?_
  refine r_put fp_Mm_84 d_Mm_tap_2 (fun h => nomatch h) rfl rfl (q0 := 0) rfl (Nat.le_of_ble_eq_true rfl) (cs' := [(m, .inr (12, [.int 0, .ref mp, .int pt, .ref mf, .ref mh, .ref mn, .ref mt, .ref mz, .ref mc_, .ref mq, .ref mgr, .int cl, .int wa, .int co_, .int fi, .int bu, .int ho, .ref ml, .ref mi, .ref mr, .int lh, .int mg, .int wd, .int fpi, .int fal, .ref mm, .ref mu, .ref mk, .ref mx, .long po, .long de]))]) rfl ?_
  refine r_aload_n d_Mm_tap_5 rfl 0 rfl ?_
  refine r_iload_n d_Mm_tap_6 rfl 1 rfl ?_
  refine r_iconst d_Mm_tap_7 (v := 1) (by decide) ?_
  refine r_sipush d_Mm_tap_8 (v := 500) (by decide) ?_
  refine r_callS (As := [.int h, .int 1, .int 500]) (rest := [.ref m]) (csC := []) (is := []) ln_Mm_87 w_st_Mm_in ok_Mm_tap_Mm_in d_Mm_tap_11 (C_Mm_in g h 1 500) rfl rfl (Nat.le_of_ble_eq_true rfl) rfl (by decide) (by omega) (by omega) (fun E cs1 hx => ?_) (fun v cs1 hx => ?_)
  · exact absurd hx.1 (by simp)
  · obtain ⟨e1, rfl⟩ := hx
    rw [if_neg hw] at e1
    cases e1
    refine ⟨rfl, ?_⟩
    refine r_st (st2 := [.int 0, .ref m]) rfl ?_
    refine r_cs (cs2 := [(m, .inr (12, [.int 0, .ref mp, .int pt, .ref mf, .ref mh, .ref mn, .ref mt, .ref mz, .ref mc_, .ref mq, .ref mgr, .int cl, .int wa, .int co_, .int fi, .int bu, .int ho, .ref ml, .ref mi, .ref mr, .int lh, .int mg, .int wd, .int fpi, .int fal, .ref mm, .ref mu, .ref mk, .ref mx, .long po, .long de]))]) rfl ?_
    refine r_if_ne (tgt := 21) d_Mm_tap_14 (by decide) (fun c_14 => ?_) (fun c_14 => ?_)
    · exact absurd c_14 (by decide)
    · refine r_iconst d_Mm_tap_17 (v := 1) (by decide) ?_
      refine r_goto (tgt := 22) d_Mm_tap_18 (by decide) ?_
      refine r_iconst d_Mm_tap_22 (v := 1) (by decide) ?_
      refine r_callV (As := [.int 1, .int 1]) (rest := []) (csC := [(m, .inr (12, [.int 0, .ref mp, .int pt, .ref mf, .ref mh, .ref mn, .ref mt, .ref mz, .ref mc_, .ref mq, .ref mgr, .int cl, .int wa, .int co_, .int fi, .int bu, .int ho, .ref ml, .ref mi, .ref mr, .int lh, .int mg, .int wd, .int fpi, .int fal, .ref mm, .ref mu, .ref mk, .ref mx, .long po, .long de]))]) (is := [0]) (q0 := 0) rfl rfl ln_Mm_103 w_im_Mm_fails w_se_Mm_fails ok_Mm_tap_Mm_fails d_Mm_tap_23 (C_Mm_fails1 g m mp mf mh mn mt mz mc_ mq mgr ml mi mr mm mu mk mx th pt cl wa co_ fi bu ho lh mg wd fpi fal po de) rfl rfl (Nat.le_of_ble_eq_true rfl) rfl (by decide) (by omega) (by omega) (fun E cs1 hx => ?_) (fun v cs1 hx => ?_)
      · exact absurd hx.1 (by simp)
      · obtain ⟨e1, rfl⟩ := hx
        cases e1
        refine ⟨rfl, ?_⟩
        refine r_st (st2 := [.int 1]) rfl ?_
        refine r_cs (cs2 := [(m, .inr (12, [.int 1, .ref mp, .int pt, .ref mf, .ref mh, .ref mn, .ref mt, .ref mz, .ref mc_, .ref mq, .ref mgr, .int cl, .int wa, .int co_, .int fi, .int bu, .int ho, .ref ml, .ref mi, .ref mr, .int lh, .int mg, .int wd, .int fpi, .int fal, .ref mm, .ref mu, .ref mk, .ref mx, .long po, .long de]))]) rfl ?_
        refine r_if_ne (tgt := 74) d_Mm_tap_26 (by decide) (fun c_26 => ?_) (fun c_26 => ?_)
        · refine r_iconst d_Mm_tap_74 (v := 0) (by decide) ?_
          refine r_iret d_Mm_tap_75 rfl rfl ?_
          exact ⟨rfl, rfl⟩
        · exact absurd c_26 (by decide)
theorem d_Mm_tap_21 : decode prog_14_method_62_code 21 = .ok (.iconst 0, 1) := zo_3 (zd_b zq_prog_14_method_62_code_0 21 rfl rfl rfl)
theorem d_Mm_tap_29 : decode prog_14_method_62_code 29 = .ok (.aload_n 0, 1) := zo_42 (zd_b zq_prog_14_method_62_code_0 29 rfl rfl rfl)
theorem d_Mm_tap_30 : decode prog_14_method_62_code 30 = .ok (.aload_n 0, 1) := zo_42 (zd_b zq_prog_14_method_62_code_0 30 rfl rfl rfl)
theorem d_Mm_tap_31 : decode prog_14_method_62_code 31 = .ok (.getfield 62, 3) := zo_180 (d := 0) (e := 62) (zd_b zq_prog_14_method_62_code_0 31 rfl rfl rfl) (zd_b zq_prog_14_method_62_code_1 0 rfl rfl rfl) (zd_b zq_prog_14_method_62_code_1 1 rfl rfl rfl)
theorem d_Mm_tap_34 : decode prog_14_method_62_code 34 = .ok (.iconst 1, 1) := zo_4 (zd_b zq_prog_14_method_62_code_1 2 rfl rfl rfl)
theorem d_Mm_tap_35 : decode prog_14_method_62_code 35 = .ok (.iaload, 1) := zo_46 (zd_b zq_prog_14_method_62_code_1 3 rfl rfl rfl)
theorem d_Mm_tap_36 : decode prog_14_method_62_code 36 = .ok (.ifCond .le 7, 3) := zo_158 (d := 0) (e := 7) (zd_b zq_prog_14_method_62_code_1 4 rfl rfl rfl) (zd_b zq_prog_14_method_62_code_1 5 rfl rfl rfl) (zd_b zq_prog_14_method_62_code_1 6 rfl rfl rfl) (by decide +kernel)
theorem d_Mm_tap_43 : decode prog_14_method_62_code 43 = .ok (.iconst 0, 1) := zo_3 (zd_b zq_prog_14_method_62_code_1 11 rfl rfl rfl)
theorem d_Mm_tap_44 : decode prog_14_method_62_code 44 = .ok (.iconst 2, 1) := zo_5 (zd_b zq_prog_14_method_62_code_1 12 rfl rfl rfl)
theorem d_Mm_tap_45 : decode prog_14_method_62_code 45 = .ok (.invokevirtual 103, 3) := zo_182 (d := 0) (e := 103) (zd_b zq_prog_14_method_62_code_1 13 rfl rfl rfl) (zd_b zq_prog_14_method_62_code_1 14 rfl rfl rfl) (zd_b zq_prog_14_method_62_code_1 15 rfl rfl rfl)
theorem d_Mm_tap_48 : decode prog_14_method_62_code 48 = .ok (.ifCond .ne 26, 3) := zo_154 (d := 0) (e := 26) (zd_b zq_prog_14_method_62_code_1 16 rfl rfl rfl) (zd_b zq_prog_14_method_62_code_1 17 rfl rfl rfl) (zd_b zq_prog_14_method_62_code_1 18 rfl rfl rfl) (by decide +kernel)
theorem d_Mm_tap_51 : decode prog_14_method_62_code 51 = .ok (.aload_n 0, 1) := zo_42 (zd_b zq_prog_14_method_62_code_1 19 rfl rfl rfl)
theorem d_Mm_tap_52 : decode prog_14_method_62_code 52 = .ok (.aload_n 0, 1) := zo_42 (zd_b zq_prog_14_method_62_code_1 20 rfl rfl rfl)
theorem d_Mm_tap_53 : decode prog_14_method_62_code 53 = .ok (.getfield 62, 3) := zo_180 (d := 0) (e := 62) (zd_b zq_prog_14_method_62_code_1 21 rfl rfl rfl) (zd_b zq_prog_14_method_62_code_1 22 rfl rfl rfl) (zd_b zq_prog_14_method_62_code_1 23 rfl rfl rfl)
theorem d_Mm_tap_56 : decode prog_14_method_62_code 56 = .ok (.iconst 0, 1) := zo_3 (zd_b zq_prog_14_method_62_code_1 24 rfl rfl rfl)
theorem d_Mm_tap_57 : decode prog_14_method_62_code 57 = .ok (.iaload, 1) := zo_46 (zd_b zq_prog_14_method_62_code_1 25 rfl rfl rfl)
theorem d_Mm_tap_58 : decode prog_14_method_62_code 58 = .ok (.iload_n 1, 1) := zo_27 (zd_b zq_prog_14_method_62_code_1 26 rfl rfl rfl)
theorem d_Mm_tap_59 : decode prog_14_method_62_code 59 = .ok (.if_icmp .ge 7, 3) := zo_162 (d := 0) (e := 7) (zd_b zq_prog_14_method_62_code_1 27 rfl rfl rfl) (zd_b zq_prog_14_method_62_code_1 28 rfl rfl rfl) (zd_b zq_prog_14_method_62_code_1 29 rfl rfl rfl) (by decide +kernel)
theorem d_Mm_tap_62 : decode prog_14_method_62_code 62 = .ok (.iconst 1, 1) := zo_4 (zd_b zq_prog_14_method_62_code_1 30 rfl rfl rfl)
theorem d_Mm_tap_63 : decode prog_14_method_62_code 63 = .ok (.goto 4, 3) := zo_167 (d := 0) (e := 4) (zd_b zq_prog_14_method_62_code_1 31 rfl rfl rfl) (zd_b zq_prog_14_method_62_code_2 0 rfl rfl rfl) (zd_b zq_prog_14_method_62_code_2 1 rfl rfl rfl) (by decide +kernel)
theorem d_Mm_tap_67 : decode prog_14_method_62_code 67 = .ok (.iconst 3, 1) := zo_6 (zd_b zq_prog_14_method_62_code_2 3 rfl rfl rfl)
theorem d_Mm_tap_68 : decode prog_14_method_62_code 68 = .ok (.invokevirtual 103, 3) := zo_182 (d := 0) (e := 103) (zd_b zq_prog_14_method_62_code_2 4 rfl rfl rfl) (zd_b zq_prog_14_method_62_code_2 5 rfl rfl rfl) (zd_b zq_prog_14_method_62_code_2 6 rfl rfl rfl)
theorem d_Mm_tap_71 : decode prog_14_method_62_code 71 = .ok (.ifCond .eq 5, 3) := zo_153 (d := 0) (e := 5) (zd_b zq_prog_14_method_62_code_2 7 rfl rfl rfl) (zd_b zq_prog_14_method_62_code_2 8 rfl rfl rfl) (zd_b zq_prog_14_method_62_code_2 9 rfl rfl rfl) (by decide +kernel)
abbrev M_Mm_treat : zM := (⟨"IronpourModel", "treat", "(I)I"⟩, prog_14_method_63_code, 2, (Option.some FieldType.int), 2, 42, [])
theorem d_Mm_treat_0 : decode prog_14_method_63_code 0 = .ok (.aload_n 0, 1) := zo_42 (zd_b zq_prog_14_method_63_code_0 0 rfl rfl rfl)
theorem d_Mm_treat_1 : decode prog_14_method_63_code 1 = .ok (.iconst 0, 1) := zo_3 (zd_b zq_prog_14_method_63_code_0 1 rfl rfl rfl)
theorem d_Mm_treat_2 : decode prog_14_method_63_code 2 = .ok (.putfield 84, 3) := zo_181 (d := 0) (e := 84) (zd_b zq_prog_14_method_63_code_0 2 rfl rfl rfl) (zd_b zq_prog_14_method_63_code_0 3 rfl rfl rfl) (zd_b zq_prog_14_method_63_code_0 4 rfl rfl rfl)
theorem d_Mm_treat_5 : decode prog_14_method_63_code 5 = .ok (.aload_n 0, 1) := zo_42 (zd_b zq_prog_14_method_63_code_0 5 rfl rfl rfl)
theorem d_Mm_treat_6 : decode prog_14_method_63_code 6 = .ok (.iload_n 1, 1) := zo_27 (zd_b zq_prog_14_method_63_code_0 6 rfl rfl rfl)
theorem d_Mm_treat_7 : decode prog_14_method_63_code 7 = .ok (.iconst 1, 1) := zo_4 (zd_b zq_prog_14_method_63_code_0 7 rfl rfl rfl)
theorem d_Mm_treat_8 : decode prog_14_method_63_code 8 = .ok (.bipush 100, 2) := zo_16 (d := 100) (zd_b zq_prog_14_method_63_code_0 8 rfl rfl rfl) (zd_b zq_prog_14_method_63_code_0 9 rfl rfl rfl) (by decide +kernel)
theorem d_Mm_treat_10 : decode prog_14_method_63_code 10 = .ok (.invokestatic 87, 3) := zo_184 (d := 0) (e := 87) (zd_b zq_prog_14_method_63_code_0 10 rfl rfl rfl) (zd_b zq_prog_14_method_63_code_0 11 rfl rfl rfl) (zd_b zq_prog_14_method_63_code_0 12 rfl rfl rfl)
theorem ok_Mm_treat_Mm_in : z_ok M_Mm_treat M_Mm_in 3 := ⟨z_mj7 (i := 190) rfl (by decide +kernel), rfl, ⟨by decide +kernel, by decide +kernel, by decide +kernel⟩, ⟨by decide, by decide⟩, z_mj1 (i := 14) rfl (by decide +kernel), rfl⟩
theorem d_Mm_treat_13 : decode prog_14_method_63_code 13 = .ok (.ifCond .ne 7, 3) := zo_154 (d := 0) (e := 7) (zd_b zq_prog_14_method_63_code_0 13 rfl rfl rfl) (zd_b zq_prog_14_method_63_code_0 14 rfl rfl rfl) (zd_b zq_prog_14_method_63_code_0 15 rfl rfl rfl) (by decide +kernel)
theorem d_Mm_treat_16 : decode prog_14_method_63_code 16 = .ok (.iconst 1, 1) := zo_4 (zd_b zq_prog_14_method_63_code_0 16 rfl rfl rfl)
theorem d_Mm_treat_17 : decode prog_14_method_63_code 17 = .ok (.goto 4, 3) := zo_167 (d := 0) (e := 4) (zd_b zq_prog_14_method_63_code_0 17 rfl rfl rfl) (zd_b zq_prog_14_method_63_code_0 18 rfl rfl rfl) (zd_b zq_prog_14_method_63_code_0 19 rfl rfl rfl) (by decide +kernel)
theorem d_Mm_treat_21 : decode prog_14_method_63_code 21 = .ok (.iconst 1, 1) := zo_4 (zd_b zq_prog_14_method_63_code_0 21 rfl rfl rfl)
theorem d_Mm_treat_22 : decode prog_14_method_63_code 22 = .ok (.invokevirtual 103, 3) := zo_182 (d := 0) (e := 103) (zd_b zq_prog_14_method_63_code_0 22 rfl rfl rfl) (zd_b zq_prog_14_method_63_code_0 23 rfl rfl rfl) (zd_b zq_prog_14_method_63_code_0 24 rfl rfl rfl)
theorem ok_Mm_treat_Mm_fails : z_ok M_Mm_treat M_Mm_fails 2 := ⟨z_mj7 (i := 196) rfl (by decide +kernel), rfl, ⟨by decide +kernel, by decide +kernel, by decide +kernel⟩, ⟨by decide, by decide⟩, z_mj1 (i := 14) rfl (by decide +kernel), rfl⟩
theorem d_Mm_treat_25 : decode prog_14_method_63_code 25 = .ok (.ifCond .ne 49, 3) := zo_154 (d := 0) (e := 49) (zd_b zq_prog_14_method_63_code_0 25 rfl rfl rfl) (zd_b zq_prog_14_method_63_code_0 26 rfl rfl rfl) (zd_b zq_prog_14_method_63_code_0 27 rfl rfl rfl) (by decide +kernel)
theorem d_Mm_treat_74 : decode prog_14_method_63_code 74 = .ok (.iconst 0, 1) := zo_3 (zd_b zq_prog_14_method_63_code_2 10 rfl rfl rfl)
theorem d_Mm_treat_75 : decode prog_14_method_63_code 75 = .ok (.ireturn, 1) := zo_172 (zd_b zq_prog_14_method_63_code_2 11 rfl rfl rfl)
set_option maxHeartbeats 4000000 in
set_option maxRecDepth 100000 in
theorem C_Mm_treatE (g : zG) (m mp mf mh mn mt mz mc_ mq mgr ml mi mr mm mu mk mx : Nat) (th pt cl wa co_ fi bu ho lh mg wd fpi fal : Int32) (po de : Int64) (h : Int32) (hw : ¬ (1 ≤ h ∧ h ≤ 100)) : CT g M_Mm_treat [.ref m, .int h] [(m, .inr (12, [.int th, .ref mp, .int pt, .ref mf, .ref mh, .ref mn, .ref mt, .ref mz, .ref mc_, .ref mq, .ref mgr, .int cl, .int wa, .int co_, .int fi, .int bu, .int ho, .ref ml, .ref mi, .ref mr, .int lh, .int mg, .int wd, .int fpi, .int fal, .ref mm, .ref mu, .ref mk, .ref mx, .long po, .long de]))] (fun o cs1 => o = .inl (some (.int 0)) ∧ cs1 = [(m, .inr (12, [.int 1, .ref mp, .int pt, .ref mf, .ref mh, .ref mn, .ref mt, .ref mz, .ref mc_, .ref mq, .ref mgr, .int cl, .int wa, .int co_, .int fi, .int bu, .int ho, .ref ml, .ref mi, .ref mr, .int lh, .int mg, .int wd, .int fpi, .int fal, .ref mm, .ref mu, .ref mk, .ref mx, .long po, .long de]))]) 0 0 := by
  refine z_of (by decide) rfl (Nat.le_of_ble_eq_true rfl) (fun w0 => ?_)
  refine r_lvE (lv2 := [(0, .ref m), (1, .int h)]) rfl ?_
  refine r_aload_n d_Mm_treat_0 rfl 0 rfl ?_
  refine r_iconst d_Mm_treat_1 (v := 0) (by decide) ?_
  refine r_put fp_Mm_84 d_Mm_treat_2 (fun h => nomatch h) rfl rfl (q0 := 0) rfl (Nat.le_of_ble_eq_true rfl) (cs' := [(m, .inr (12, [.int 0, .ref mp, .int pt, .ref mf, .ref mh, .ref mn, .ref mt, .ref mz, .ref mc_, .ref mq, .ref mgr, .int cl, .int wa, .int co_, .int fi, .int bu, .int ho, .ref ml, .ref mi, .ref mr, .int lh, .int mg, .int wd, .int fpi, .int fal, .ref mm, .ref mu, .ref mk, .ref mx, .long po, .long de]))]) rfl ?_
  refine r_aload_n d_Mm_treat_5 rfl 0 rfl ?_
  refine r_iload_n d_Mm_treat_6 rfl 1 rfl ?_
  refine r_iconst d_Mm_treat_7 (v := 1) (by decide) ?_
  refine r_bipush d_Mm_treat_8 (v := 100) (by decide) ?_
  refine r_callS (As := [.int h, .int 1, .int 100]) (rest := [.ref m]) (csC := []) (is := []) ln_Mm_87 w_st_Mm_in ok_Mm_treat_Mm_in d_Mm_treat_10 (C_Mm_in g h 1 100) rfl rfl (Nat.le_of_ble_eq_true rfl) rfl (by decide) (by omega) (by omega) (fun E cs1 hx => ?_) (fun v cs1 hx => ?_)
  · exact absurd hx.1 (by simp)
  · obtain ⟨e1, rfl⟩ := hx
    rw [if_neg hw] at e1
    cases e1
    refine ⟨rfl, ?_⟩
    refine r_st (st2 := [.int 0, .ref m]) rfl ?_
    refine r_cs (cs2 := [(m, .inr (12, [.int 0, .ref mp, .int pt, .ref mf, .ref mh, .ref mn, .ref mt, .ref mz, .ref mc_, .ref mq, .ref mgr, .int cl, .int wa, .int co_, .int fi, .int bu, .int ho, .ref ml, .ref mi, .ref mr, .int lh, .int mg, .int wd, .int fpi, .int fal, .ref mm, .ref mu, .ref mk, .ref mx, .long po, .long de]))]) rfl ?_
    refine r_if_ne (tgt := 20) d_Mm_treat_13 (by decide) (fun c_13 => ?_) (fun c_13 => ?_)
    · exact absurd c_13 (by decide)
    · refine r_iconst d_Mm_treat_16 (v := 1) (by decide) ?_
      refine r_goto (tgt := 21) d_Mm_treat_17 (by decide) ?_
      refine r_iconst d_Mm_treat_21 (v := 1) (by decide) ?_
      refine r_callV (As := [.int 1, .int 1]) (rest := []) (csC := [(m, .inr (12, [.int 0, .ref mp, .int pt, .ref mf, .ref mh, .ref mn, .ref mt, .ref mz, .ref mc_, .ref mq, .ref mgr, .int cl, .int wa, .int co_, .int fi, .int bu, .int ho, .ref ml, .ref mi, .ref mr, .int lh, .int mg, .int wd, .int fpi, .int fal, .ref mm, .ref mu, .ref mk, .ref mx, .long po, .long de]))]) (is := [0]) (q0 := 0) rfl rfl ln_Mm_103 w_im_Mm_fails w_se_Mm_fails ok_Mm_treat_Mm_fails d_Mm_treat_22 (C_Mm_fails1 g m mp mf mh mn mt mz mc_ mq mgr ml mi mr mm mu mk mx th pt cl wa co_ fi bu ho lh mg wd fpi fal po de) rfl rfl (Nat.le_of_ble_eq_true rfl) rfl (by decide) (by omega) (by omega) (fun E cs1 hx => ?_) (fun v cs1 hx => ?_)
      · exact absurd hx.1 (by simp)
      · obtain ⟨e1, rfl⟩ := hx
        cases e1
        refine ⟨rfl, ?_⟩
        refine r_st (st2 := [.int 1]) rfl ?_
        refine r_cs (cs2 := [(m, .inr (12, [.int 1, .ref mp, .int pt, .ref mf, .ref mh, .ref mn, .ref mt, .ref mz, .ref mc_, .ref mq, .ref mgr, .int cl, .int wa, .int co_, .int fi, .int bu, .int ho, .ref ml, .ref mi, .ref mr, .int lh, .int mg, .int wd, .int fpi, .int fal, .ref mm, .ref mu, .ref mk, .ref mx, .long po, .long de]))]) rfl ?_
        refine r_if_ne (tgt := 74) d_Mm_treat_25 (by decide) (fun c_25 => ?_) (fun c_25 => ?_)
        · refine r_iconst d_Mm_treat_74 (v := 0) (by decide) ?_
          refine r_iret d_Mm_treat_75 rfl rfl ?_
          exact ⟨rfl, rfl⟩
        · exact absurd c_25 (by decide)
theorem d_Mm_treat_20 : decode prog_14_method_63_code 20 = .ok (.iconst 0, 1) := zo_3 (zd_b zq_prog_14_method_63_code_0 20 rfl rfl rfl)
theorem d_Mm_treat_28 : decode prog_14_method_63_code 28 = .ok (.aload_n 0, 1) := zo_42 (zd_b zq_prog_14_method_63_code_0 28 rfl rfl rfl)
theorem d_Mm_treat_29 : decode prog_14_method_63_code 29 = .ok (.aload_n 0, 1) := zo_42 (zd_b zq_prog_14_method_63_code_0 29 rfl rfl rfl)
theorem d_Mm_treat_30 : decode prog_14_method_63_code 30 = .ok (.getfield 62, 3) := zo_180 (d := 0) (e := 62) (zd_b zq_prog_14_method_63_code_0 30 rfl rfl rfl) (zd_b zq_prog_14_method_63_code_0 31 rfl rfl rfl) (zd_b zq_prog_14_method_63_code_1 0 rfl rfl rfl)
theorem d_Mm_treat_33 : decode prog_14_method_63_code 33 = .ok (.iconst 1, 1) := zo_4 (zd_b zq_prog_14_method_63_code_1 1 rfl rfl rfl)
theorem d_Mm_treat_34 : decode prog_14_method_63_code 34 = .ok (.iaload, 1) := zo_46 (zd_b zq_prog_14_method_63_code_1 2 rfl rfl rfl)
theorem d_Mm_treat_35 : decode prog_14_method_63_code 35 = .ok (.ifCond .ne 7, 3) := zo_154 (d := 0) (e := 7) (zd_b zq_prog_14_method_63_code_1 3 rfl rfl rfl) (zd_b zq_prog_14_method_63_code_1 4 rfl rfl rfl) (zd_b zq_prog_14_method_63_code_1 5 rfl rfl rfl) (by decide +kernel)
theorem d_Mm_treat_38 : decode prog_14_method_63_code 38 = .ok (.iconst 1, 1) := zo_4 (zd_b zq_prog_14_method_63_code_1 6 rfl rfl rfl)
theorem d_Mm_treat_39 : decode prog_14_method_63_code 39 = .ok (.goto 4, 3) := zo_167 (d := 0) (e := 4) (zd_b zq_prog_14_method_63_code_1 7 rfl rfl rfl) (zd_b zq_prog_14_method_63_code_1 8 rfl rfl rfl) (zd_b zq_prog_14_method_63_code_1 9 rfl rfl rfl) (by decide +kernel)
theorem d_Mm_treat_43 : decode prog_14_method_63_code 43 = .ok (.iconst 2, 1) := zo_5 (zd_b zq_prog_14_method_63_code_1 11 rfl rfl rfl)
theorem d_Mm_treat_44 : decode prog_14_method_63_code 44 = .ok (.invokevirtual 103, 3) := zo_182 (d := 0) (e := 103) (zd_b zq_prog_14_method_63_code_1 12 rfl rfl rfl) (zd_b zq_prog_14_method_63_code_1 13 rfl rfl rfl) (zd_b zq_prog_14_method_63_code_1 14 rfl rfl rfl)
theorem d_Mm_treat_47 : decode prog_14_method_63_code 47 = .ok (.ifCond .ne 27, 3) := zo_154 (d := 0) (e := 27) (zd_b zq_prog_14_method_63_code_1 15 rfl rfl rfl) (zd_b zq_prog_14_method_63_code_1 16 rfl rfl rfl) (zd_b zq_prog_14_method_63_code_1 17 rfl rfl rfl) (by decide +kernel)
set_option maxHeartbeats 4000000 in
set_option maxRecDepth 100000 in
theorem C_Mm_treatF (g : zG) (m mp mf mh mn mt mz mc_ mq mgr ml mi mr mm mu mk mx : Nat) (th pt cl wa co_ fi bu ho lh mg wd fpi fal : Int32) (po de : Int64) (ir : Nat → Int32) (h : Int32) (hw : (1 ≤ h ∧ h ≤ 100)) (h1 : ir 1 = 0) : CT g M_Mm_treat [.ref m, .int h] [(m, .inr (12, [.int th, .ref mp, .int pt, .ref mf, .ref mh, .ref mn, .ref mt, .ref mz, .ref mc_, .ref mq, .ref mgr, .int cl, .int wa, .int co_, .int fi, .int bu, .int ho, .ref ml, .ref mi, .ref mr, .int lh, .int mg, .int wd, .int fpi, .int fal, .ref mm, .ref mu, .ref mk, .ref mx, .long po, .long de])), (mi, .inl (0, 4, .inl ir))] (fun o cs1 => o = .inl (some (.int 0)) ∧ cs1 = [(m, .inr (12, [.int 2, .ref mp, .int pt, .ref mf, .ref mh, .ref mn, .ref mt, .ref mz, .ref mc_, .ref mq, .ref mgr, .int cl, .int wa, .int co_, .int fi, .int bu, .int ho, .ref ml, .ref mi, .ref mr, .int lh, .int mg, .int wd, .int fpi, .int fal, .ref mm, .ref mu, .ref mk, .ref mx, .long po, .long de])), (mi, .inl (0, 4, .inl ir))]) 0 0 := by
  refine z_of (by decide) rfl (Nat.le_of_ble_eq_true rfl) (fun w0 => ?_)
  refine r_lvE (lv2 := [(0, .ref m), (1, .int h)]) rfl ?_
  refine r_aload_n d_Mm_treat_0 rfl 0 rfl ?_
  refine r_iconst d_Mm_treat_1 (v := 0) (by decide) ?_
  refine r_put fp_Mm_84 d_Mm_treat_2 (fun h => nomatch h) rfl rfl (q0 := 0) rfl (Nat.le_of_ble_eq_true rfl) (cs' := [(m, .inr (12, [.int 0, .ref mp, .int pt, .ref mf, .ref mh, .ref mn, .ref mt, .ref mz, .ref mc_, .ref mq, .ref mgr, .int cl, .int wa, .int co_, .int fi, .int bu, .int ho, .ref ml, .ref mi, .ref mr, .int lh, .int mg, .int wd, .int fpi, .int fal, .ref mm, .ref mu, .ref mk, .ref mx, .long po, .long de])), (mi, .inl (0, 4, .inl ir))]) rfl ?_
  refine r_aload_n d_Mm_treat_5 rfl 0 rfl ?_
  refine r_iload_n d_Mm_treat_6 rfl 1 rfl ?_
  refine r_iconst d_Mm_treat_7 (v := 1) (by decide) ?_
  refine r_bipush d_Mm_treat_8 (v := 100) (by decide) ?_
  refine r_callS (As := [.int h, .int 1, .int 100]) (rest := [.ref m]) (csC := []) (is := []) ln_Mm_87 w_st_Mm_in ok_Mm_treat_Mm_in d_Mm_treat_10 (C_Mm_in g h 1 100) rfl rfl (Nat.le_of_ble_eq_true rfl) rfl (by decide) (by omega) (by omega) (fun E cs1 hx => ?_) (fun v cs1 hx => ?_)
  · exact absurd hx.1 (by simp)
  · obtain ⟨e1, rfl⟩ := hx
    rw [if_pos hw] at e1
    cases e1
    refine ⟨rfl, ?_⟩
    refine r_st (st2 := [.int 1, .ref m]) rfl ?_
    refine r_cs (cs2 := [(m, .inr (12, [.int 0, .ref mp, .int pt, .ref mf, .ref mh, .ref mn, .ref mt, .ref mz, .ref mc_, .ref mq, .ref mgr, .int cl, .int wa, .int co_, .int fi, .int bu, .int ho, .ref ml, .ref mi, .ref mr, .int lh, .int mg, .int wd, .int fpi, .int fal, .ref mm, .ref mu, .ref mk, .ref mx, .long po, .long de])), (mi, .inl (0, 4, .inl ir))]) rfl ?_
    refine r_if_ne (tgt := 20) d_Mm_treat_13 (by decide) (fun c_13 => ?_) (fun c_13 => ?_)
    · refine r_iconst d_Mm_treat_20 (v := 0) (by decide) ?_
      refine r_iconst d_Mm_treat_21 (v := 1) (by decide) ?_
      refine r_callV (As := [.int 0, .int 1]) (rest := []) (csC := [(m, .inr (12, [.int 0, .ref mp, .int pt, .ref mf, .ref mh, .ref mn, .ref mt, .ref mz, .ref mc_, .ref mq, .ref mgr, .int cl, .int wa, .int co_, .int fi, .int bu, .int ho, .ref ml, .ref mi, .ref mr, .int lh, .int mg, .int wd, .int fpi, .int fal, .ref mm, .ref mu, .ref mk, .ref mx, .long po, .long de]))]) (is := [0]) (q0 := 0) rfl rfl ln_Mm_103 w_im_Mm_fails w_se_Mm_fails ok_Mm_treat_Mm_fails d_Mm_treat_22 (C_Mm_fails0 g m mp mf mh mn mt mz mc_ mq mgr ml mi mr mm mu mk mx th pt cl wa co_ fi bu ho lh mg wd fpi fal po de 1) rfl rfl (Nat.le_of_ble_eq_true rfl) rfl (by decide) (by omega) (by omega) (fun E cs1 hx => ?_) (fun v cs1 hx => ?_)
      · exact absurd hx.1 (by simp)
      · obtain ⟨e1, rfl⟩ := hx
        cases e1
        refine ⟨rfl, ?_⟩
        refine r_st (st2 := [.int 0]) rfl ?_
        refine r_cs (cs2 := [(m, .inr (12, [.int 0, .ref mp, .int pt, .ref mf, .ref mh, .ref mn, .ref mt, .ref mz, .ref mc_, .ref mq, .ref mgr, .int cl, .int wa, .int co_, .int fi, .int bu, .int ho, .ref ml, .ref mi, .ref mr, .int lh, .int mg, .int wd, .int fpi, .int fal, .ref mm, .ref mu, .ref mk, .ref mx, .long po, .long de])), (mi, .inl (0, 4, .inl ir))]) rfl ?_
        refine r_if_ne (tgt := 74) d_Mm_treat_25 (by decide) (fun c_25 => ?_) (fun c_25 => ?_)
        · exact absurd c_25 (by decide)
        · refine r_aload_n d_Mm_treat_28 rfl 0 rfl ?_
          refine r_aload_n d_Mm_treat_29 rfl 0 rfl ?_
          refine r_get fs_Mm_62 d_Mm_treat_30 (q0 := 0) rfl rfl ?_
          refine r_iconst d_Mm_treat_33 (v := 1) (by decide) ?_
          refine r_iald d_Mm_treat_34 (q0 := 1) rfl (fun q => q.elim (by decide) (by decide)) (v := ir 1) rfl ?_
          refine r_if_ne (tgt := 42) d_Mm_treat_35 (by decide) (fun c_35 => ?_) (fun c_35 => ?_)
          · exact absurd h1 c_35
          · refine r_iconst d_Mm_treat_38 (v := 1) (by decide) ?_
            refine r_goto (tgt := 43) d_Mm_treat_39 (by decide) ?_
            refine r_iconst d_Mm_treat_43 (v := 2) (by decide) ?_
            refine r_callV (As := [.int 1, .int 2]) (rest := []) (csC := [(m, .inr (12, [.int 0, .ref mp, .int pt, .ref mf, .ref mh, .ref mn, .ref mt, .ref mz, .ref mc_, .ref mq, .ref mgr, .int cl, .int wa, .int co_, .int fi, .int bu, .int ho, .ref ml, .ref mi, .ref mr, .int lh, .int mg, .int wd, .int fpi, .int fal, .ref mm, .ref mu, .ref mk, .ref mx, .long po, .long de]))]) (is := [0]) (q0 := 0) rfl rfl ln_Mm_103 w_im_Mm_fails w_se_Mm_fails ok_Mm_treat_Mm_fails d_Mm_treat_44 (C_Mm_fails2 g m mp mf mh mn mt mz mc_ mq mgr ml mi mr mm mu mk mx th pt cl wa co_ fi bu ho lh mg wd fpi fal po de) rfl rfl (Nat.le_of_ble_eq_true rfl) rfl (by decide) (by omega) (by omega) (fun E cs1 hx => ?_) (fun v cs1 hx => ?_)
            · exact absurd hx.1 (by simp)
            · obtain ⟨e1, rfl⟩ := hx
              cases e1
              refine ⟨rfl, ?_⟩
              refine r_st (st2 := [.int 1]) rfl ?_
              refine r_cs (cs2 := [(m, .inr (12, [.int 2, .ref mp, .int pt, .ref mf, .ref mh, .ref mn, .ref mt, .ref mz, .ref mc_, .ref mq, .ref mgr, .int cl, .int wa, .int co_, .int fi, .int bu, .int ho, .ref ml, .ref mi, .ref mr, .int lh, .int mg, .int wd, .int fpi, .int fal, .ref mm, .ref mu, .ref mk, .ref mx, .long po, .long de])), (mi, .inl (0, 4, .inl ir))]) rfl ?_
              refine r_if_ne (tgt := 74) d_Mm_treat_47 (by decide) (fun c_47 => ?_) (fun c_47 => ?_)
              · refine r_iconst d_Mm_treat_74 (v := 0) (by decide) ?_
                refine r_iret d_Mm_treat_75 rfl rfl ?_
                exact ⟨rfl, rfl⟩
              · exact absurd c_47 (by decide)
    · exact absurd c_13 (by decide)
abbrev M_Mm_minutes : zM := (⟨"IronpourModel", "minutes", "(I)I"⟩, prog_14_method_64_code, 3, (Option.some FieldType.int), 4, 84, [])
theorem d_Mm_minutes_0 : decode prog_14_method_64_code 0 = .ok (.aload_n 0, 1) := zo_42 (zd_b zq_prog_14_method_64_code_0 0 rfl rfl rfl)
theorem d_Mm_minutes_1 : decode prog_14_method_64_code 1 = .ok (.iconst 0, 1) := zo_3 (zd_b zq_prog_14_method_64_code_0 1 rfl rfl rfl)
theorem d_Mm_minutes_2 : decode prog_14_method_64_code 2 = .ok (.putfield 84, 3) := zo_181 (d := 0) (e := 84) (zd_b zq_prog_14_method_64_code_0 2 rfl rfl rfl) (zd_b zq_prog_14_method_64_code_0 3 rfl rfl rfl) (zd_b zq_prog_14_method_64_code_0 4 rfl rfl rfl)
theorem d_Mm_minutes_5 : decode prog_14_method_64_code 5 = .ok (.aload_n 0, 1) := zo_42 (zd_b zq_prog_14_method_64_code_0 5 rfl rfl rfl)
theorem d_Mm_minutes_6 : decode prog_14_method_64_code 6 = .ok (.iload_n 1, 1) := zo_27 (zd_b zq_prog_14_method_64_code_0 6 rfl rfl rfl)
theorem d_Mm_minutes_7 : decode prog_14_method_64_code 7 = .ok (.iconst 1, 1) := zo_4 (zd_b zq_prog_14_method_64_code_0 7 rfl rfl rfl)
theorem d_Mm_minutes_8 : decode prog_14_method_64_code 8 = .ok (.bipush 60, 2) := zo_16 (d := 60) (zd_b zq_prog_14_method_64_code_0 8 rfl rfl rfl) (zd_b zq_prog_14_method_64_code_0 9 rfl rfl rfl) (by decide +kernel)
theorem d_Mm_minutes_10 : decode prog_14_method_64_code 10 = .ok (.invokestatic 87, 3) := zo_184 (d := 0) (e := 87) (zd_b zq_prog_14_method_64_code_0 10 rfl rfl rfl) (zd_b zq_prog_14_method_64_code_0 11 rfl rfl rfl) (zd_b zq_prog_14_method_64_code_0 12 rfl rfl rfl)
theorem ok_Mm_minutes_Mm_in : z_ok M_Mm_minutes M_Mm_in 3 := ⟨z_mj7 (i := 190) rfl (by decide +kernel), rfl, ⟨by decide +kernel, by decide +kernel, by decide +kernel⟩, ⟨by decide, by decide⟩, z_mj1 (i := 14) rfl (by decide +kernel), rfl⟩
theorem d_Mm_minutes_13 : decode prog_14_method_64_code 13 = .ok (.ifCond .ne 7, 3) := zo_154 (d := 0) (e := 7) (zd_b zq_prog_14_method_64_code_0 13 rfl rfl rfl) (zd_b zq_prog_14_method_64_code_0 14 rfl rfl rfl) (zd_b zq_prog_14_method_64_code_0 15 rfl rfl rfl) (by decide +kernel)
theorem d_Mm_minutes_16 : decode prog_14_method_64_code 16 = .ok (.iconst 1, 1) := zo_4 (zd_b zq_prog_14_method_64_code_0 16 rfl rfl rfl)
theorem d_Mm_minutes_17 : decode prog_14_method_64_code 17 = .ok (.goto 4, 3) := zo_167 (d := 0) (e := 4) (zd_b zq_prog_14_method_64_code_0 17 rfl rfl rfl) (zd_b zq_prog_14_method_64_code_0 18 rfl rfl rfl) (zd_b zq_prog_14_method_64_code_0 19 rfl rfl rfl) (by decide +kernel)
theorem d_Mm_minutes_21 : decode prog_14_method_64_code 21 = .ok (.iconst 1, 1) := zo_4 (zd_b zq_prog_14_method_64_code_0 21 rfl rfl rfl)
theorem d_Mm_minutes_22 : decode prog_14_method_64_code 22 = .ok (.invokevirtual 103, 3) := zo_182 (d := 0) (e := 103) (zd_b zq_prog_14_method_64_code_0 22 rfl rfl rfl) (zd_b zq_prog_14_method_64_code_0 23 rfl rfl rfl) (zd_b zq_prog_14_method_64_code_0 24 rfl rfl rfl)
theorem ok_Mm_minutes_Mm_fails : z_ok M_Mm_minutes M_Mm_fails 2 := ⟨z_mj7 (i := 196) rfl (by decide +kernel), rfl, ⟨by decide +kernel, by decide +kernel, by decide +kernel⟩, ⟨by decide, by decide⟩, z_mj1 (i := 14) rfl (by decide +kernel), rfl⟩
theorem d_Mm_minutes_25 : decode prog_14_method_64_code 25 = .ok (.ifCond .eq 5, 3) := zo_153 (d := 0) (e := 5) (zd_b zq_prog_14_method_64_code_0 25 rfl rfl rfl) (zd_b zq_prog_14_method_64_code_0 26 rfl rfl rfl) (zd_b zq_prog_14_method_64_code_0 27 rfl rfl rfl) (by decide +kernel)
theorem d_Mm_minutes_28 : decode prog_14_method_64_code 28 = .ok (.iconst 0, 1) := zo_3 (zd_b zq_prog_14_method_64_code_0 28 rfl rfl rfl)
theorem d_Mm_minutes_29 : decode prog_14_method_64_code 29 = .ok (.ireturn, 1) := zo_172 (zd_b zq_prog_14_method_64_code_0 29 rfl rfl rfl)
theorem d_Mm_minutes_20 : decode prog_14_method_64_code 20 = .ok (.iconst 0, 1) := zo_3 (zd_b zq_prog_14_method_64_code_0 20 rfl rfl rfl)
theorem d_Mm_minutes_30 : decode prog_14_method_64_code 30 = .ok (.iconst 0, 1) := zo_3 (zd_b zq_prog_14_method_64_code_0 30 rfl rfl rfl)
theorem d_Mm_minutes_31 : decode prog_14_method_64_code 31 = .ok (.istore_n 2, 1) := zo_61 (zd_b zq_prog_14_method_64_code_0 31 rfl rfl rfl)
theorem d_Mm_minutes_32 : decode prog_14_method_64_code 32 = .ok (.iload_n 2, 1) := zo_28 (zd_b zq_prog_14_method_64_code_1 0 rfl rfl rfl)
theorem d_Mm_minutes_33 : decode prog_14_method_64_code 33 = .ok (.iload_n 1, 1) := zo_27 (zd_b zq_prog_14_method_64_code_1 1 rfl rfl rfl)
theorem d_Mm_minutes_34 : decode prog_14_method_64_code 34 = .ok (.if_icmp .ge 52, 3) := zo_162 (d := 0) (e := 52) (zd_b zq_prog_14_method_64_code_1 2 rfl rfl rfl) (zd_b zq_prog_14_method_64_code_1 3 rfl rfl rfl) (zd_b zq_prog_14_method_64_code_1 4 rfl rfl rfl) (by decide +kernel)
theorem d_Mm_minutes_86 : decode prog_14_method_64_code 86 = .ok (.iconst 0, 1) := zo_3 (zd_b zq_prog_14_method_64_code_2 22 rfl rfl rfl)
theorem d_Mm_minutes_87 : decode prog_14_method_64_code 87 = .ok (.istore_n 2, 1) := zo_61 (zd_b zq_prog_14_method_64_code_2 23 rfl rfl rfl)
theorem d_Mm_minutes_88 : decode prog_14_method_64_code 88 = .ok (.iload_n 2, 1) := zo_28 (zd_b zq_prog_14_method_64_code_2 24 rfl rfl rfl)
theorem d_Mm_minutes_89 : decode prog_14_method_64_code 89 = .ok (.aload_n 0, 1) := zo_42 (zd_b zq_prog_14_method_64_code_2 25 rfl rfl rfl)
theorem d_Mm_minutes_90 : decode prog_14_method_64_code 90 = .ok (.getfield 75, 3) := zo_180 (d := 0) (e := 75) (zd_b zq_prog_14_method_64_code_2 26 rfl rfl rfl) (zd_b zq_prog_14_method_64_code_2 27 rfl rfl rfl) (zd_b zq_prog_14_method_64_code_2 28 rfl rfl rfl)
theorem fs_Mm_75 : z_fs "IronpourModel" 75 12 26 := ⟨R_Mm, "IronpourModel", F_Mm, 31, rfl, u_Mm, by decide, Or.inl ⟨z_mj7 (i := 109) rfl (by decide +kernel), Or.inl rfl⟩⟩
theorem d_Mm_minutes_93 : decode prog_14_method_64_code 93 = .ok (.invokevirtual 208, 3) := zo_182 (d := 0) (e := 208) (zd_b zq_prog_14_method_64_code_2 29 rfl rfl rfl) (zd_b zq_prog_14_method_64_code_2 30 rfl rfl rfl) (zd_b zq_prog_14_method_64_code_2 31 rfl rfl rfl)
theorem ok_Mm_minutes_AL_size : z_ok M_Mm_minutes M_AL_size 0 := ⟨z_mj2 (i := 172) rfl (by decide +kernel), rfl, ⟨by decide +kernel, by decide +kernel, by decide +kernel⟩, ⟨by decide, by decide⟩, z_mj1 (i := 13) rfl (by decide +kernel), rfl⟩
theorem d_Mm_minutes_96 : decode prog_14_method_64_code 96 = .ok (.if_icmp .ge 26, 3) := zo_162 (d := 0) (e := 26) (zd_b zq_prog_14_method_64_code_3 0 rfl rfl rfl) (zd_b zq_prog_14_method_64_code_3 1 rfl rfl rfl) (zd_b zq_prog_14_method_64_code_3 2 rfl rfl rfl) (by decide +kernel)
theorem d_Mm_minutes_122 : decode prog_14_method_64_code 122 = .ok (.aload_n 0, 1) := zo_42 (zd_b zq_prog_14_method_64_code_3 26 rfl rfl rfl)
theorem d_Mm_minutes_123 : decode prog_14_method_64_code 123 = .ok (.getfield 62, 3) := zo_180 (d := 0) (e := 62) (zd_b zq_prog_14_method_64_code_3 27 rfl rfl rfl) (zd_b zq_prog_14_method_64_code_3 28 rfl rfl rfl) (zd_b zq_prog_14_method_64_code_3 29 rfl rfl rfl)
theorem d_Mm_minutes_126 : decode prog_14_method_64_code 126 = .ok (.iconst 1, 1) := zo_4 (zd_b zq_prog_14_method_64_code_3 30 rfl rfl rfl)
theorem d_Mm_minutes_127 : decode prog_14_method_64_code 127 = .ok (.iaload, 1) := zo_46 (zd_b zq_prog_14_method_64_code_3 31 rfl rfl rfl)
theorem d_Mm_minutes_128 : decode prog_14_method_64_code 128 = .ok (.ifCond .ne 7, 3) := zo_154 (d := 0) (e := 7) (zd_b zq_prog_14_method_64_code_4 0 rfl rfl rfl) (zd_b zq_prog_14_method_64_code_4 1 rfl rfl rfl) (zd_b zq_prog_14_method_64_code_4 2 rfl rfl rfl) (by decide +kernel)
theorem d_Mm_minutes_131 : decode prog_14_method_64_code 131 = .ok (.iconst 0, 1) := zo_3 (zd_b zq_prog_14_method_64_code_4 3 rfl rfl rfl)
theorem d_Mm_minutes_132 : decode prog_14_method_64_code 132 = .ok (.goto 7, 3) := zo_167 (d := 0) (e := 7) (zd_b zq_prog_14_method_64_code_4 4 rfl rfl rfl) (zd_b zq_prog_14_method_64_code_4 5 rfl rfl rfl) (zd_b zq_prog_14_method_64_code_4 6 rfl rfl rfl) (by decide +kernel)
theorem d_Mm_minutes_139 : decode prog_14_method_64_code 139 = .ok (.ireturn, 1) := zo_172 (zd_b zq_prog_14_method_64_code_4 11 rfl rfl rfl)
theorem d_Mm_minutes_37 : decode prog_14_method_64_code 37 = .ok (.aload_n 0, 1) := zo_42 (zd_b zq_prog_14_method_64_code_1 5 rfl rfl rfl)
theorem d_Mm_minutes_38 : decode prog_14_method_64_code 38 = .ok (.getfield 62, 3) := zo_180 (d := 0) (e := 62) (zd_b zq_prog_14_method_64_code_1 6 rfl rfl rfl) (zd_b zq_prog_14_method_64_code_1 7 rfl rfl rfl) (zd_b zq_prog_14_method_64_code_1 8 rfl rfl rfl)
theorem d_Mm_minutes_41 : decode prog_14_method_64_code 41 = .ok (.iconst 1, 1) := zo_4 (zd_b zq_prog_14_method_64_code_1 9 rfl rfl rfl)
theorem d_Mm_minutes_42 : decode prog_14_method_64_code 42 = .ok (.iaload, 1) := zo_46 (zd_b zq_prog_14_method_64_code_1 10 rfl rfl rfl)
theorem d_Mm_minutes_43 : decode prog_14_method_64_code 43 = .ok (.ifCond .le 43, 3) := zo_158 (d := 0) (e := 43) (zd_b zq_prog_14_method_64_code_1 11 rfl rfl rfl) (zd_b zq_prog_14_method_64_code_1 12 rfl rfl rfl) (zd_b zq_prog_14_method_64_code_1 13 rfl rfl rfl) (by decide +kernel)
abbrev M_Mm_ladle : zM := (⟨"IronpourModel", "ladle", "(C)I"⟩, prog_14_method_65_code, 2, (Option.some FieldType.int), 8, 179, [])
theorem d_Mm_ladle_0 : decode prog_14_method_65_code 0 = .ok (.aload_n 0, 1) := zo_42 (zd_b zq_prog_14_method_65_code_0 0 rfl rfl rfl)
theorem d_Mm_ladle_1 : decode prog_14_method_65_code 1 = .ok (.iconst 0, 1) := zo_3 (zd_b zq_prog_14_method_65_code_0 1 rfl rfl rfl)
theorem d_Mm_ladle_2 : decode prog_14_method_65_code 2 = .ok (.putfield 84, 3) := zo_181 (d := 0) (e := 84) (zd_b zq_prog_14_method_65_code_0 2 rfl rfl rfl) (zd_b zq_prog_14_method_65_code_0 3 rfl rfl rfl) (zd_b zq_prog_14_method_65_code_0 4 rfl rfl rfl)
theorem d_Mm_ladle_5 : decode prog_14_method_65_code 5 = .ok (.aload_n 0, 1) := zo_42 (zd_b zq_prog_14_method_65_code_0 5 rfl rfl rfl)
theorem d_Mm_ladle_6 : decode prog_14_method_65_code 6 = .ok (.ldc_w 267, 3) := zo_19 (d := 1) (e := 11) (zd_b zq_prog_14_method_65_code_0 6 rfl rfl rfl) (zd_b zq_prog_14_method_65_code_0 7 rfl rfl rfl) (zd_b zq_prog_14_method_65_code_0 8 rfl rfl rfl)
theorem d_Mm_ladle_9 : decode prog_14_method_65_code 9 = .ok (.iload_n 1, 1) := zo_27 (zd_b zq_prog_14_method_65_code_0 9 rfl rfl rfl)
theorem d_Mm_ladle_10 : decode prog_14_method_65_code 10 = .ok (.invokevirtual 97, 3) := zo_182 (d := 0) (e := 97) (zd_b zq_prog_14_method_65_code_0 10 rfl rfl rfl) (zd_b zq_prog_14_method_65_code_0 11 rfl rfl rfl) (zd_b zq_prog_14_method_65_code_0 12 rfl rfl rfl)
theorem ok_Mm_ladle_String_indexOf_0 : z_ok M_Mm_ladle M_String_indexOf_0 1 := ⟨z_mj3 (i := 58) rfl (by decide +kernel), rfl, ⟨by decide +kernel, by decide +kernel, by decide +kernel⟩, ⟨by decide, by decide⟩, z_mj1 (i := 15) rfl (by decide +kernel), rfl⟩
theorem d_Mm_ladle_13 : decode prog_14_method_65_code 13 = .ok (.ifCond .ge 7, 3) := zo_156 (d := 0) (e := 7) (zd_b zq_prog_14_method_65_code_0 13 rfl rfl rfl) (zd_b zq_prog_14_method_65_code_0 14 rfl rfl rfl) (zd_b zq_prog_14_method_65_code_0 15 rfl rfl rfl) (by decide +kernel)
theorem d_Mm_ladle_16 : decode prog_14_method_65_code 16 = .ok (.iconst 1, 1) := zo_4 (zd_b zq_prog_14_method_65_code_0 16 rfl rfl rfl)
theorem d_Mm_ladle_17 : decode prog_14_method_65_code 17 = .ok (.goto 4, 3) := zo_167 (d := 0) (e := 4) (zd_b zq_prog_14_method_65_code_0 17 rfl rfl rfl) (zd_b zq_prog_14_method_65_code_0 18 rfl rfl rfl) (zd_b zq_prog_14_method_65_code_0 19 rfl rfl rfl) (by decide +kernel)
theorem d_Mm_ladle_21 : decode prog_14_method_65_code 21 = .ok (.iconst 1, 1) := zo_4 (zd_b zq_prog_14_method_65_code_0 21 rfl rfl rfl)
theorem d_Mm_ladle_22 : decode prog_14_method_65_code 22 = .ok (.invokevirtual 103, 3) := zo_182 (d := 0) (e := 103) (zd_b zq_prog_14_method_65_code_0 22 rfl rfl rfl) (zd_b zq_prog_14_method_65_code_0 23 rfl rfl rfl) (zd_b zq_prog_14_method_65_code_0 24 rfl rfl rfl)
theorem ok_Mm_ladle_Mm_fails : z_ok M_Mm_ladle M_Mm_fails 2 := ⟨z_mj7 (i := 196) rfl (by decide +kernel), rfl, ⟨by decide +kernel, by decide +kernel, by decide +kernel⟩, ⟨by decide, by decide⟩, z_mj1 (i := 14) rfl (by decide +kernel), rfl⟩
theorem d_Mm_ladle_25 : decode prog_14_method_65_code 25 = .ok (.ifCond .eq 5, 3) := zo_153 (d := 0) (e := 5) (zd_b zq_prog_14_method_65_code_0 25 rfl rfl rfl) (zd_b zq_prog_14_method_65_code_0 26 rfl rfl rfl) (zd_b zq_prog_14_method_65_code_0 27 rfl rfl rfl) (by decide +kernel)
theorem d_Mm_ladle_28 : decode prog_14_method_65_code 28 = .ok (.iconst 0, 1) := zo_3 (zd_b zq_prog_14_method_65_code_0 28 rfl rfl rfl)
theorem d_Mm_ladle_29 : decode prog_14_method_65_code 29 = .ok (.ireturn, 1) := zo_172 (zd_b zq_prog_14_method_65_code_0 29 rfl rfl rfl)
set_option maxHeartbeats 4000000 in
set_option maxRecDepth 100000 in
theorem C_Mm_ladleE (g : zG) (m mp mf mh mn mt mz mc_ mq mgr ml mi mr mm mu mk mx : Nat) (th pt cl wa co_ fi bu ho lh mg wd fpi fal : Int32) (po de : Int64) (w : Int32) (hw : z_ix 3 w < 0) : CT g M_Mm_ladle [.ref m, .int w] [(m, .inr (12, [.int th, .ref mp, .int pt, .ref mf, .ref mh, .ref mn, .ref mt, .ref mz, .ref mc_, .ref mq, .ref mgr, .int cl, .int wa, .int co_, .int fi, .int bu, .int ho, .ref ml, .ref mi, .ref mr, .int lh, .int mg, .int wd, .int fpi, .int fal, .ref mm, .ref mu, .ref mk, .ref mx, .long po, .long de]))] (fun o cs1 => o = .inl (some (.int 0)) ∧ cs1 = [(m, .inr (12, [.int 1, .ref mp, .int pt, .ref mf, .ref mh, .ref mn, .ref mt, .ref mz, .ref mc_, .ref mq, .ref mgr, .int cl, .int wa, .int co_, .int fi, .int bu, .int ho, .ref ml, .ref mi, .ref mr, .int lh, .int mg, .int wd, .int fpi, .int fal, .ref mm, .ref mu, .ref mk, .ref mx, .long po, .long de]))]) 0 0 := by
  refine z_of (by decide) rfl (Nat.le_of_ble_eq_true rfl) (fun w0 => ?_)
  refine r_lvE (lv2 := [(0, .ref m), (1, .int w)]) rfl ?_
  refine r_aload_n d_Mm_ladle_0 rfl 0 rfl ?_
  refine r_iconst d_Mm_ladle_1 (v := 0) (by decide) ?_
  refine r_put fp_Mm_84 d_Mm_ladle_2 (fun h => nomatch h) rfl rfl (q0 := 0) rfl (Nat.le_of_ble_eq_true rfl) (cs' := [(m, .inr (12, [.int 0, .ref mp, .int pt, .ref mf, .ref mh, .ref mn, .ref mt, .ref mz, .ref mc_, .ref mq, .ref mgr, .int cl, .int wa, .int co_, .int fi, .int bu, .int ho, .ref ml, .ref mi, .ref mr, .int lh, .int mg, .int wd, .int fpi, .int fal, .ref mm, .ref mu, .ref mk, .ref mx, .long po, .long de]))]) rfl ?_
  refine r_aload_n d_Mm_ladle_5 rfl 0 rfl ?_
  refine r_ldcWS (own := "IronpourModel") (i := 3) (by decide) d_Mm_ladle_6 ?_
  refine r_iload_n d_Mm_ladle_9 rfl 1 rfl ?_
  refine r_callVS (As := [.int w]) (rest := [.ref m]) (csC := []) (is := []) (i := 3) (by first | assumption | decide) rfl ln_Mm_97 w_im_String_indexOf_0 w_se_String_indexOf_0 ok_Mm_ladle_String_indexOf_0 d_Mm_ladle_10 (C_St_indexOf g 3 (by decide) w) rfl rfl (Nat.le_of_ble_eq_true rfl) rfl (by decide) (by omega) (by omega) (fun E cs1 hx => ?_) (fun v cs1 hx => ?_)
  · exact absurd hx.1 (by simp)
  · obtain ⟨e1, rfl⟩ := hx
    cases e1
    refine ⟨rfl, ?_⟩
    refine r_st (st2 := [.int (z_ix 3 w), .ref m]) rfl ?_
    refine r_cs (cs2 := [(m, .inr (12, [.int 0, .ref mp, .int pt, .ref mf, .ref mh, .ref mn, .ref mt, .ref mz, .ref mc_, .ref mq, .ref mgr, .int cl, .int wa, .int co_, .int fi, .int bu, .int ho, .ref ml, .ref mi, .ref mr, .int lh, .int mg, .int wd, .int fpi, .int fal, .ref mm, .ref mu, .ref mk, .ref mx, .long po, .long de]))]) rfl ?_
    refine r_if_ge (tgt := 20) d_Mm_ladle_13 (by decide) (fun c_13 => ?_) (fun c_13 => ?_)
    · exact absurd hw (Int32.not_lt.mpr c_13)
    · refine r_iconst d_Mm_ladle_16 (v := 1) (by decide) ?_
      refine r_goto (tgt := 21) d_Mm_ladle_17 (by decide) ?_
      refine r_iconst d_Mm_ladle_21 (v := 1) (by decide) ?_
      refine r_callV (As := [.int 1, .int 1]) (rest := []) (csC := [(m, .inr (12, [.int 0, .ref mp, .int pt, .ref mf, .ref mh, .ref mn, .ref mt, .ref mz, .ref mc_, .ref mq, .ref mgr, .int cl, .int wa, .int co_, .int fi, .int bu, .int ho, .ref ml, .ref mi, .ref mr, .int lh, .int mg, .int wd, .int fpi, .int fal, .ref mm, .ref mu, .ref mk, .ref mx, .long po, .long de]))]) (is := [0]) (q0 := 0) rfl rfl ln_Mm_103 w_im_Mm_fails w_se_Mm_fails ok_Mm_ladle_Mm_fails d_Mm_ladle_22 (C_Mm_fails1 g m mp mf mh mn mt mz mc_ mq mgr ml mi mr mm mu mk mx th pt cl wa co_ fi bu ho lh mg wd fpi fal po de) rfl rfl (Nat.le_of_ble_eq_true rfl) rfl (by decide) (by omega) (by omega) (fun E cs1 hx => ?_) (fun v cs1 hx => ?_)
      · exact absurd hx.1 (by simp)
      · obtain ⟨e1, rfl⟩ := hx
        cases e1
        refine ⟨rfl, ?_⟩
        refine r_st (st2 := [.int 1]) rfl ?_
        refine r_cs (cs2 := [(m, .inr (12, [.int 1, .ref mp, .int pt, .ref mf, .ref mh, .ref mn, .ref mt, .ref mz, .ref mc_, .ref mq, .ref mgr, .int cl, .int wa, .int co_, .int fi, .int bu, .int ho, .ref ml, .ref mi, .ref mr, .int lh, .int mg, .int wd, .int fpi, .int fal, .ref mm, .ref mu, .ref mk, .ref mx, .long po, .long de]))]) rfl ?_
        refine r_if_eq (tgt := 30) d_Mm_ladle_25 (by decide) (fun c_25 => ?_) (fun c_25 => ?_)
        · exact absurd c_25 (by decide)
        · refine r_iconst d_Mm_ladle_28 (v := 0) (by decide) ?_
          refine r_iret d_Mm_ladle_29 rfl rfl ?_
          exact ⟨rfl, rfl⟩
theorem d_Mm_ladle_20 : decode prog_14_method_65_code 20 = .ok (.iconst 0, 1) := zo_3 (zd_b zq_prog_14_method_65_code_0 20 rfl rfl rfl)
theorem d_Mm_ladle_30 : decode prog_14_method_65_code 30 = .ok (.aload_n 0, 1) := zo_42 (zd_b zq_prog_14_method_65_code_0 30 rfl rfl rfl)
theorem d_Mm_ladle_31 : decode prog_14_method_65_code 31 = .ok (.getfield 62, 3) := zo_180 (d := 0) (e := 62) (zd_b zq_prog_14_method_65_code_0 31 rfl rfl rfl) (zd_b zq_prog_14_method_65_code_1 0 rfl rfl rfl) (zd_b zq_prog_14_method_65_code_1 1 rfl rfl rfl)
theorem d_Mm_ladle_34 : decode prog_14_method_65_code 34 = .ok (.iconst 1, 1) := zo_4 (zd_b zq_prog_14_method_65_code_1 2 rfl rfl rfl)
theorem d_Mm_ladle_35 : decode prog_14_method_65_code 35 = .ok (.iaload, 1) := zo_46 (zd_b zq_prog_14_method_65_code_1 3 rfl rfl rfl)
theorem d_Mm_ladle_36 : decode prog_14_method_65_code 36 = .ok (.ifCond .ne 7, 3) := zo_154 (d := 0) (e := 7) (zd_b zq_prog_14_method_65_code_1 4 rfl rfl rfl) (zd_b zq_prog_14_method_65_code_1 5 rfl rfl rfl) (zd_b zq_prog_14_method_65_code_1 6 rfl rfl rfl) (by decide +kernel)
theorem d_Mm_ladle_39 : decode prog_14_method_65_code 39 = .ok (.iconst 0, 1) := zo_3 (zd_b zq_prog_14_method_65_code_1 7 rfl rfl rfl)
theorem d_Mm_ladle_40 : decode prog_14_method_65_code 40 = .ok (.goto 35, 3) := zo_167 (d := 0) (e := 35) (zd_b zq_prog_14_method_65_code_1 8 rfl rfl rfl) (zd_b zq_prog_14_method_65_code_1 9 rfl rfl rfl) (zd_b zq_prog_14_method_65_code_1 10 rfl rfl rfl) (by decide +kernel)
theorem d_Mm_ladle_75 : decode prog_14_method_65_code 75 = .ok (.ireturn, 1) := zo_172 (zd_b zq_prog_14_method_65_code_2 11 rfl rfl rfl)
set_option maxHeartbeats 4000000 in
set_option maxRecDepth 100000 in
theorem C_Mm_ladle0 (g : zG) (m mp mf mh mn mt mz mc_ mq mgr ml mi mr mm mu mk mx : Nat) (th pt cl wa co_ fi bu ho lh mg wd fpi fal : Int32) (po de : Int64) (ir : Nat → Int32) (w : Int32) (hw : ¬ z_ix 3 w < 0) (h1 : ir 1 = 0) : CT g M_Mm_ladle [.ref m, .int w] [(m, .inr (12, [.int th, .ref mp, .int pt, .ref mf, .ref mh, .ref mn, .ref mt, .ref mz, .ref mc_, .ref mq, .ref mgr, .int cl, .int wa, .int co_, .int fi, .int bu, .int ho, .ref ml, .ref mi, .ref mr, .int lh, .int mg, .int wd, .int fpi, .int fal, .ref mm, .ref mu, .ref mk, .ref mx, .long po, .long de])), (mi, .inl (0, 4, .inl ir))] (fun o cs1 => o = .inl (some (.int 0)) ∧ cs1 = [(m, .inr (12, [.int 0, .ref mp, .int pt, .ref mf, .ref mh, .ref mn, .ref mt, .ref mz, .ref mc_, .ref mq, .ref mgr, .int cl, .int wa, .int co_, .int fi, .int bu, .int ho, .ref ml, .ref mi, .ref mr, .int lh, .int mg, .int wd, .int fpi, .int fal, .ref mm, .ref mu, .ref mk, .ref mx, .long po, .long de])), (mi, .inl (0, 4, .inl ir))]) 0 0 := by
  refine z_of (by decide) rfl (Nat.le_of_ble_eq_true rfl) (fun w0 => ?_)
  refine r_lvE (lv2 := [(0, .ref m), (1, .int w)]) rfl ?_
  refine r_aload_n d_Mm_ladle_0 rfl 0 rfl ?_
  refine r_iconst d_Mm_ladle_1 (v := 0) (by decide) ?_
  refine r_put fp_Mm_84 d_Mm_ladle_2 (fun h => nomatch h) rfl rfl (q0 := 0) rfl (Nat.le_of_ble_eq_true rfl) (cs' := [(m, .inr (12, [.int 0, .ref mp, .int pt, .ref mf, .ref mh, .ref mn, .ref mt, .ref mz, .ref mc_, .ref mq, .ref mgr, .int cl, .int wa, .int co_, .int fi, .int bu, .int ho, .ref ml, .ref mi, .ref mr, .int lh, .int mg, .int wd, .int fpi, .int fal, .ref mm, .ref mu, .ref mk, .ref mx, .long po, .long de])), (mi, .inl (0, 4, .inl ir))]) rfl ?_
  refine r_aload_n d_Mm_ladle_5 rfl 0 rfl ?_
  refine r_ldcWS (own := "IronpourModel") (i := 3) (by decide) d_Mm_ladle_6 ?_
  refine r_iload_n d_Mm_ladle_9 rfl 1 rfl ?_
  refine r_callVS (As := [.int w]) (rest := [.ref m]) (csC := []) (is := []) (i := 3) (by first | assumption | decide) rfl ln_Mm_97 w_im_String_indexOf_0 w_se_String_indexOf_0 ok_Mm_ladle_String_indexOf_0 d_Mm_ladle_10 (C_St_indexOf g 3 (by decide) w) rfl rfl (Nat.le_of_ble_eq_true rfl) rfl (by decide) (by omega) (by omega) (fun E cs1 hx => ?_) (fun v cs1 hx => ?_)
  · exact absurd hx.1 (by simp)
  · obtain ⟨e1, rfl⟩ := hx
    cases e1
    refine ⟨rfl, ?_⟩
    refine r_st (st2 := [.int (z_ix 3 w), .ref m]) rfl ?_
    refine r_cs (cs2 := [(m, .inr (12, [.int 0, .ref mp, .int pt, .ref mf, .ref mh, .ref mn, .ref mt, .ref mz, .ref mc_, .ref mq, .ref mgr, .int cl, .int wa, .int co_, .int fi, .int bu, .int ho, .ref ml, .ref mi, .ref mr, .int lh, .int mg, .int wd, .int fpi, .int fal, .ref mm, .ref mu, .ref mk, .ref mx, .long po, .long de])), (mi, .inl (0, 4, .inl ir))]) rfl ?_
    refine r_if_ge (tgt := 20) d_Mm_ladle_13 (by decide) (fun c_13 => ?_) (fun c_13 => ?_)
    · refine r_iconst d_Mm_ladle_20 (v := 0) (by decide) ?_
      refine r_iconst d_Mm_ladle_21 (v := 1) (by decide) ?_
      refine r_callV (As := [.int 0, .int 1]) (rest := []) (csC := [(m, .inr (12, [.int 0, .ref mp, .int pt, .ref mf, .ref mh, .ref mn, .ref mt, .ref mz, .ref mc_, .ref mq, .ref mgr, .int cl, .int wa, .int co_, .int fi, .int bu, .int ho, .ref ml, .ref mi, .ref mr, .int lh, .int mg, .int wd, .int fpi, .int fal, .ref mm, .ref mu, .ref mk, .ref mx, .long po, .long de]))]) (is := [0]) (q0 := 0) rfl rfl ln_Mm_103 w_im_Mm_fails w_se_Mm_fails ok_Mm_ladle_Mm_fails d_Mm_ladle_22 (C_Mm_fails0 g m mp mf mh mn mt mz mc_ mq mgr ml mi mr mm mu mk mx th pt cl wa co_ fi bu ho lh mg wd fpi fal po de 1) rfl rfl (Nat.le_of_ble_eq_true rfl) rfl (by decide) (by omega) (by omega) (fun E cs1 hx => ?_) (fun v cs1 hx => ?_)
      · exact absurd hx.1 (by simp)
      · obtain ⟨e1, rfl⟩ := hx
        cases e1
        refine ⟨rfl, ?_⟩
        refine r_st (st2 := [.int 0]) rfl ?_
        refine r_cs (cs2 := [(m, .inr (12, [.int 0, .ref mp, .int pt, .ref mf, .ref mh, .ref mn, .ref mt, .ref mz, .ref mc_, .ref mq, .ref mgr, .int cl, .int wa, .int co_, .int fi, .int bu, .int ho, .ref ml, .ref mi, .ref mr, .int lh, .int mg, .int wd, .int fpi, .int fal, .ref mm, .ref mu, .ref mk, .ref mx, .long po, .long de])), (mi, .inl (0, 4, .inl ir))]) rfl ?_
        refine r_if_eq (tgt := 30) d_Mm_ladle_25 (by decide) (fun c_25 => ?_) (fun c_25 => ?_)
        · refine r_aload_n d_Mm_ladle_30 rfl 0 rfl ?_
          refine r_get fs_Mm_62 d_Mm_ladle_31 (q0 := 0) rfl rfl ?_
          refine r_iconst d_Mm_ladle_34 (v := 1) (by decide) ?_
          refine r_iald d_Mm_ladle_35 (q0 := 1) rfl (fun q => q.elim (by decide) (by decide)) (v := ir 1) rfl ?_
          refine r_if_ne (tgt := 43) d_Mm_ladle_36 (by decide) (fun c_36 => ?_) (fun c_36 => ?_)
          · exact absurd h1 c_36
          · refine r_iconst d_Mm_ladle_39 (v := 0) (by decide) ?_
            refine r_goto (tgt := 75) d_Mm_ladle_40 (by decide) ?_
            refine r_iret d_Mm_ladle_75 rfl rfl ?_
            exact ⟨rfl, rfl⟩
        · exact absurd c_25 (by decide)
    · exact absurd (Int32.not_le.mp c_13) hw
abbrev M_Mm_pig : zM := (⟨"IronpourModel", "pig", "()I"⟩, prog_14_method_66_code, 2, (Option.some FieldType.int), 2, 47, [])
theorem d_Mm_pig_0 : decode prog_14_method_66_code 0 = .ok (.aload_n 0, 1) := zo_42 (zd_b zq_prog_14_method_66_code_0 0 rfl rfl rfl)
theorem d_Mm_pig_1 : decode prog_14_method_66_code 1 = .ok (.iconst 0, 1) := zo_3 (zd_b zq_prog_14_method_66_code_0 1 rfl rfl rfl)
theorem d_Mm_pig_2 : decode prog_14_method_66_code 2 = .ok (.putfield 84, 3) := zo_181 (d := 0) (e := 84) (zd_b zq_prog_14_method_66_code_0 2 rfl rfl rfl) (zd_b zq_prog_14_method_66_code_0 3 rfl rfl rfl) (zd_b zq_prog_14_method_66_code_0 4 rfl rfl rfl)
theorem d_Mm_pig_5 : decode prog_14_method_66_code 5 = .ok (.aload_n 0, 1) := zo_42 (zd_b zq_prog_14_method_66_code_0 5 rfl rfl rfl)
theorem d_Mm_pig_6 : decode prog_14_method_66_code 6 = .ok (.aload_n 0, 1) := zo_42 (zd_b zq_prog_14_method_66_code_0 6 rfl rfl rfl)
theorem d_Mm_pig_7 : decode prog_14_method_66_code 7 = .ok (.getfield 62, 3) := zo_180 (d := 0) (e := 62) (zd_b zq_prog_14_method_66_code_0 7 rfl rfl rfl) (zd_b zq_prog_14_method_66_code_0 8 rfl rfl rfl) (zd_b zq_prog_14_method_66_code_0 9 rfl rfl rfl)
theorem d_Mm_pig_10 : decode prog_14_method_66_code 10 = .ok (.iconst 1, 1) := zo_4 (zd_b zq_prog_14_method_66_code_0 10 rfl rfl rfl)
theorem d_Mm_pig_11 : decode prog_14_method_66_code 11 = .ok (.iaload, 1) := zo_46 (zd_b zq_prog_14_method_66_code_0 11 rfl rfl rfl)
theorem d_Mm_pig_12 : decode prog_14_method_66_code 12 = .ok (.ifCond .ne 7, 3) := zo_154 (d := 0) (e := 7) (zd_b zq_prog_14_method_66_code_0 12 rfl rfl rfl) (zd_b zq_prog_14_method_66_code_0 13 rfl rfl rfl) (zd_b zq_prog_14_method_66_code_0 14 rfl rfl rfl) (by decide +kernel)
theorem d_Mm_pig_15 : decode prog_14_method_66_code 15 = .ok (.iconst 1, 1) := zo_4 (zd_b zq_prog_14_method_66_code_0 15 rfl rfl rfl)
theorem d_Mm_pig_16 : decode prog_14_method_66_code 16 = .ok (.goto 4, 3) := zo_167 (d := 0) (e := 4) (zd_b zq_prog_14_method_66_code_0 16 rfl rfl rfl) (zd_b zq_prog_14_method_66_code_0 17 rfl rfl rfl) (zd_b zq_prog_14_method_66_code_0 18 rfl rfl rfl) (by decide +kernel)
theorem d_Mm_pig_20 : decode prog_14_method_66_code 20 = .ok (.iconst 1, 1) := zo_4 (zd_b zq_prog_14_method_66_code_0 20 rfl rfl rfl)
theorem d_Mm_pig_21 : decode prog_14_method_66_code 21 = .ok (.invokevirtual 103, 3) := zo_182 (d := 0) (e := 103) (zd_b zq_prog_14_method_66_code_0 21 rfl rfl rfl) (zd_b zq_prog_14_method_66_code_0 22 rfl rfl rfl) (zd_b zq_prog_14_method_66_code_0 23 rfl rfl rfl)
theorem ok_Mm_pig_Mm_fails : z_ok M_Mm_pig M_Mm_fails 2 := ⟨z_mj7 (i := 196) rfl (by decide +kernel), rfl, ⟨by decide +kernel, by decide +kernel, by decide +kernel⟩, ⟨by decide, by decide⟩, z_mj1 (i := 14) rfl (by decide +kernel), rfl⟩
theorem d_Mm_pig_24 : decode prog_14_method_66_code 24 = .ok (.ifCond .eq 5, 3) := zo_153 (d := 0) (e := 5) (zd_b zq_prog_14_method_66_code_0 24 rfl rfl rfl) (zd_b zq_prog_14_method_66_code_0 25 rfl rfl rfl) (zd_b zq_prog_14_method_66_code_0 26 rfl rfl rfl) (by decide +kernel)
theorem d_Mm_pig_27 : decode prog_14_method_66_code 27 = .ok (.iconst 0, 1) := zo_3 (zd_b zq_prog_14_method_66_code_0 27 rfl rfl rfl)
theorem d_Mm_pig_28 : decode prog_14_method_66_code 28 = .ok (.ireturn, 1) := zo_172 (zd_b zq_prog_14_method_66_code_0 28 rfl rfl rfl)
set_option maxHeartbeats 4000000 in
set_option maxRecDepth 100000 in
theorem C_Mm_pigE (g : zG) (m mp mf mh mn mt mz mc_ mq mgr ml mi mr mm mu mk mx : Nat) (th pt cl wa co_ fi bu ho lh mg wd fpi fal : Int32) (po de : Int64) (ir : Nat → Int32) (h1 : ir 1 = 0) : CT g M_Mm_pig [.ref m] [(m, .inr (12, [.int th, .ref mp, .int pt, .ref mf, .ref mh, .ref mn, .ref mt, .ref mz, .ref mc_, .ref mq, .ref mgr, .int cl, .int wa, .int co_, .int fi, .int bu, .int ho, .ref ml, .ref mi, .ref mr, .int lh, .int mg, .int wd, .int fpi, .int fal, .ref mm, .ref mu, .ref mk, .ref mx, .long po, .long de])), (mi, .inl (0, 4, .inl ir))] (fun o cs1 => o = .inl (some (.int 0)) ∧ cs1 = [(m, .inr (12, [.int 1, .ref mp, .int pt, .ref mf, .ref mh, .ref mn, .ref mt, .ref mz, .ref mc_, .ref mq, .ref mgr, .int cl, .int wa, .int co_, .int fi, .int bu, .int ho, .ref ml, .ref mi, .ref mr, .int lh, .int mg, .int wd, .int fpi, .int fal, .ref mm, .ref mu, .ref mk, .ref mx, .long po, .long de])), (mi, .inl (0, 4, .inl ir))]) 0 0 := by
  refine z_of (by decide) rfl (Nat.le_of_ble_eq_true rfl) (fun w0 => ?_)
  refine r_lvE (lv2 := [(0, .ref m)]) rfl ?_
  refine r_aload_n d_Mm_pig_0 rfl 0 rfl ?_
  refine r_iconst d_Mm_pig_1 (v := 0) (by decide) ?_
  refine r_put fp_Mm_84 d_Mm_pig_2 (fun h => nomatch h) rfl rfl (q0 := 0) rfl (Nat.le_of_ble_eq_true rfl) (cs' := [(m, .inr (12, [.int 0, .ref mp, .int pt, .ref mf, .ref mh, .ref mn, .ref mt, .ref mz, .ref mc_, .ref mq, .ref mgr, .int cl, .int wa, .int co_, .int fi, .int bu, .int ho, .ref ml, .ref mi, .ref mr, .int lh, .int mg, .int wd, .int fpi, .int fal, .ref mm, .ref mu, .ref mk, .ref mx, .long po, .long de])), (mi, .inl (0, 4, .inl ir))]) rfl ?_
  refine r_aload_n d_Mm_pig_5 rfl 0 rfl ?_
  refine r_aload_n d_Mm_pig_6 rfl 0 rfl ?_
  refine r_get fs_Mm_62 d_Mm_pig_7 (q0 := 0) rfl rfl ?_
  refine r_iconst d_Mm_pig_10 (v := 1) (by decide) ?_
  refine r_iald d_Mm_pig_11 (q0 := 1) rfl (fun q => q.elim (by decide) (by decide)) (v := ir 1) rfl ?_
  refine r_if_ne (tgt := 19) d_Mm_pig_12 (by decide) (fun c_12 => ?_) (fun c_12 => ?_)
  · exact absurd h1 c_12
  · refine r_iconst d_Mm_pig_15 (v := 1) (by decide) ?_
    refine r_goto (tgt := 20) d_Mm_pig_16 (by decide) ?_
    refine r_iconst d_Mm_pig_20 (v := 1) (by decide) ?_
    refine r_callV (As := [.int 1, .int 1]) (rest := []) (csC := [(m, .inr (12, [.int 0, .ref mp, .int pt, .ref mf, .ref mh, .ref mn, .ref mt, .ref mz, .ref mc_, .ref mq, .ref mgr, .int cl, .int wa, .int co_, .int fi, .int bu, .int ho, .ref ml, .ref mi, .ref mr, .int lh, .int mg, .int wd, .int fpi, .int fal, .ref mm, .ref mu, .ref mk, .ref mx, .long po, .long de]))]) (is := [0]) (q0 := 0) rfl rfl ln_Mm_103 w_im_Mm_fails w_se_Mm_fails ok_Mm_pig_Mm_fails d_Mm_pig_21 (C_Mm_fails1 g m mp mf mh mn mt mz mc_ mq mgr ml mi mr mm mu mk mx th pt cl wa co_ fi bu ho lh mg wd fpi fal po de) rfl rfl (Nat.le_of_ble_eq_true rfl) rfl (by decide) (by omega) (by omega) (fun E cs1 hx => ?_) (fun v cs1 hx => ?_)
    · exact absurd hx.1 (by simp)
    · obtain ⟨e1, rfl⟩ := hx
      cases e1
      refine ⟨rfl, ?_⟩
      refine r_st (st2 := [.int 1]) rfl ?_
      refine r_cs (cs2 := [(m, .inr (12, [.int 1, .ref mp, .int pt, .ref mf, .ref mh, .ref mn, .ref mt, .ref mz, .ref mc_, .ref mq, .ref mgr, .int cl, .int wa, .int co_, .int fi, .int bu, .int ho, .ref ml, .ref mi, .ref mr, .int lh, .int mg, .int wd, .int fpi, .int fal, .ref mm, .ref mu, .ref mk, .ref mx, .long po, .long de])), (mi, .inl (0, 4, .inl ir))]) rfl ?_
      refine r_if_eq (tgt := 29) d_Mm_pig_24 (by decide) (fun c_24 => ?_) (fun c_24 => ?_)
      · exact absurd c_24 (by decide)
      · refine r_iconst d_Mm_pig_27 (v := 0) (by decide) ?_
        refine r_iret d_Mm_pig_28 rfl rfl ?_
        exact ⟨rfl, rfl⟩
abbrev M_Mm_cheapest : zM := (⟨"IronpourModel", "cheapest", "(C)I"⟩, prog_14_method_72_code, 2, (Option.some FieldType.int), 8, 179, [])
theorem d_Mm_cheapest_0 : decode prog_14_method_72_code 0 = .ok (.aload_n 0, 1) := zo_42 (zd_b zq_prog_14_method_72_code_0 0 rfl rfl rfl)
theorem d_Mm_cheapest_1 : decode prog_14_method_72_code 1 = .ok (.iconst 0, 1) := zo_3 (zd_b zq_prog_14_method_72_code_0 1 rfl rfl rfl)
theorem d_Mm_cheapest_2 : decode prog_14_method_72_code 2 = .ok (.putfield 84, 3) := zo_181 (d := 0) (e := 84) (zd_b zq_prog_14_method_72_code_0 2 rfl rfl rfl) (zd_b zq_prog_14_method_72_code_0 3 rfl rfl rfl) (zd_b zq_prog_14_method_72_code_0 4 rfl rfl rfl)
theorem d_Mm_cheapest_5 : decode prog_14_method_72_code 5 = .ok (.aload_n 0, 1) := zo_42 (zd_b zq_prog_14_method_72_code_0 5 rfl rfl rfl)
theorem d_Mm_cheapest_6 : decode prog_14_method_72_code 6 = .ok (.ldc_w 279, 3) := zo_19 (d := 1) (e := 23) (zd_b zq_prog_14_method_72_code_0 6 rfl rfl rfl) (zd_b zq_prog_14_method_72_code_0 7 rfl rfl rfl) (zd_b zq_prog_14_method_72_code_0 8 rfl rfl rfl)
theorem d_Mm_cheapest_9 : decode prog_14_method_72_code 9 = .ok (.iload_n 1, 1) := zo_27 (zd_b zq_prog_14_method_72_code_0 9 rfl rfl rfl)
theorem d_Mm_cheapest_10 : decode prog_14_method_72_code 10 = .ok (.invokevirtual 97, 3) := zo_182 (d := 0) (e := 97) (zd_b zq_prog_14_method_72_code_0 10 rfl rfl rfl) (zd_b zq_prog_14_method_72_code_0 11 rfl rfl rfl) (zd_b zq_prog_14_method_72_code_0 12 rfl rfl rfl)
theorem ok_Mm_cheapest_String_indexOf_0 : z_ok M_Mm_cheapest M_String_indexOf_0 1 := ⟨z_mj3 (i := 58) rfl (by decide +kernel), rfl, ⟨by decide +kernel, by decide +kernel, by decide +kernel⟩, ⟨by decide, by decide⟩, z_mj1 (i := 15) rfl (by decide +kernel), rfl⟩
theorem d_Mm_cheapest_13 : decode prog_14_method_72_code 13 = .ok (.ifCond .ge 7, 3) := zo_156 (d := 0) (e := 7) (zd_b zq_prog_14_method_72_code_0 13 rfl rfl rfl) (zd_b zq_prog_14_method_72_code_0 14 rfl rfl rfl) (zd_b zq_prog_14_method_72_code_0 15 rfl rfl rfl) (by decide +kernel)
theorem d_Mm_cheapest_16 : decode prog_14_method_72_code 16 = .ok (.iconst 1, 1) := zo_4 (zd_b zq_prog_14_method_72_code_0 16 rfl rfl rfl)
theorem d_Mm_cheapest_17 : decode prog_14_method_72_code 17 = .ok (.goto 4, 3) := zo_167 (d := 0) (e := 4) (zd_b zq_prog_14_method_72_code_0 17 rfl rfl rfl) (zd_b zq_prog_14_method_72_code_0 18 rfl rfl rfl) (zd_b zq_prog_14_method_72_code_0 19 rfl rfl rfl) (by decide +kernel)
theorem d_Mm_cheapest_21 : decode prog_14_method_72_code 21 = .ok (.iconst 1, 1) := zo_4 (zd_b zq_prog_14_method_72_code_0 21 rfl rfl rfl)
theorem d_Mm_cheapest_22 : decode prog_14_method_72_code 22 = .ok (.invokevirtual 103, 3) := zo_182 (d := 0) (e := 103) (zd_b zq_prog_14_method_72_code_0 22 rfl rfl rfl) (zd_b zq_prog_14_method_72_code_0 23 rfl rfl rfl) (zd_b zq_prog_14_method_72_code_0 24 rfl rfl rfl)
theorem ok_Mm_cheapest_Mm_fails : z_ok M_Mm_cheapest M_Mm_fails 2 := ⟨z_mj7 (i := 196) rfl (by decide +kernel), rfl, ⟨by decide +kernel, by decide +kernel, by decide +kernel⟩, ⟨by decide, by decide⟩, z_mj1 (i := 14) rfl (by decide +kernel), rfl⟩
theorem d_Mm_cheapest_25 : decode prog_14_method_72_code 25 = .ok (.ifCond .ne 24, 3) := zo_154 (d := 0) (e := 24) (zd_b zq_prog_14_method_72_code_0 25 rfl rfl rfl) (zd_b zq_prog_14_method_72_code_0 26 rfl rfl rfl) (zd_b zq_prog_14_method_72_code_0 27 rfl rfl rfl) (by decide +kernel)
theorem d_Mm_cheapest_49 : decode prog_14_method_72_code 49 = .ok (.iconst 0, 1) := zo_3 (zd_b zq_prog_14_method_72_code_1 17 rfl rfl rfl)
theorem d_Mm_cheapest_50 : decode prog_14_method_72_code 50 = .ok (.ireturn, 1) := zo_172 (zd_b zq_prog_14_method_72_code_1 18 rfl rfl rfl)
set_option maxHeartbeats 4000000 in
set_option maxRecDepth 100000 in
theorem C_Mm_cheapestE (g : zG) (m mp mf mh mn mt mz mc_ mq mgr ml mi mr mm mu mk mx : Nat) (th pt cl wa co_ fi bu ho lh mg wd fpi fal : Int32) (po de : Int64) (w : Int32) (hw : z_ix 4 w < 0) : CT g M_Mm_cheapest [.ref m, .int w] [(m, .inr (12, [.int th, .ref mp, .int pt, .ref mf, .ref mh, .ref mn, .ref mt, .ref mz, .ref mc_, .ref mq, .ref mgr, .int cl, .int wa, .int co_, .int fi, .int bu, .int ho, .ref ml, .ref mi, .ref mr, .int lh, .int mg, .int wd, .int fpi, .int fal, .ref mm, .ref mu, .ref mk, .ref mx, .long po, .long de]))] (fun o cs1 => o = .inl (some (.int 0)) ∧ cs1 = [(m, .inr (12, [.int 1, .ref mp, .int pt, .ref mf, .ref mh, .ref mn, .ref mt, .ref mz, .ref mc_, .ref mq, .ref mgr, .int cl, .int wa, .int co_, .int fi, .int bu, .int ho, .ref ml, .ref mi, .ref mr, .int lh, .int mg, .int wd, .int fpi, .int fal, .ref mm, .ref mu, .ref mk, .ref mx, .long po, .long de]))]) 0 0 := by
  refine z_of (by decide) rfl (Nat.le_of_ble_eq_true rfl) (fun w0 => ?_)
  refine r_lvE (lv2 := [(0, .ref m), (1, .int w)]) rfl ?_
  refine r_aload_n d_Mm_cheapest_0 rfl 0 rfl ?_
  refine r_iconst d_Mm_cheapest_1 (v := 0) (by decide) ?_
  refine r_put fp_Mm_84 d_Mm_cheapest_2 (fun h => nomatch h) rfl rfl (q0 := 0) rfl (Nat.le_of_ble_eq_true rfl) (cs' := [(m, .inr (12, [.int 0, .ref mp, .int pt, .ref mf, .ref mh, .ref mn, .ref mt, .ref mz, .ref mc_, .ref mq, .ref mgr, .int cl, .int wa, .int co_, .int fi, .int bu, .int ho, .ref ml, .ref mi, .ref mr, .int lh, .int mg, .int wd, .int fpi, .int fal, .ref mm, .ref mu, .ref mk, .ref mx, .long po, .long de]))]) rfl ?_
  refine r_aload_n d_Mm_cheapest_5 rfl 0 rfl ?_
  refine r_ldcWS (own := "IronpourModel") (i := 4) (by decide) d_Mm_cheapest_6 ?_
  refine r_iload_n d_Mm_cheapest_9 rfl 1 rfl ?_
  refine r_callVS (As := [.int w]) (rest := [.ref m]) (csC := []) (is := []) (i := 4) (by first | assumption | decide) rfl ln_Mm_97 w_im_String_indexOf_0 w_se_String_indexOf_0 ok_Mm_cheapest_String_indexOf_0 d_Mm_cheapest_10 (C_St_indexOf g 4 (by decide) w) rfl rfl (Nat.le_of_ble_eq_true rfl) rfl (by decide) (by omega) (by omega) (fun E cs1 hx => ?_) (fun v cs1 hx => ?_)
  · exact absurd hx.1 (by simp)
  · obtain ⟨e1, rfl⟩ := hx
    cases e1
    refine ⟨rfl, ?_⟩
    refine r_st (st2 := [.int (z_ix 4 w), .ref m]) rfl ?_
    refine r_cs (cs2 := [(m, .inr (12, [.int 0, .ref mp, .int pt, .ref mf, .ref mh, .ref mn, .ref mt, .ref mz, .ref mc_, .ref mq, .ref mgr, .int cl, .int wa, .int co_, .int fi, .int bu, .int ho, .ref ml, .ref mi, .ref mr, .int lh, .int mg, .int wd, .int fpi, .int fal, .ref mm, .ref mu, .ref mk, .ref mx, .long po, .long de]))]) rfl ?_
    refine r_if_ge (tgt := 20) d_Mm_cheapest_13 (by decide) (fun c_13 => ?_) (fun c_13 => ?_)
    · exact absurd hw (Int32.not_lt.mpr c_13)
    · refine r_iconst d_Mm_cheapest_16 (v := 1) (by decide) ?_
      refine r_goto (tgt := 21) d_Mm_cheapest_17 (by decide) ?_
      refine r_iconst d_Mm_cheapest_21 (v := 1) (by decide) ?_
      refine r_callV (As := [.int 1, .int 1]) (rest := []) (csC := [(m, .inr (12, [.int 0, .ref mp, .int pt, .ref mf, .ref mh, .ref mn, .ref mt, .ref mz, .ref mc_, .ref mq, .ref mgr, .int cl, .int wa, .int co_, .int fi, .int bu, .int ho, .ref ml, .ref mi, .ref mr, .int lh, .int mg, .int wd, .int fpi, .int fal, .ref mm, .ref mu, .ref mk, .ref mx, .long po, .long de]))]) (is := [0]) (q0 := 0) rfl rfl ln_Mm_103 w_im_Mm_fails w_se_Mm_fails ok_Mm_cheapest_Mm_fails d_Mm_cheapest_22 (C_Mm_fails1 g m mp mf mh mn mt mz mc_ mq mgr ml mi mr mm mu mk mx th pt cl wa co_ fi bu ho lh mg wd fpi fal po de) rfl rfl (Nat.le_of_ble_eq_true rfl) rfl (by decide) (by omega) (by omega) (fun E cs1 hx => ?_) (fun v cs1 hx => ?_)
      · exact absurd hx.1 (by simp)
      · obtain ⟨e1, rfl⟩ := hx
        cases e1
        refine ⟨rfl, ?_⟩
        refine r_st (st2 := [.int 1]) rfl ?_
        refine r_cs (cs2 := [(m, .inr (12, [.int 1, .ref mp, .int pt, .ref mf, .ref mh, .ref mn, .ref mt, .ref mz, .ref mc_, .ref mq, .ref mgr, .int cl, .int wa, .int co_, .int fi, .int bu, .int ho, .ref ml, .ref mi, .ref mr, .int lh, .int mg, .int wd, .int fpi, .int fal, .ref mm, .ref mu, .ref mk, .ref mx, .long po, .long de]))]) rfl ?_
        refine r_if_ne (tgt := 49) d_Mm_cheapest_25 (by decide) (fun c_25 => ?_) (fun c_25 => ?_)
        · refine r_iconst d_Mm_cheapest_49 (v := 0) (by decide) ?_
          refine r_iret d_Mm_cheapest_50 rfl rfl ?_
          exact ⟨rfl, rfl⟩
        · exact absurd c_25 (by decide)
theorem d_Mm_cheapest_20 : decode prog_14_method_72_code 20 = .ok (.iconst 0, 1) := zo_3 (zd_b zq_prog_14_method_72_code_0 20 rfl rfl rfl)
theorem d_Mm_cheapest_28 : decode prog_14_method_72_code 28 = .ok (.aload_n 0, 1) := zo_42 (zd_b zq_prog_14_method_72_code_0 28 rfl rfl rfl)
theorem d_Mm_cheapest_29 : decode prog_14_method_72_code 29 = .ok (.aload_n 0, 1) := zo_42 (zd_b zq_prog_14_method_72_code_0 29 rfl rfl rfl)
theorem d_Mm_cheapest_30 : decode prog_14_method_72_code 30 = .ok (.getfield 69, 3) := zo_180 (d := 0) (e := 69) (zd_b zq_prog_14_method_72_code_0 30 rfl rfl rfl) (zd_b zq_prog_14_method_72_code_0 31 rfl rfl rfl) (zd_b zq_prog_14_method_72_code_1 0 rfl rfl rfl)
theorem fs_Mm_69 : z_fs "IronpourModel" 69 12 23 := ⟨R_Mm, "IronpourModel", F_Mm, 31, rfl, u_Mm, by decide, Or.inl ⟨z_mj7 (i := 106) rfl (by decide +kernel), Or.inl rfl⟩⟩
theorem d_Mm_cheapest_33 : decode prog_14_method_72_code 33 = .ok (.iconst (-1), 1) := zo_2 (zd_b zq_prog_14_method_72_code_1 1 rfl rfl rfl)
theorem d_Mm_cheapest_34 : decode prog_14_method_72_code 34 = .ok (.if_icmp .ne 7, 3) := zo_160 (d := 0) (e := 7) (zd_b zq_prog_14_method_72_code_1 2 rfl rfl rfl) (zd_b zq_prog_14_method_72_code_1 3 rfl rfl rfl) (zd_b zq_prog_14_method_72_code_1 4 rfl rfl rfl) (by decide +kernel)
theorem d_Mm_cheapest_37 : decode prog_14_method_72_code 37 = .ok (.iconst 1, 1) := zo_4 (zd_b zq_prog_14_method_72_code_1 5 rfl rfl rfl)
theorem d_Mm_cheapest_38 : decode prog_14_method_72_code 38 = .ok (.goto 4, 3) := zo_167 (d := 0) (e := 4) (zd_b zq_prog_14_method_72_code_1 6 rfl rfl rfl) (zd_b zq_prog_14_method_72_code_1 7 rfl rfl rfl) (zd_b zq_prog_14_method_72_code_1 8 rfl rfl rfl) (by decide +kernel)
theorem d_Mm_cheapest_42 : decode prog_14_method_72_code 42 = .ok (.iconst 2, 1) := zo_5 (zd_b zq_prog_14_method_72_code_1 10 rfl rfl rfl)
theorem d_Mm_cheapest_43 : decode prog_14_method_72_code 43 = .ok (.invokevirtual 103, 3) := zo_182 (d := 0) (e := 103) (zd_b zq_prog_14_method_72_code_1 11 rfl rfl rfl) (zd_b zq_prog_14_method_72_code_1 12 rfl rfl rfl) (zd_b zq_prog_14_method_72_code_1 13 rfl rfl rfl)
theorem d_Mm_cheapest_46 : decode prog_14_method_72_code 46 = .ok (.ifCond .eq 5, 3) := zo_153 (d := 0) (e := 5) (zd_b zq_prog_14_method_72_code_1 14 rfl rfl rfl) (zd_b zq_prog_14_method_72_code_1 15 rfl rfl rfl) (zd_b zq_prog_14_method_72_code_1 16 rfl rfl rfl) (by decide +kernel)
abbrev M_Mm_mould : zM := (⟨"IronpourModel", "mould", "()I"⟩, prog_14_method_74_code, 4, (Option.some FieldType.int), 8, 231, [])
theorem d_Mm_mould_0 : decode prog_14_method_74_code 0 = .ok (.aload_n 0, 1) := zo_42 (zd_b zq_prog_14_method_74_code_0 0 rfl rfl rfl)
theorem d_Mm_mould_1 : decode prog_14_method_74_code 1 = .ok (.iconst 0, 1) := zo_3 (zd_b zq_prog_14_method_74_code_0 1 rfl rfl rfl)
theorem d_Mm_mould_2 : decode prog_14_method_74_code 2 = .ok (.putfield 84, 3) := zo_181 (d := 0) (e := 84) (zd_b zq_prog_14_method_74_code_0 2 rfl rfl rfl) (zd_b zq_prog_14_method_74_code_0 3 rfl rfl rfl) (zd_b zq_prog_14_method_74_code_0 4 rfl rfl rfl)
theorem d_Mm_mould_5 : decode prog_14_method_74_code 5 = .ok (.aload_n 0, 1) := zo_42 (zd_b zq_prog_14_method_74_code_0 5 rfl rfl rfl)
theorem d_Mm_mould_6 : decode prog_14_method_74_code 6 = .ok (.aload_n 0, 1) := zo_42 (zd_b zq_prog_14_method_74_code_0 6 rfl rfl rfl)
theorem d_Mm_mould_7 : decode prog_14_method_74_code 7 = .ok (.getfield 7, 3) := zo_180 (d := 0) (e := 7) (zd_b zq_prog_14_method_74_code_0 7 rfl rfl rfl) (zd_b zq_prog_14_method_74_code_0 8 rfl rfl rfl) (zd_b zq_prog_14_method_74_code_0 9 rfl rfl rfl)
theorem d_Mm_mould_10 : decode prog_14_method_74_code 10 = .ok (.invokevirtual 123, 3) := zo_182 (d := 0) (e := 123) (zd_b zq_prog_14_method_74_code_0 10 rfl rfl rfl) (zd_b zq_prog_14_method_74_code_0 11 rfl rfl rfl) (zd_b zq_prog_14_method_74_code_0 12 rfl rfl rfl)
theorem ok_Mm_mould_Mm_groupIn : z_ok M_Mm_mould M_Mm_groupIn 1 := ⟨z_mj7 (i := 222) rfl (by decide +kernel), rfl, ⟨by decide +kernel, by decide +kernel, by decide +kernel⟩, ⟨by decide, by decide⟩, z_mj1 (i := 14) rfl (by decide +kernel), rfl⟩
theorem d_Mm_mould_13 : decode prog_14_method_74_code 13 = .ok (.istore_n 1, 1) := zo_60 (zd_b zq_prog_14_method_74_code_0 13 rfl rfl rfl)
theorem d_Mm_mould_14 : decode prog_14_method_74_code 14 = .ok (.aload_n 0, 1) := zo_42 (zd_b zq_prog_14_method_74_code_0 14 rfl rfl rfl)
theorem d_Mm_mould_15 : decode prog_14_method_74_code 15 = .ok (.aload_n 0, 1) := zo_42 (zd_b zq_prog_14_method_74_code_0 15 rfl rfl rfl)
theorem d_Mm_mould_16 : decode prog_14_method_74_code 16 = .ok (.getfield 7, 3) := zo_180 (d := 0) (e := 7) (zd_b zq_prog_14_method_74_code_0 16 rfl rfl rfl) (zd_b zq_prog_14_method_74_code_0 17 rfl rfl rfl) (zd_b zq_prog_14_method_74_code_0 18 rfl rfl rfl)
theorem d_Mm_mould_19 : decode prog_14_method_74_code 19 = .ok (.invokestatic 137, 3) := zo_184 (d := 0) (e := 137) (zd_b zq_prog_14_method_74_code_0 19 rfl rfl rfl) (zd_b zq_prog_14_method_74_code_0 20 rfl rfl rfl) (zd_b zq_prog_14_method_74_code_0 21 rfl rfl rfl)
theorem ok_Mm_mould_Mm_gates : z_ok M_Mm_mould M_Mm_gates 1 := ⟨z_mj8 (i := 18) rfl (by decide +kernel), rfl, ⟨by decide +kernel, by decide +kernel, by decide +kernel⟩, ⟨by decide, by decide⟩, z_mj1 (i := 14) rfl (by decide +kernel), rfl⟩
theorem d_Mm_mould_22 : decode prog_14_method_74_code 22 = .ok (.ifCond .eq 10, 3) := zo_153 (d := 0) (e := 10) (zd_b zq_prog_14_method_74_code_0 22 rfl rfl rfl) (zd_b zq_prog_14_method_74_code_0 23 rfl rfl rfl) (zd_b zq_prog_14_method_74_code_0 24 rfl rfl rfl) (by decide +kernel)
theorem d_Mm_mould_32 : decode prog_14_method_74_code 32 = .ok (.iconst 1, 1) := zo_4 (zd_b zq_prog_14_method_74_code_1 0 rfl rfl rfl)
theorem d_Mm_mould_33 : decode prog_14_method_74_code 33 = .ok (.goto 4, 3) := zo_167 (d := 0) (e := 4) (zd_b zq_prog_14_method_74_code_1 1 rfl rfl rfl) (zd_b zq_prog_14_method_74_code_1 2 rfl rfl rfl) (zd_b zq_prog_14_method_74_code_1 3 rfl rfl rfl) (by decide +kernel)
theorem d_Mm_mould_37 : decode prog_14_method_74_code 37 = .ok (.iconst 1, 1) := zo_4 (zd_b zq_prog_14_method_74_code_1 5 rfl rfl rfl)
theorem d_Mm_mould_38 : decode prog_14_method_74_code 38 = .ok (.invokevirtual 103, 3) := zo_182 (d := 0) (e := 103) (zd_b zq_prog_14_method_74_code_1 6 rfl rfl rfl) (zd_b zq_prog_14_method_74_code_1 7 rfl rfl rfl) (zd_b zq_prog_14_method_74_code_1 8 rfl rfl rfl)
theorem ok_Mm_mould_Mm_fails : z_ok M_Mm_mould M_Mm_fails 2 := ⟨z_mj7 (i := 196) rfl (by decide +kernel), rfl, ⟨by decide +kernel, by decide +kernel, by decide +kernel⟩, ⟨by decide, by decide⟩, z_mj1 (i := 14) rfl (by decide +kernel), rfl⟩
theorem d_Mm_mould_41 : decode prog_14_method_74_code 41 = .ok (.ifCond .ne 49, 3) := zo_154 (d := 0) (e := 49) (zd_b zq_prog_14_method_74_code_1 9 rfl rfl rfl) (zd_b zq_prog_14_method_74_code_1 10 rfl rfl rfl) (zd_b zq_prog_14_method_74_code_1 11 rfl rfl rfl) (by decide +kernel)
theorem d_Mm_mould_90 : decode prog_14_method_74_code 90 = .ok (.iconst 0, 1) := zo_3 (zd_b zq_prog_14_method_74_code_2 26 rfl rfl rfl)
theorem d_Mm_mould_91 : decode prog_14_method_74_code 91 = .ok (.ireturn, 1) := zo_172 (zd_b zq_prog_14_method_74_code_2 27 rfl rfl rfl)
abbrev M_Mm_waiting : zM := (⟨"IronpourModel", "waiting", "(I)I"⟩, prog_14_method_75_code, 2, (Option.some FieldType.int), 4, 84, [])
theorem d_Mm_waiting_0 : decode prog_14_method_75_code 0 = .ok (.aload_n 0, 1) := zo_42 (zd_b zq_prog_14_method_75_code_0 0 rfl rfl rfl)
theorem d_Mm_waiting_1 : decode prog_14_method_75_code 1 = .ok (.iconst 0, 1) := zo_3 (zd_b zq_prog_14_method_75_code_0 1 rfl rfl rfl)
theorem d_Mm_waiting_2 : decode prog_14_method_75_code 2 = .ok (.putfield 84, 3) := zo_181 (d := 0) (e := 84) (zd_b zq_prog_14_method_75_code_0 2 rfl rfl rfl) (zd_b zq_prog_14_method_75_code_0 3 rfl rfl rfl) (zd_b zq_prog_14_method_75_code_0 4 rfl rfl rfl)
theorem d_Mm_waiting_5 : decode prog_14_method_75_code 5 = .ok (.aload_n 0, 1) := zo_42 (zd_b zq_prog_14_method_75_code_0 5 rfl rfl rfl)
theorem d_Mm_waiting_6 : decode prog_14_method_75_code 6 = .ok (.iload_n 1, 1) := zo_27 (zd_b zq_prog_14_method_75_code_0 6 rfl rfl rfl)
theorem d_Mm_waiting_7 : decode prog_14_method_75_code 7 = .ok (.iconst 0, 1) := zo_3 (zd_b zq_prog_14_method_75_code_0 7 rfl rfl rfl)
theorem d_Mm_waiting_8 : decode prog_14_method_75_code 8 = .ok (.aload_n 0, 1) := zo_42 (zd_b zq_prog_14_method_75_code_0 8 rfl rfl rfl)
theorem d_Mm_waiting_9 : decode prog_14_method_75_code 9 = .ok (.getfield 72, 3) := zo_180 (d := 0) (e := 72) (zd_b zq_prog_14_method_75_code_0 9 rfl rfl rfl) (zd_b zq_prog_14_method_75_code_0 10 rfl rfl rfl) (zd_b zq_prog_14_method_75_code_0 11 rfl rfl rfl)
theorem fs_Mm_72 : z_fs "IronpourModel" 72 12 25 := ⟨R_Mm, "IronpourModel", F_Mm, 31, rfl, u_Mm, by decide, Or.inl ⟨z_mj7 (i := 108) rfl (by decide +kernel), Or.inl rfl⟩⟩
theorem d_Mm_waiting_12 : decode prog_14_method_75_code 12 = .ok (.invokevirtual 208, 3) := zo_182 (d := 0) (e := 208) (zd_b zq_prog_14_method_75_code_0 12 rfl rfl rfl) (zd_b zq_prog_14_method_75_code_0 13 rfl rfl rfl) (zd_b zq_prog_14_method_75_code_0 14 rfl rfl rfl)
theorem ok_Mm_waiting_AL_size : z_ok M_Mm_waiting M_AL_size 0 := ⟨z_mj2 (i := 172) rfl (by decide +kernel), rfl, ⟨by decide +kernel, by decide +kernel, by decide +kernel⟩, ⟨by decide, by decide⟩, z_mj1 (i := 13) rfl (by decide +kernel), rfl⟩
theorem d_Mm_waiting_15 : decode prog_14_method_75_code 15 = .ok (.iconst 1, 1) := zo_4 (zd_b zq_prog_14_method_75_code_0 15 rfl rfl rfl)
theorem d_Mm_waiting_16 : decode prog_14_method_75_code 16 = .ok (.isub, 1) := zo_100 (zd_b zq_prog_14_method_75_code_0 16 rfl rfl rfl)
theorem d_Mm_waiting_17 : decode prog_14_method_75_code 17 = .ok (.invokestatic 87, 3) := zo_184 (d := 0) (e := 87) (zd_b zq_prog_14_method_75_code_0 17 rfl rfl rfl) (zd_b zq_prog_14_method_75_code_0 18 rfl rfl rfl) (zd_b zq_prog_14_method_75_code_0 19 rfl rfl rfl)
theorem ok_Mm_waiting_Mm_in : z_ok M_Mm_waiting M_Mm_in 3 := ⟨z_mj7 (i := 190) rfl (by decide +kernel), rfl, ⟨by decide +kernel, by decide +kernel, by decide +kernel⟩, ⟨by decide, by decide⟩, z_mj1 (i := 14) rfl (by decide +kernel), rfl⟩
theorem d_Mm_waiting_20 : decode prog_14_method_75_code 20 = .ok (.ifCond .ne 7, 3) := zo_154 (d := 0) (e := 7) (zd_b zq_prog_14_method_75_code_0 20 rfl rfl rfl) (zd_b zq_prog_14_method_75_code_0 21 rfl rfl rfl) (zd_b zq_prog_14_method_75_code_0 22 rfl rfl rfl) (by decide +kernel)
theorem d_Mm_waiting_23 : decode prog_14_method_75_code 23 = .ok (.iconst 1, 1) := zo_4 (zd_b zq_prog_14_method_75_code_0 23 rfl rfl rfl)
theorem d_Mm_waiting_24 : decode prog_14_method_75_code 24 = .ok (.goto 4, 3) := zo_167 (d := 0) (e := 4) (zd_b zq_prog_14_method_75_code_0 24 rfl rfl rfl) (zd_b zq_prog_14_method_75_code_0 25 rfl rfl rfl) (zd_b zq_prog_14_method_75_code_0 26 rfl rfl rfl) (by decide +kernel)
theorem d_Mm_waiting_28 : decode prog_14_method_75_code 28 = .ok (.iconst 1, 1) := zo_4 (zd_b zq_prog_14_method_75_code_0 28 rfl rfl rfl)
theorem d_Mm_waiting_29 : decode prog_14_method_75_code 29 = .ok (.invokevirtual 103, 3) := zo_182 (d := 0) (e := 103) (zd_b zq_prog_14_method_75_code_0 29 rfl rfl rfl) (zd_b zq_prog_14_method_75_code_0 30 rfl rfl rfl) (zd_b zq_prog_14_method_75_code_0 31 rfl rfl rfl)
theorem ok_Mm_waiting_Mm_fails : z_ok M_Mm_waiting M_Mm_fails 2 := ⟨z_mj7 (i := 196) rfl (by decide +kernel), rfl, ⟨by decide +kernel, by decide +kernel, by decide +kernel⟩, ⟨by decide, by decide⟩, z_mj1 (i := 14) rfl (by decide +kernel), rfl⟩
theorem d_Mm_waiting_32 : decode prog_14_method_75_code 32 = .ok (.ifCond .eq 7, 3) := zo_153 (d := 0) (e := 7) (zd_b zq_prog_14_method_75_code_1 0 rfl rfl rfl) (zd_b zq_prog_14_method_75_code_1 1 rfl rfl rfl) (zd_b zq_prog_14_method_75_code_1 2 rfl rfl rfl) (by decide +kernel)
theorem d_Mm_waiting_35 : decode prog_14_method_75_code 35 = .ok (.iconst 0, 1) := zo_3 (zd_b zq_prog_14_method_75_code_1 3 rfl rfl rfl)
theorem d_Mm_waiting_36 : decode prog_14_method_75_code 36 = .ok (.goto 16, 3) := zo_167 (d := 0) (e := 16) (zd_b zq_prog_14_method_75_code_1 4 rfl rfl rfl) (zd_b zq_prog_14_method_75_code_1 5 rfl rfl rfl) (zd_b zq_prog_14_method_75_code_1 6 rfl rfl rfl) (by decide +kernel)
theorem d_Mm_waiting_52 : decode prog_14_method_75_code 52 = .ok (.ireturn, 1) := zo_172 (zd_b zq_prog_14_method_75_code_1 20 rfl rfl rfl)
abbrev M_Mm_pour : zM := (⟨"IronpourModel", "pour", "()I"⟩, prog_14_method_77_code, 12, (Option.some FieldType.int), 10, 239, [])
theorem d_Mm_pour_0 : decode prog_14_method_77_code 0 = .ok (.aload_n 0, 1) := zo_42 (zd_b zq_prog_14_method_77_code_0 0 rfl rfl rfl)
theorem d_Mm_pour_1 : decode prog_14_method_77_code 1 = .ok (.iconst 0, 1) := zo_3 (zd_b zq_prog_14_method_77_code_0 1 rfl rfl rfl)
theorem d_Mm_pour_2 : decode prog_14_method_77_code 2 = .ok (.putfield 84, 3) := zo_181 (d := 0) (e := 84) (zd_b zq_prog_14_method_77_code_0 2 rfl rfl rfl) (zd_b zq_prog_14_method_77_code_0 3 rfl rfl rfl) (zd_b zq_prog_14_method_77_code_0 4 rfl rfl rfl)
theorem d_Mm_pour_5 : decode prog_14_method_77_code 5 = .ok (.aload_n 0, 1) := zo_42 (zd_b zq_prog_14_method_77_code_0 5 rfl rfl rfl)
theorem d_Mm_pour_6 : decode prog_14_method_77_code 6 = .ok (.aload_n 0, 1) := zo_42 (zd_b zq_prog_14_method_77_code_0 6 rfl rfl rfl)
theorem d_Mm_pour_7 : decode prog_14_method_77_code 7 = .ok (.getfield 72, 3) := zo_180 (d := 0) (e := 72) (zd_b zq_prog_14_method_77_code_0 7 rfl rfl rfl) (zd_b zq_prog_14_method_77_code_0 8 rfl rfl rfl) (zd_b zq_prog_14_method_77_code_0 9 rfl rfl rfl)
theorem d_Mm_pour_10 : decode prog_14_method_77_code 10 = .ok (.invokevirtual 289, 3) := zo_182 (d := 1) (e := 33) (zd_b zq_prog_14_method_77_code_0 10 rfl rfl rfl) (zd_b zq_prog_14_method_77_code_0 11 rfl rfl rfl) (zd_b zq_prog_14_method_77_code_0 12 rfl rfl rfl)
theorem ok_Mm_pour_AL_isEmpty : z_ok M_Mm_pour M_AL_isEmpty 0 := ⟨z_mj6 (i := 115) rfl (by decide +kernel), rfl, ⟨by decide +kernel, by decide +kernel, by decide +kernel⟩, ⟨by decide, by decide⟩, z_mj1 (i := 13) rfl (by decide +kernel), rfl⟩
theorem ln_Mm_289 : Cond.methodLink "IronpourModel" 289 M_AL_isEmpty.1 ∈ z_gw := z_mj9 (i := 0) rfl (by decide +kernel)
theorem w_im_AL_isEmpty : Cond.instanceMethod M_AL_isEmpty.1 ∈ z_gw := z_mj6 (i := 113) rfl (by decide +kernel)
theorem w_se_AL_isEmpty : Cond.selects M_AL_isEmpty.1.cls M_AL_isEmpty.1 M_AL_isEmpty.1 ∈ z_gw := z_mj6 (i := 114) rfl (by decide +kernel)
theorem d_Mm_pour_13 : decode prog_14_method_77_code 13 = .ok (.iconst 1, 1) := zo_4 (zd_b zq_prog_14_method_77_code_0 13 rfl rfl rfl)
theorem d_Mm_pour_14 : decode prog_14_method_77_code 14 = .ok (.invokevirtual 103, 3) := zo_182 (d := 0) (e := 103) (zd_b zq_prog_14_method_77_code_0 14 rfl rfl rfl) (zd_b zq_prog_14_method_77_code_0 15 rfl rfl rfl) (zd_b zq_prog_14_method_77_code_0 16 rfl rfl rfl)
theorem ok_Mm_pour_Mm_fails : z_ok M_Mm_pour M_Mm_fails 2 := ⟨z_mj7 (i := 196) rfl (by decide +kernel), rfl, ⟨by decide +kernel, by decide +kernel, by decide +kernel⟩, ⟨by decide, by decide⟩, z_mj1 (i := 14) rfl (by decide +kernel), rfl⟩
theorem d_Mm_pour_17 : decode prog_14_method_77_code 17 = .ok (.ifCond .ne 60, 3) := zo_154 (d := 0) (e := 60) (zd_b zq_prog_14_method_77_code_0 17 rfl rfl rfl) (zd_b zq_prog_14_method_77_code_0 18 rfl rfl rfl) (zd_b zq_prog_14_method_77_code_0 19 rfl rfl rfl) (by decide +kernel)
theorem d_Mm_pour_77 : decode prog_14_method_77_code 77 = .ok (.iconst 0, 1) := zo_3 (zd_b zq_prog_14_method_77_code_2 13 rfl rfl rfl)
theorem d_Mm_pour_78 : decode prog_14_method_77_code 78 = .ok (.ireturn, 1) := zo_172 (zd_b zq_prog_14_method_77_code_2 14 rfl rfl rfl)
abbrev M_Mm_castings : zM := (⟨"IronpourModel", "castings", "()I"⟩, prog_14_method_78_code, 1, (Option.some FieldType.int), 2, 40, [])
theorem d_Mm_castings_0 : decode prog_14_method_78_code 0 = .ok (.aload_n 0, 1) := zo_42 (zd_b zq_prog_14_method_78_code_0 0 rfl rfl rfl)
theorem d_Mm_castings_1 : decode prog_14_method_78_code 1 = .ok (.iconst 0, 1) := zo_3 (zd_b zq_prog_14_method_78_code_0 1 rfl rfl rfl)
theorem d_Mm_castings_2 : decode prog_14_method_78_code 2 = .ok (.putfield 84, 3) := zo_181 (d := 0) (e := 84) (zd_b zq_prog_14_method_78_code_0 2 rfl rfl rfl) (zd_b zq_prog_14_method_78_code_0 3 rfl rfl rfl) (zd_b zq_prog_14_method_78_code_0 4 rfl rfl rfl)
theorem d_Mm_castings_5 : decode prog_14_method_78_code 5 = .ok (.aload_n 0, 1) := zo_42 (zd_b zq_prog_14_method_78_code_0 5 rfl rfl rfl)
theorem d_Mm_castings_6 : decode prog_14_method_78_code 6 = .ok (.getfield 78, 3) := zo_180 (d := 0) (e := 78) (zd_b zq_prog_14_method_78_code_0 6 rfl rfl rfl) (zd_b zq_prog_14_method_78_code_0 7 rfl rfl rfl) (zd_b zq_prog_14_method_78_code_0 8 rfl rfl rfl)
theorem fs_Mm_78 : z_fs "IronpourModel" 78 12 27 := ⟨R_Mm, "IronpourModel", F_Mm, 31, rfl, u_Mm, by decide, Or.inl ⟨z_mj7 (i := 110) rfl (by decide +kernel), Or.inl rfl⟩⟩
theorem d_Mm_castings_9 : decode prog_14_method_78_code 9 = .ok (.invokevirtual 208, 3) := zo_182 (d := 0) (e := 208) (zd_b zq_prog_14_method_78_code_0 9 rfl rfl rfl) (zd_b zq_prog_14_method_78_code_0 10 rfl rfl rfl) (zd_b zq_prog_14_method_78_code_0 11 rfl rfl rfl)
theorem ok_Mm_castings_AL_size : z_ok M_Mm_castings M_AL_size 0 := ⟨z_mj2 (i := 172) rfl (by decide +kernel), rfl, ⟨by decide +kernel, by decide +kernel, by decide +kernel⟩, ⟨by decide, by decide⟩, z_mj1 (i := 13) rfl (by decide +kernel), rfl⟩
theorem d_Mm_castings_12 : decode prog_14_method_78_code 12 = .ok (.ireturn, 1) := zo_172 (zd_b zq_prog_14_method_78_code_0 12 rfl rfl rfl)
abbrev M_Mm_noCasting : zM := (⟨"IronpourModel", "noCasting", "(I)Z"⟩, prog_14_method_79_code, 2, (Option.some FieldType.boolean), 2, 42, [])
theorem d_Mm_noCasting_0 : decode prog_14_method_79_code 0 = .ok (.iload_n 1, 1) := zo_27 (zd_b zq_prog_14_method_79_code_0 0 rfl rfl rfl)
theorem d_Mm_noCasting_1 : decode prog_14_method_79_code 1 = .ok (.iconst 0, 1) := zo_3 (zd_b zq_prog_14_method_79_code_0 1 rfl rfl rfl)
theorem d_Mm_noCasting_2 : decode prog_14_method_79_code 2 = .ok (.aload_n 0, 1) := zo_42 (zd_b zq_prog_14_method_79_code_0 2 rfl rfl rfl)
theorem d_Mm_noCasting_3 : decode prog_14_method_79_code 3 = .ok (.getfield 78, 3) := zo_180 (d := 0) (e := 78) (zd_b zq_prog_14_method_79_code_0 3 rfl rfl rfl) (zd_b zq_prog_14_method_79_code_0 4 rfl rfl rfl) (zd_b zq_prog_14_method_79_code_0 5 rfl rfl rfl)
theorem d_Mm_noCasting_6 : decode prog_14_method_79_code 6 = .ok (.invokevirtual 208, 3) := zo_182 (d := 0) (e := 208) (zd_b zq_prog_14_method_79_code_0 6 rfl rfl rfl) (zd_b zq_prog_14_method_79_code_0 7 rfl rfl rfl) (zd_b zq_prog_14_method_79_code_0 8 rfl rfl rfl)
theorem ok_Mm_noCasting_AL_size : z_ok M_Mm_noCasting M_AL_size 0 := ⟨z_mj2 (i := 172) rfl (by decide +kernel), rfl, ⟨by decide +kernel, by decide +kernel, by decide +kernel⟩, ⟨by decide, by decide⟩, z_mj1 (i := 13) rfl (by decide +kernel), rfl⟩
theorem d_Mm_noCasting_9 : decode prog_14_method_79_code 9 = .ok (.iconst 1, 1) := zo_4 (zd_b zq_prog_14_method_79_code_0 9 rfl rfl rfl)
theorem d_Mm_noCasting_10 : decode prog_14_method_79_code 10 = .ok (.isub, 1) := zo_100 (zd_b zq_prog_14_method_79_code_0 10 rfl rfl rfl)
theorem d_Mm_noCasting_11 : decode prog_14_method_79_code 11 = .ok (.invokestatic 87, 3) := zo_184 (d := 0) (e := 87) (zd_b zq_prog_14_method_79_code_0 11 rfl rfl rfl) (zd_b zq_prog_14_method_79_code_0 12 rfl rfl rfl) (zd_b zq_prog_14_method_79_code_0 13 rfl rfl rfl)
theorem ok_Mm_noCasting_Mm_in : z_ok M_Mm_noCasting M_Mm_in 3 := ⟨z_mj7 (i := 190) rfl (by decide +kernel), rfl, ⟨by decide +kernel, by decide +kernel, by decide +kernel⟩, ⟨by decide, by decide⟩, z_mj1 (i := 14) rfl (by decide +kernel), rfl⟩
theorem d_Mm_noCasting_14 : decode prog_14_method_79_code 14 = .ok (.ifCond .ne 7, 3) := zo_154 (d := 0) (e := 7) (zd_b zq_prog_14_method_79_code_0 14 rfl rfl rfl) (zd_b zq_prog_14_method_79_code_0 15 rfl rfl rfl) (zd_b zq_prog_14_method_79_code_0 16 rfl rfl rfl) (by decide +kernel)
theorem d_Mm_noCasting_17 : decode prog_14_method_79_code 17 = .ok (.iconst 1, 1) := zo_4 (zd_b zq_prog_14_method_79_code_0 17 rfl rfl rfl)
theorem d_Mm_noCasting_18 : decode prog_14_method_79_code 18 = .ok (.goto 4, 3) := zo_167 (d := 0) (e := 4) (zd_b zq_prog_14_method_79_code_0 18 rfl rfl rfl) (zd_b zq_prog_14_method_79_code_0 19 rfl rfl rfl) (zd_b zq_prog_14_method_79_code_0 20 rfl rfl rfl) (by decide +kernel)
theorem d_Mm_noCasting_22 : decode prog_14_method_79_code 22 = .ok (.ireturn, 1) := zo_172 (zd_b zq_prog_14_method_79_code_0 22 rfl rfl rfl)
abbrev M_Mm_alloy : zM := (⟨"IronpourModel", "alloy", "(I)C"⟩, prog_14_method_80_code, 2, (Option.some FieldType.char), 4, 84, [])
theorem d_Mm_alloy_0 : decode prog_14_method_80_code 0 = .ok (.aload_n 0, 1) := zo_42 (zd_b zq_prog_14_method_80_code_0 0 rfl rfl rfl)
theorem d_Mm_alloy_1 : decode prog_14_method_80_code 1 = .ok (.iconst 0, 1) := zo_3 (zd_b zq_prog_14_method_80_code_0 1 rfl rfl rfl)
theorem d_Mm_alloy_2 : decode prog_14_method_80_code 2 = .ok (.putfield 84, 3) := zo_181 (d := 0) (e := 84) (zd_b zq_prog_14_method_80_code_0 2 rfl rfl rfl) (zd_b zq_prog_14_method_80_code_0 3 rfl rfl rfl) (zd_b zq_prog_14_method_80_code_0 4 rfl rfl rfl)
theorem d_Mm_alloy_5 : decode prog_14_method_80_code 5 = .ok (.aload_n 0, 1) := zo_42 (zd_b zq_prog_14_method_80_code_0 5 rfl rfl rfl)
theorem d_Mm_alloy_6 : decode prog_14_method_80_code 6 = .ok (.aload_n 0, 1) := zo_42 (zd_b zq_prog_14_method_80_code_0 6 rfl rfl rfl)
theorem d_Mm_alloy_7 : decode prog_14_method_80_code 7 = .ok (.iload_n 1, 1) := zo_27 (zd_b zq_prog_14_method_80_code_0 7 rfl rfl rfl)
theorem d_Mm_alloy_8 : decode prog_14_method_80_code 8 = .ok (.invokevirtual 301, 3) := zo_182 (d := 1) (e := 45) (zd_b zq_prog_14_method_80_code_0 8 rfl rfl rfl) (zd_b zq_prog_14_method_80_code_0 9 rfl rfl rfl) (zd_b zq_prog_14_method_80_code_0 10 rfl rfl rfl)
theorem ok_Mm_alloy_Mm_noCasting : z_ok M_Mm_alloy M_Mm_noCasting 1 := ⟨z_mj9 (i := 17) rfl (by decide +kernel), rfl, ⟨by decide +kernel, by decide +kernel, by decide +kernel⟩, ⟨by decide, by decide⟩, z_mj1 (i := 14) rfl (by decide +kernel), rfl⟩
theorem ln_Mm_301 : Cond.methodLink "IronpourModel" 301 M_Mm_noCasting.1 ∈ z_gw := z_mj9 (i := 14) rfl (by decide +kernel)
theorem w_im_Mm_noCasting : Cond.instanceMethod M_Mm_noCasting.1 ∈ z_gw := z_mj9 (i := 16) rfl (by decide +kernel)
theorem w_se_Mm_noCasting : Cond.selects M_Mm_noCasting.1.cls M_Mm_noCasting.1 M_Mm_noCasting.1 ∈ z_gw := z_mem (i := 53) (by decide +kernel) (by decide +kernel)
theorem d_Mm_alloy_11 : decode prog_14_method_80_code 11 = .ok (.iconst 1, 1) := zo_4 (zd_b zq_prog_14_method_80_code_0 11 rfl rfl rfl)
theorem d_Mm_alloy_12 : decode prog_14_method_80_code 12 = .ok (.invokevirtual 103, 3) := zo_182 (d := 0) (e := 103) (zd_b zq_prog_14_method_80_code_0 12 rfl rfl rfl) (zd_b zq_prog_14_method_80_code_0 13 rfl rfl rfl) (zd_b zq_prog_14_method_80_code_0 14 rfl rfl rfl)
theorem ok_Mm_alloy_Mm_fails : z_ok M_Mm_alloy M_Mm_fails 2 := ⟨z_mj7 (i := 196) rfl (by decide +kernel), rfl, ⟨by decide +kernel, by decide +kernel, by decide +kernel⟩, ⟨by decide, by decide⟩, z_mj1 (i := 14) rfl (by decide +kernel), rfl⟩
theorem d_Mm_alloy_15 : decode prog_14_method_80_code 15 = .ok (.ifCond .eq 7, 3) := zo_153 (d := 0) (e := 7) (zd_b zq_prog_14_method_80_code_0 15 rfl rfl rfl) (zd_b zq_prog_14_method_80_code_0 16 rfl rfl rfl) (zd_b zq_prog_14_method_80_code_0 17 rfl rfl rfl) (by decide +kernel)
theorem d_Mm_alloy_18 : decode prog_14_method_80_code 18 = .ok (.iconst 0, 1) := zo_3 (zd_b zq_prog_14_method_80_code_0 18 rfl rfl rfl)
theorem d_Mm_alloy_19 : decode prog_14_method_80_code 19 = .ok (.goto 27, 3) := zo_167 (d := 0) (e := 27) (zd_b zq_prog_14_method_80_code_0 19 rfl rfl rfl) (zd_b zq_prog_14_method_80_code_0 20 rfl rfl rfl) (zd_b zq_prog_14_method_80_code_0 21 rfl rfl rfl) (by decide +kernel)
theorem d_Mm_alloy_46 : decode prog_14_method_80_code 46 = .ok (.ireturn, 1) := zo_172 (zd_b zq_prog_14_method_80_code_1 14 rfl rfl rfl)
abbrev M_Mm_faults : zM := (⟨"IronpourModel", "faults", "(I)I"⟩, prog_14_method_81_code, 2, (Option.some FieldType.int), 4, 84, [])
theorem d_Mm_faults_0 : decode prog_14_method_81_code 0 = .ok (.aload_n 0, 1) := zo_42 (zd_b zq_prog_14_method_81_code_0 0 rfl rfl rfl)
theorem d_Mm_faults_1 : decode prog_14_method_81_code 1 = .ok (.iconst 0, 1) := zo_3 (zd_b zq_prog_14_method_81_code_0 1 rfl rfl rfl)
theorem d_Mm_faults_2 : decode prog_14_method_81_code 2 = .ok (.putfield 84, 3) := zo_181 (d := 0) (e := 84) (zd_b zq_prog_14_method_81_code_0 2 rfl rfl rfl) (zd_b zq_prog_14_method_81_code_0 3 rfl rfl rfl) (zd_b zq_prog_14_method_81_code_0 4 rfl rfl rfl)
theorem d_Mm_faults_5 : decode prog_14_method_81_code 5 = .ok (.aload_n 0, 1) := zo_42 (zd_b zq_prog_14_method_81_code_0 5 rfl rfl rfl)
theorem d_Mm_faults_6 : decode prog_14_method_81_code 6 = .ok (.aload_n 0, 1) := zo_42 (zd_b zq_prog_14_method_81_code_0 6 rfl rfl rfl)
theorem d_Mm_faults_7 : decode prog_14_method_81_code 7 = .ok (.iload_n 1, 1) := zo_27 (zd_b zq_prog_14_method_81_code_0 7 rfl rfl rfl)
theorem d_Mm_faults_8 : decode prog_14_method_81_code 8 = .ok (.invokevirtual 301, 3) := zo_182 (d := 1) (e := 45) (zd_b zq_prog_14_method_81_code_0 8 rfl rfl rfl) (zd_b zq_prog_14_method_81_code_0 9 rfl rfl rfl) (zd_b zq_prog_14_method_81_code_0 10 rfl rfl rfl)
theorem ok_Mm_faults_Mm_noCasting : z_ok M_Mm_faults M_Mm_noCasting 1 := ⟨z_mj9 (i := 17) rfl (by decide +kernel), rfl, ⟨by decide +kernel, by decide +kernel, by decide +kernel⟩, ⟨by decide, by decide⟩, z_mj1 (i := 14) rfl (by decide +kernel), rfl⟩
theorem d_Mm_faults_11 : decode prog_14_method_81_code 11 = .ok (.iconst 1, 1) := zo_4 (zd_b zq_prog_14_method_81_code_0 11 rfl rfl rfl)
theorem d_Mm_faults_12 : decode prog_14_method_81_code 12 = .ok (.invokevirtual 103, 3) := zo_182 (d := 0) (e := 103) (zd_b zq_prog_14_method_81_code_0 12 rfl rfl rfl) (zd_b zq_prog_14_method_81_code_0 13 rfl rfl rfl) (zd_b zq_prog_14_method_81_code_0 14 rfl rfl rfl)
theorem ok_Mm_faults_Mm_fails : z_ok M_Mm_faults M_Mm_fails 2 := ⟨z_mj7 (i := 196) rfl (by decide +kernel), rfl, ⟨by decide +kernel, by decide +kernel, by decide +kernel⟩, ⟨by decide, by decide⟩, z_mj1 (i := 14) rfl (by decide +kernel), rfl⟩
theorem d_Mm_faults_15 : decode prog_14_method_81_code 15 = .ok (.ifCond .eq 7, 3) := zo_153 (d := 0) (e := 7) (zd_b zq_prog_14_method_81_code_0 15 rfl rfl rfl) (zd_b zq_prog_14_method_81_code_0 16 rfl rfl rfl) (zd_b zq_prog_14_method_81_code_0 17 rfl rfl rfl) (by decide +kernel)
theorem d_Mm_faults_18 : decode prog_14_method_81_code 18 = .ok (.iconst 0, 1) := zo_3 (zd_b zq_prog_14_method_81_code_0 18 rfl rfl rfl)
theorem d_Mm_faults_19 : decode prog_14_method_81_code 19 = .ok (.goto 16, 3) := zo_167 (d := 0) (e := 16) (zd_b zq_prog_14_method_81_code_0 19 rfl rfl rfl) (zd_b zq_prog_14_method_81_code_0 20 rfl rfl rfl) (zd_b zq_prog_14_method_81_code_0 21 rfl rfl rfl) (by decide +kernel)
theorem d_Mm_faults_35 : decode prog_14_method_81_code 35 = .ok (.ireturn, 1) := zo_172 (zd_b zq_prog_14_method_81_code_1 3 rfl rfl rfl)
abbrev M_Mm_shrunkIn : zM := (⟨"IronpourModel", "shrunkIn", "(I)I"⟩, prog_14_method_82_code, 2, (Option.some FieldType.int), 4, 84, [])
theorem d_Mm_shrunkIn_0 : decode prog_14_method_82_code 0 = .ok (.aload_n 0, 1) := zo_42 (zd_b zq_prog_14_method_82_code_0 0 rfl rfl rfl)
theorem d_Mm_shrunkIn_1 : decode prog_14_method_82_code 1 = .ok (.iconst 0, 1) := zo_3 (zd_b zq_prog_14_method_82_code_0 1 rfl rfl rfl)
theorem d_Mm_shrunkIn_2 : decode prog_14_method_82_code 2 = .ok (.putfield 84, 3) := zo_181 (d := 0) (e := 84) (zd_b zq_prog_14_method_82_code_0 2 rfl rfl rfl) (zd_b zq_prog_14_method_82_code_0 3 rfl rfl rfl) (zd_b zq_prog_14_method_82_code_0 4 rfl rfl rfl)
theorem d_Mm_shrunkIn_5 : decode prog_14_method_82_code 5 = .ok (.aload_n 0, 1) := zo_42 (zd_b zq_prog_14_method_82_code_0 5 rfl rfl rfl)
theorem d_Mm_shrunkIn_6 : decode prog_14_method_82_code 6 = .ok (.aload_n 0, 1) := zo_42 (zd_b zq_prog_14_method_82_code_0 6 rfl rfl rfl)
theorem d_Mm_shrunkIn_7 : decode prog_14_method_82_code 7 = .ok (.iload_n 1, 1) := zo_27 (zd_b zq_prog_14_method_82_code_0 7 rfl rfl rfl)
theorem d_Mm_shrunkIn_8 : decode prog_14_method_82_code 8 = .ok (.invokevirtual 301, 3) := zo_182 (d := 1) (e := 45) (zd_b zq_prog_14_method_82_code_0 8 rfl rfl rfl) (zd_b zq_prog_14_method_82_code_0 9 rfl rfl rfl) (zd_b zq_prog_14_method_82_code_0 10 rfl rfl rfl)
theorem ok_Mm_shrunkIn_Mm_noCasting : z_ok M_Mm_shrunkIn M_Mm_noCasting 1 := ⟨z_mj9 (i := 17) rfl (by decide +kernel), rfl, ⟨by decide +kernel, by decide +kernel, by decide +kernel⟩, ⟨by decide, by decide⟩, z_mj1 (i := 14) rfl (by decide +kernel), rfl⟩
theorem d_Mm_shrunkIn_11 : decode prog_14_method_82_code 11 = .ok (.iconst 1, 1) := zo_4 (zd_b zq_prog_14_method_82_code_0 11 rfl rfl rfl)
theorem d_Mm_shrunkIn_12 : decode prog_14_method_82_code 12 = .ok (.invokevirtual 103, 3) := zo_182 (d := 0) (e := 103) (zd_b zq_prog_14_method_82_code_0 12 rfl rfl rfl) (zd_b zq_prog_14_method_82_code_0 13 rfl rfl rfl) (zd_b zq_prog_14_method_82_code_0 14 rfl rfl rfl)
theorem ok_Mm_shrunkIn_Mm_fails : z_ok M_Mm_shrunkIn M_Mm_fails 2 := ⟨z_mj7 (i := 196) rfl (by decide +kernel), rfl, ⟨by decide +kernel, by decide +kernel, by decide +kernel⟩, ⟨by decide, by decide⟩, z_mj1 (i := 14) rfl (by decide +kernel), rfl⟩
theorem d_Mm_shrunkIn_15 : decode prog_14_method_82_code 15 = .ok (.ifCond .eq 7, 3) := zo_153 (d := 0) (e := 7) (zd_b zq_prog_14_method_82_code_0 15 rfl rfl rfl) (zd_b zq_prog_14_method_82_code_0 16 rfl rfl rfl) (zd_b zq_prog_14_method_82_code_0 17 rfl rfl rfl) (by decide +kernel)
theorem d_Mm_shrunkIn_18 : decode prog_14_method_82_code 18 = .ok (.iconst 0, 1) := zo_3 (zd_b zq_prog_14_method_82_code_0 18 rfl rfl rfl)
theorem d_Mm_shrunkIn_19 : decode prog_14_method_82_code 19 = .ok (.goto 16, 3) := zo_167 (d := 0) (e := 16) (zd_b zq_prog_14_method_82_code_0 19 rfl rfl rfl) (zd_b zq_prog_14_method_82_code_0 20 rfl rfl rfl) (zd_b zq_prog_14_method_82_code_0 21 rfl rfl rfl) (by decide +kernel)
theorem d_Mm_shrunkIn_35 : decode prog_14_method_82_code 35 = .ok (.ireturn, 1) := zo_172 (zd_b zq_prog_14_method_82_code_1 3 rfl rfl rfl)
abbrev M_Mm_has_1 : zM := (⟨"IronpourModel", "has", "(IC)I"⟩, prog_14_method_84_code, 3, (Option.some FieldType.int), 9, 199, [])
theorem d_Mm_has_1_0 : decode prog_14_method_84_code 0 = .ok (.aload_n 0, 1) := zo_42 (zd_b zq_prog_14_method_84_code_0 0 rfl rfl rfl)
theorem d_Mm_has_1_1 : decode prog_14_method_84_code 1 = .ok (.iconst 0, 1) := zo_3 (zd_b zq_prog_14_method_84_code_0 1 rfl rfl rfl)
theorem d_Mm_has_1_2 : decode prog_14_method_84_code 2 = .ok (.putfield 84, 3) := zo_181 (d := 0) (e := 84) (zd_b zq_prog_14_method_84_code_0 2 rfl rfl rfl) (zd_b zq_prog_14_method_84_code_0 3 rfl rfl rfl) (zd_b zq_prog_14_method_84_code_0 4 rfl rfl rfl)
theorem d_Mm_has_1_5 : decode prog_14_method_84_code 5 = .ok (.aload_n 0, 1) := zo_42 (zd_b zq_prog_14_method_84_code_0 5 rfl rfl rfl)
theorem d_Mm_has_1_6 : decode prog_14_method_84_code 6 = .ok (.aload_n 0, 1) := zo_42 (zd_b zq_prog_14_method_84_code_0 6 rfl rfl rfl)
theorem d_Mm_has_1_7 : decode prog_14_method_84_code 7 = .ok (.iload_n 1, 1) := zo_27 (zd_b zq_prog_14_method_84_code_0 7 rfl rfl rfl)
theorem d_Mm_has_1_8 : decode prog_14_method_84_code 8 = .ok (.invokevirtual 301, 3) := zo_182 (d := 1) (e := 45) (zd_b zq_prog_14_method_84_code_0 8 rfl rfl rfl) (zd_b zq_prog_14_method_84_code_0 9 rfl rfl rfl) (zd_b zq_prog_14_method_84_code_0 10 rfl rfl rfl)
theorem ok_Mm_has_1_Mm_noCasting : z_ok M_Mm_has_1 M_Mm_noCasting 1 := ⟨z_mj9 (i := 17) rfl (by decide +kernel), rfl, ⟨by decide +kernel, by decide +kernel, by decide +kernel⟩, ⟨by decide, by decide⟩, z_mj1 (i := 14) rfl (by decide +kernel), rfl⟩
theorem d_Mm_has_1_11 : decode prog_14_method_84_code 11 = .ok (.iconst 1, 1) := zo_4 (zd_b zq_prog_14_method_84_code_0 11 rfl rfl rfl)
theorem d_Mm_has_1_12 : decode prog_14_method_84_code 12 = .ok (.invokevirtual 103, 3) := zo_182 (d := 0) (e := 103) (zd_b zq_prog_14_method_84_code_0 12 rfl rfl rfl) (zd_b zq_prog_14_method_84_code_0 13 rfl rfl rfl) (zd_b zq_prog_14_method_84_code_0 14 rfl rfl rfl)
theorem ok_Mm_has_1_Mm_fails : z_ok M_Mm_has_1 M_Mm_fails 2 := ⟨z_mj7 (i := 196) rfl (by decide +kernel), rfl, ⟨by decide +kernel, by decide +kernel, by decide +kernel⟩, ⟨by decide, by decide⟩, z_mj1 (i := 14) rfl (by decide +kernel), rfl⟩
theorem d_Mm_has_1_15 : decode prog_14_method_84_code 15 = .ok (.ifCond .ne 23, 3) := zo_154 (d := 0) (e := 23) (zd_b zq_prog_14_method_84_code_0 15 rfl rfl rfl) (zd_b zq_prog_14_method_84_code_0 16 rfl rfl rfl) (zd_b zq_prog_14_method_84_code_0 17 rfl rfl rfl) (by decide +kernel)
theorem d_Mm_has_1_38 : decode prog_14_method_84_code 38 = .ok (.iconst 0, 1) := zo_3 (zd_b zq_prog_14_method_84_code_1 6 rfl rfl rfl)
theorem d_Mm_has_1_39 : decode prog_14_method_84_code 39 = .ok (.goto 12, 3) := zo_167 (d := 0) (e := 12) (zd_b zq_prog_14_method_84_code_1 7 rfl rfl rfl) (zd_b zq_prog_14_method_84_code_1 8 rfl rfl rfl) (zd_b zq_prog_14_method_84_code_1 9 rfl rfl rfl) (by decide +kernel)
theorem d_Mm_has_1_51 : decode prog_14_method_84_code 51 = .ok (.ireturn, 1) := zo_172 (zd_b zq_prog_14_method_84_code_1 19 rfl rfl rfl)
abbrev M_Mm_bar : zM := (⟨"IronpourModel", "bar", "(I)I"⟩, prog_14_method_86_code, 2, (Option.some FieldType.int), 6, 130, [])
theorem d_Mm_bar_0 : decode prog_14_method_86_code 0 = .ok (.aload_n 0, 1) := zo_42 (zd_b zq_prog_14_method_86_code_0 0 rfl rfl rfl)
theorem d_Mm_bar_1 : decode prog_14_method_86_code 1 = .ok (.iconst 0, 1) := zo_3 (zd_b zq_prog_14_method_86_code_0 1 rfl rfl rfl)
theorem d_Mm_bar_2 : decode prog_14_method_86_code 2 = .ok (.putfield 84, 3) := zo_181 (d := 0) (e := 84) (zd_b zq_prog_14_method_86_code_0 2 rfl rfl rfl) (zd_b zq_prog_14_method_86_code_0 3 rfl rfl rfl) (zd_b zq_prog_14_method_86_code_0 4 rfl rfl rfl)
theorem d_Mm_bar_5 : decode prog_14_method_86_code 5 = .ok (.aload_n 0, 1) := zo_42 (zd_b zq_prog_14_method_86_code_0 5 rfl rfl rfl)
theorem d_Mm_bar_6 : decode prog_14_method_86_code 6 = .ok (.aload_n 0, 1) := zo_42 (zd_b zq_prog_14_method_86_code_0 6 rfl rfl rfl)
theorem d_Mm_bar_7 : decode prog_14_method_86_code 7 = .ok (.iload_n 1, 1) := zo_27 (zd_b zq_prog_14_method_86_code_0 7 rfl rfl rfl)
theorem d_Mm_bar_8 : decode prog_14_method_86_code 8 = .ok (.invokevirtual 301, 3) := zo_182 (d := 1) (e := 45) (zd_b zq_prog_14_method_86_code_0 8 rfl rfl rfl) (zd_b zq_prog_14_method_86_code_0 9 rfl rfl rfl) (zd_b zq_prog_14_method_86_code_0 10 rfl rfl rfl)
theorem ok_Mm_bar_Mm_noCasting : z_ok M_Mm_bar M_Mm_noCasting 1 := ⟨z_mj9 (i := 17) rfl (by decide +kernel), rfl, ⟨by decide +kernel, by decide +kernel, by decide +kernel⟩, ⟨by decide, by decide⟩, z_mj1 (i := 14) rfl (by decide +kernel), rfl⟩
theorem d_Mm_bar_11 : decode prog_14_method_86_code 11 = .ok (.iconst 1, 1) := zo_4 (zd_b zq_prog_14_method_86_code_0 11 rfl rfl rfl)
theorem d_Mm_bar_12 : decode prog_14_method_86_code 12 = .ok (.invokevirtual 103, 3) := zo_182 (d := 0) (e := 103) (zd_b zq_prog_14_method_86_code_0 12 rfl rfl rfl) (zd_b zq_prog_14_method_86_code_0 13 rfl rfl rfl) (zd_b zq_prog_14_method_86_code_0 14 rfl rfl rfl)
theorem ok_Mm_bar_Mm_fails : z_ok M_Mm_bar M_Mm_fails 2 := ⟨z_mj7 (i := 196) rfl (by decide +kernel), rfl, ⟨by decide +kernel, by decide +kernel, by decide +kernel⟩, ⟨by decide, by decide⟩, z_mj1 (i := 14) rfl (by decide +kernel), rfl⟩
theorem d_Mm_bar_15 : decode prog_14_method_86_code 15 = .ok (.ifCond .eq 7, 3) := zo_153 (d := 0) (e := 7) (zd_b zq_prog_14_method_86_code_0 15 rfl rfl rfl) (zd_b zq_prog_14_method_86_code_0 16 rfl rfl rfl) (zd_b zq_prog_14_method_86_code_0 17 rfl rfl rfl) (by decide +kernel)
theorem d_Mm_bar_18 : decode prog_14_method_86_code 18 = .ok (.iconst 0, 1) := zo_3 (zd_b zq_prog_14_method_86_code_0 18 rfl rfl rfl)
theorem d_Mm_bar_19 : decode prog_14_method_86_code 19 = .ok (.goto 8, 3) := zo_167 (d := 0) (e := 8) (zd_b zq_prog_14_method_86_code_0 19 rfl rfl rfl) (zd_b zq_prog_14_method_86_code_0 20 rfl rfl rfl) (zd_b zq_prog_14_method_86_code_0 21 rfl rfl rfl) (by decide +kernel)
theorem d_Mm_bar_27 : decode prog_14_method_86_code 27 = .ok (.ireturn, 1) := zo_172 (zd_b zq_prog_14_method_86_code_0 27 rfl rfl rfl)
abbrev M_Mm_weld : zM := (⟨"IronpourModel", "weld", "(I)Z"⟩, prog_14_method_87_code, 4, (Option.some FieldType.boolean), 4, 84, [])
theorem d_Mm_weld_0 : decode prog_14_method_87_code 0 = .ok (.aload_n 0, 1) := zo_42 (zd_b zq_prog_14_method_87_code_0 0 rfl rfl rfl)
theorem d_Mm_weld_1 : decode prog_14_method_87_code 1 = .ok (.iconst 0, 1) := zo_3 (zd_b zq_prog_14_method_87_code_0 1 rfl rfl rfl)
theorem d_Mm_weld_2 : decode prog_14_method_87_code 2 = .ok (.putfield 84, 3) := zo_181 (d := 0) (e := 84) (zd_b zq_prog_14_method_87_code_0 2 rfl rfl rfl) (zd_b zq_prog_14_method_87_code_0 3 rfl rfl rfl) (zd_b zq_prog_14_method_87_code_0 4 rfl rfl rfl)
theorem d_Mm_weld_5 : decode prog_14_method_87_code 5 = .ok (.aload_n 0, 1) := zo_42 (zd_b zq_prog_14_method_87_code_0 5 rfl rfl rfl)
theorem d_Mm_weld_6 : decode prog_14_method_87_code 6 = .ok (.aload_n 0, 1) := zo_42 (zd_b zq_prog_14_method_87_code_0 6 rfl rfl rfl)
theorem d_Mm_weld_7 : decode prog_14_method_87_code 7 = .ok (.iload_n 1, 1) := zo_27 (zd_b zq_prog_14_method_87_code_0 7 rfl rfl rfl)
theorem d_Mm_weld_8 : decode prog_14_method_87_code 8 = .ok (.invokevirtual 301, 3) := zo_182 (d := 1) (e := 45) (zd_b zq_prog_14_method_87_code_0 8 rfl rfl rfl) (zd_b zq_prog_14_method_87_code_0 9 rfl rfl rfl) (zd_b zq_prog_14_method_87_code_0 10 rfl rfl rfl)
theorem ok_Mm_weld_Mm_noCasting : z_ok M_Mm_weld M_Mm_noCasting 1 := ⟨z_mj9 (i := 17) rfl (by decide +kernel), rfl, ⟨by decide +kernel, by decide +kernel, by decide +kernel⟩, ⟨by decide, by decide⟩, z_mj1 (i := 14) rfl (by decide +kernel), rfl⟩
theorem d_Mm_weld_11 : decode prog_14_method_87_code 11 = .ok (.iconst 1, 1) := zo_4 (zd_b zq_prog_14_method_87_code_0 11 rfl rfl rfl)
theorem d_Mm_weld_12 : decode prog_14_method_87_code 12 = .ok (.invokevirtual 103, 3) := zo_182 (d := 0) (e := 103) (zd_b zq_prog_14_method_87_code_0 12 rfl rfl rfl) (zd_b zq_prog_14_method_87_code_0 13 rfl rfl rfl) (zd_b zq_prog_14_method_87_code_0 14 rfl rfl rfl)
theorem ok_Mm_weld_Mm_fails : z_ok M_Mm_weld M_Mm_fails 2 := ⟨z_mj7 (i := 196) rfl (by decide +kernel), rfl, ⟨by decide +kernel, by decide +kernel, by decide +kernel⟩, ⟨by decide, by decide⟩, z_mj1 (i := 14) rfl (by decide +kernel), rfl⟩
theorem d_Mm_weld_15 : decode prog_14_method_87_code 15 = .ok (.ifCond .eq 5, 3) := zo_153 (d := 0) (e := 5) (zd_b zq_prog_14_method_87_code_0 15 rfl rfl rfl) (zd_b zq_prog_14_method_87_code_0 16 rfl rfl rfl) (zd_b zq_prog_14_method_87_code_0 17 rfl rfl rfl) (by decide +kernel)
theorem d_Mm_weld_18 : decode prog_14_method_87_code 18 = .ok (.iconst 0, 1) := zo_3 (zd_b zq_prog_14_method_87_code_0 18 rfl rfl rfl)
theorem d_Mm_weld_19 : decode prog_14_method_87_code 19 = .ok (.ireturn, 1) := zo_172 (zd_b zq_prog_14_method_87_code_0 19 rfl rfl rfl)
abbrev M_Mm_deliver : zM := (⟨"IronpourModel", "deliver", "(I)Z"⟩, prog_14_method_88_code, 3, (Option.some FieldType.boolean), 4, 84, [])
theorem d_Mm_deliver_0 : decode prog_14_method_88_code 0 = .ok (.aload_n 0, 1) := zo_42 (zd_b zq_prog_14_method_88_code_0 0 rfl rfl rfl)
theorem d_Mm_deliver_1 : decode prog_14_method_88_code 1 = .ok (.iconst 0, 1) := zo_3 (zd_b zq_prog_14_method_88_code_0 1 rfl rfl rfl)
theorem d_Mm_deliver_2 : decode prog_14_method_88_code 2 = .ok (.putfield 84, 3) := zo_181 (d := 0) (e := 84) (zd_b zq_prog_14_method_88_code_0 2 rfl rfl rfl) (zd_b zq_prog_14_method_88_code_0 3 rfl rfl rfl) (zd_b zq_prog_14_method_88_code_0 4 rfl rfl rfl)
theorem d_Mm_deliver_5 : decode prog_14_method_88_code 5 = .ok (.aload_n 0, 1) := zo_42 (zd_b zq_prog_14_method_88_code_0 5 rfl rfl rfl)
theorem d_Mm_deliver_6 : decode prog_14_method_88_code 6 = .ok (.aload_n 0, 1) := zo_42 (zd_b zq_prog_14_method_88_code_0 6 rfl rfl rfl)
theorem d_Mm_deliver_7 : decode prog_14_method_88_code 7 = .ok (.iload_n 1, 1) := zo_27 (zd_b zq_prog_14_method_88_code_0 7 rfl rfl rfl)
theorem d_Mm_deliver_8 : decode prog_14_method_88_code 8 = .ok (.invokevirtual 301, 3) := zo_182 (d := 1) (e := 45) (zd_b zq_prog_14_method_88_code_0 8 rfl rfl rfl) (zd_b zq_prog_14_method_88_code_0 9 rfl rfl rfl) (zd_b zq_prog_14_method_88_code_0 10 rfl rfl rfl)
theorem ok_Mm_deliver_Mm_noCasting : z_ok M_Mm_deliver M_Mm_noCasting 1 := ⟨z_mj9 (i := 17) rfl (by decide +kernel), rfl, ⟨by decide +kernel, by decide +kernel, by decide +kernel⟩, ⟨by decide, by decide⟩, z_mj1 (i := 14) rfl (by decide +kernel), rfl⟩
theorem d_Mm_deliver_11 : decode prog_14_method_88_code 11 = .ok (.iconst 1, 1) := zo_4 (zd_b zq_prog_14_method_88_code_0 11 rfl rfl rfl)
theorem d_Mm_deliver_12 : decode prog_14_method_88_code 12 = .ok (.invokevirtual 103, 3) := zo_182 (d := 0) (e := 103) (zd_b zq_prog_14_method_88_code_0 12 rfl rfl rfl) (zd_b zq_prog_14_method_88_code_0 13 rfl rfl rfl) (zd_b zq_prog_14_method_88_code_0 14 rfl rfl rfl)
theorem ok_Mm_deliver_Mm_fails : z_ok M_Mm_deliver M_Mm_fails 2 := ⟨z_mj7 (i := 196) rfl (by decide +kernel), rfl, ⟨by decide +kernel, by decide +kernel, by decide +kernel⟩, ⟨by decide, by decide⟩, z_mj1 (i := 14) rfl (by decide +kernel), rfl⟩
theorem d_Mm_deliver_15 : decode prog_14_method_88_code 15 = .ok (.ifCond .ne 32, 3) := zo_154 (d := 0) (e := 32) (zd_b zq_prog_14_method_88_code_0 15 rfl rfl rfl) (zd_b zq_prog_14_method_88_code_0 16 rfl rfl rfl) (zd_b zq_prog_14_method_88_code_0 17 rfl rfl rfl) (by decide +kernel)
theorem d_Mm_deliver_47 : decode prog_14_method_88_code 47 = .ok (.iconst 0, 1) := zo_3 (zd_b zq_prog_14_method_88_code_1 15 rfl rfl rfl)
theorem d_Mm_deliver_48 : decode prog_14_method_88_code 48 = .ok (.ireturn, 1) := zo_172 (zd_b zq_prog_14_method_88_code_1 16 rfl rfl rfl)
abbrev M_Mm_breakUp : zM := (⟨"IronpourModel", "breakUp", "(I)I"⟩, prog_14_method_89_code, 5, (Option.some FieldType.int), 4, 84, [])
theorem d_Mm_breakUp_0 : decode prog_14_method_89_code 0 = .ok (.aload_n 0, 1) := zo_42 (zd_b zq_prog_14_method_89_code_0 0 rfl rfl rfl)
theorem d_Mm_breakUp_1 : decode prog_14_method_89_code 1 = .ok (.iconst 0, 1) := zo_3 (zd_b zq_prog_14_method_89_code_0 1 rfl rfl rfl)
theorem d_Mm_breakUp_2 : decode prog_14_method_89_code 2 = .ok (.putfield 84, 3) := zo_181 (d := 0) (e := 84) (zd_b zq_prog_14_method_89_code_0 2 rfl rfl rfl) (zd_b zq_prog_14_method_89_code_0 3 rfl rfl rfl) (zd_b zq_prog_14_method_89_code_0 4 rfl rfl rfl)
theorem d_Mm_breakUp_5 : decode prog_14_method_89_code 5 = .ok (.aload_n 0, 1) := zo_42 (zd_b zq_prog_14_method_89_code_0 5 rfl rfl rfl)
theorem d_Mm_breakUp_6 : decode prog_14_method_89_code 6 = .ok (.aload_n 0, 1) := zo_42 (zd_b zq_prog_14_method_89_code_0 6 rfl rfl rfl)
theorem d_Mm_breakUp_7 : decode prog_14_method_89_code 7 = .ok (.iload_n 1, 1) := zo_27 (zd_b zq_prog_14_method_89_code_0 7 rfl rfl rfl)
theorem d_Mm_breakUp_8 : decode prog_14_method_89_code 8 = .ok (.invokevirtual 301, 3) := zo_182 (d := 1) (e := 45) (zd_b zq_prog_14_method_89_code_0 8 rfl rfl rfl) (zd_b zq_prog_14_method_89_code_0 9 rfl rfl rfl) (zd_b zq_prog_14_method_89_code_0 10 rfl rfl rfl)
theorem ok_Mm_breakUp_Mm_noCasting : z_ok M_Mm_breakUp M_Mm_noCasting 1 := ⟨z_mj9 (i := 17) rfl (by decide +kernel), rfl, ⟨by decide +kernel, by decide +kernel, by decide +kernel⟩, ⟨by decide, by decide⟩, z_mj1 (i := 14) rfl (by decide +kernel), rfl⟩
theorem d_Mm_breakUp_11 : decode prog_14_method_89_code 11 = .ok (.iconst 1, 1) := zo_4 (zd_b zq_prog_14_method_89_code_0 11 rfl rfl rfl)
theorem d_Mm_breakUp_12 : decode prog_14_method_89_code 12 = .ok (.invokevirtual 103, 3) := zo_182 (d := 0) (e := 103) (zd_b zq_prog_14_method_89_code_0 12 rfl rfl rfl) (zd_b zq_prog_14_method_89_code_0 13 rfl rfl rfl) (zd_b zq_prog_14_method_89_code_0 14 rfl rfl rfl)
theorem ok_Mm_breakUp_Mm_fails : z_ok M_Mm_breakUp M_Mm_fails 2 := ⟨z_mj7 (i := 196) rfl (by decide +kernel), rfl, ⟨by decide +kernel, by decide +kernel, by decide +kernel⟩, ⟨by decide, by decide⟩, z_mj1 (i := 14) rfl (by decide +kernel), rfl⟩
theorem d_Mm_breakUp_15 : decode prog_14_method_89_code 15 = .ok (.ifCond .ne 32, 3) := zo_154 (d := 0) (e := 32) (zd_b zq_prog_14_method_89_code_0 15 rfl rfl rfl) (zd_b zq_prog_14_method_89_code_0 16 rfl rfl rfl) (zd_b zq_prog_14_method_89_code_0 17 rfl rfl rfl) (by decide +kernel)
theorem d_Mm_breakUp_47 : decode prog_14_method_89_code 47 = .ok (.iconst 0, 1) := zo_3 (zd_b zq_prog_14_method_89_code_1 15 rfl rfl rfl)
theorem d_Mm_breakUp_48 : decode prog_14_method_89_code 48 = .ok (.ireturn, 1) := zo_172 (zd_b zq_prog_14_method_89_code_1 16 rfl rfl rfl)
abbrev M_Mm_with : zM := (⟨"IronpourModel", "with", "(I)I"⟩, prog_14_method_90_code, 4, (Option.some FieldType.int), 4, 84, [])
theorem d_Mm_with_0 : decode prog_14_method_90_code 0 = .ok (.iconst 0, 1) := zo_3 (zd_b zq_prog_14_method_90_code_0 0 rfl rfl rfl)
theorem d_Mm_with_1 : decode prog_14_method_90_code 1 = .ok (.istore_n 2, 1) := zo_61 (zd_b zq_prog_14_method_90_code_0 1 rfl rfl rfl)
theorem d_Mm_with_2 : decode prog_14_method_90_code 2 = .ok (.iconst 0, 1) := zo_3 (zd_b zq_prog_14_method_90_code_0 2 rfl rfl rfl)
theorem d_Mm_with_3 : decode prog_14_method_90_code 3 = .ok (.istore_n 3, 1) := zo_62 (zd_b zq_prog_14_method_90_code_0 3 rfl rfl rfl)
theorem d_Mm_with_4 : decode prog_14_method_90_code 4 = .ok (.iload_n 3, 1) := zo_29 (zd_b zq_prog_14_method_90_code_0 4 rfl rfl rfl)
theorem d_Mm_with_5 : decode prog_14_method_90_code 5 = .ok (.aload_n 0, 1) := zo_42 (zd_b zq_prog_14_method_90_code_0 5 rfl rfl rfl)
theorem d_Mm_with_6 : decode prog_14_method_90_code 6 = .ok (.getfield 78, 3) := zo_180 (d := 0) (e := 78) (zd_b zq_prog_14_method_90_code_0 6 rfl rfl rfl) (zd_b zq_prog_14_method_90_code_0 7 rfl rfl rfl) (zd_b zq_prog_14_method_90_code_0 8 rfl rfl rfl)
theorem d_Mm_with_9 : decode prog_14_method_90_code 9 = .ok (.invokevirtual 208, 3) := zo_182 (d := 0) (e := 208) (zd_b zq_prog_14_method_90_code_0 9 rfl rfl rfl) (zd_b zq_prog_14_method_90_code_0 10 rfl rfl rfl) (zd_b zq_prog_14_method_90_code_0 11 rfl rfl rfl)
theorem ok_Mm_with_AL_size : z_ok M_Mm_with M_AL_size 0 := ⟨z_mj2 (i := 172) rfl (by decide +kernel), rfl, ⟨by decide +kernel, by decide +kernel, by decide +kernel⟩, ⟨by decide, by decide⟩, z_mj1 (i := 13) rfl (by decide +kernel), rfl⟩
theorem d_Mm_with_12 : decode prog_14_method_90_code 12 = .ok (.if_icmp .ge 35, 3) := zo_162 (d := 0) (e := 35) (zd_b zq_prog_14_method_90_code_0 12 rfl rfl rfl) (zd_b zq_prog_14_method_90_code_0 13 rfl rfl rfl) (zd_b zq_prog_14_method_90_code_0 14 rfl rfl rfl) (by decide +kernel)
theorem d_Mm_with_47 : decode prog_14_method_90_code 47 = .ok (.iload_n 2, 1) := zo_28 (zd_b zq_prog_14_method_90_code_1 15 rfl rfl rfl)
theorem d_Mm_with_48 : decode prog_14_method_90_code 48 = .ok (.ireturn, 1) := zo_172 (zd_b zq_prog_14_method_90_code_1 16 rfl rfl rfl)
abbrev M_Mm_worst : zM := (⟨"IronpourModel", "worst", "()C"⟩, prog_14_method_91_code, 6, (Option.some FieldType.char), 5, 107, [])
theorem d_Mm_worst_0 : decode prog_14_method_91_code 0 = .ok (.aload_n 0, 1) := zo_42 (zd_b zq_prog_14_method_91_code_0 0 rfl rfl rfl)
theorem d_Mm_worst_1 : decode prog_14_method_91_code 1 = .ok (.iconst 0, 1) := zo_3 (zd_b zq_prog_14_method_91_code_0 1 rfl rfl rfl)
theorem d_Mm_worst_2 : decode prog_14_method_91_code 2 = .ok (.putfield 84, 3) := zo_181 (d := 0) (e := 84) (zd_b zq_prog_14_method_91_code_0 2 rfl rfl rfl) (zd_b zq_prog_14_method_91_code_0 3 rfl rfl rfl) (zd_b zq_prog_14_method_91_code_0 4 rfl rfl rfl)
theorem d_Mm_worst_5 : decode prog_14_method_91_code 5 = .ok (.aload_n 0, 1) := zo_42 (zd_b zq_prog_14_method_91_code_0 5 rfl rfl rfl)
theorem d_Mm_worst_6 : decode prog_14_method_91_code 6 = .ok (.bipush 12, 2) := zo_16 (d := 12) (zd_b zq_prog_14_method_91_code_0 6 rfl rfl rfl) (zd_b zq_prog_14_method_91_code_0 7 rfl rfl rfl) (by decide +kernel)
theorem d_Mm_worst_8 : decode prog_14_method_91_code 8 = .ok (.invokevirtual 319, 3) := zo_182 (d := 1) (e := 63) (zd_b zq_prog_14_method_91_code_0 8 rfl rfl rfl) (zd_b zq_prog_14_method_91_code_0 9 rfl rfl rfl) (zd_b zq_prog_14_method_91_code_0 10 rfl rfl rfl)
theorem ok_Mm_worst_Mm_with : z_ok M_Mm_worst M_Mm_with 1 := ⟨z_mj9 (i := 63) rfl (by decide +kernel), rfl, ⟨by decide +kernel, by decide +kernel, by decide +kernel⟩, ⟨by decide, by decide⟩, z_mj1 (i := 14) rfl (by decide +kernel), rfl⟩
theorem ln_Mm_319 : Cond.methodLink "IronpourModel" 319 M_Mm_with.1 ∈ z_gw := z_mj9 (i := 60) rfl (by decide +kernel)
theorem w_im_Mm_with : Cond.instanceMethod M_Mm_with.1 ∈ z_gw := z_mj9 (i := 62) rfl (by decide +kernel)
theorem w_se_Mm_with : Cond.selects M_Mm_with.1.cls M_Mm_with.1 M_Mm_with.1 ∈ z_gw := z_mem (i := 56) (by decide +kernel) (by decide +kernel)
theorem d_Mm_worst_11 : decode prog_14_method_91_code 11 = .ok (.istore_n 1, 1) := zo_60 (zd_b zq_prog_14_method_91_code_0 11 rfl rfl rfl)
theorem d_Mm_worst_12 : decode prog_14_method_91_code 12 = .ok (.aload_n 0, 1) := zo_42 (zd_b zq_prog_14_method_91_code_0 12 rfl rfl rfl)
theorem d_Mm_worst_13 : decode prog_14_method_91_code 13 = .ok (.bipush 32, 2) := zo_16 (d := 32) (zd_b zq_prog_14_method_91_code_0 13 rfl rfl rfl) (zd_b zq_prog_14_method_91_code_0 14 rfl rfl rfl) (by decide +kernel)
theorem d_Mm_worst_15 : decode prog_14_method_91_code 15 = .ok (.invokevirtual 319, 3) := zo_182 (d := 1) (e := 63) (zd_b zq_prog_14_method_91_code_0 15 rfl rfl rfl) (zd_b zq_prog_14_method_91_code_0 16 rfl rfl rfl) (zd_b zq_prog_14_method_91_code_0 17 rfl rfl rfl)
theorem d_Mm_worst_18 : decode prog_14_method_91_code 18 = .ok (.istore_n 2, 1) := zo_61 (zd_b zq_prog_14_method_91_code_0 18 rfl rfl rfl)
theorem d_Mm_worst_19 : decode prog_14_method_91_code 19 = .ok (.aload_n 0, 1) := zo_42 (zd_b zq_prog_14_method_91_code_0 19 rfl rfl rfl)
theorem d_Mm_worst_20 : decode prog_14_method_91_code 20 = .ok (.iconst 2, 1) := zo_5 (zd_b zq_prog_14_method_91_code_0 20 rfl rfl rfl)
theorem d_Mm_worst_21 : decode prog_14_method_91_code 21 = .ok (.invokevirtual 319, 3) := zo_182 (d := 1) (e := 63) (zd_b zq_prog_14_method_91_code_0 21 rfl rfl rfl) (zd_b zq_prog_14_method_91_code_0 22 rfl rfl rfl) (zd_b zq_prog_14_method_91_code_0 23 rfl rfl rfl)
theorem d_Mm_worst_24 : decode prog_14_method_91_code 24 = .ok (.istore_n 3, 1) := zo_62 (zd_b zq_prog_14_method_91_code_0 24 rfl rfl rfl)
theorem d_Mm_worst_25 : decode prog_14_method_91_code 25 = .ok (.aload_n 0, 1) := zo_42 (zd_b zq_prog_14_method_91_code_0 25 rfl rfl rfl)
theorem d_Mm_worst_26 : decode prog_14_method_91_code 26 = .ok (.bipush 17, 2) := zo_16 (d := 17) (zd_b zq_prog_14_method_91_code_0 26 rfl rfl rfl) (zd_b zq_prog_14_method_91_code_0 27 rfl rfl rfl) (by decide +kernel)
theorem d_Mm_worst_28 : decode prog_14_method_91_code 28 = .ok (.invokevirtual 319, 3) := zo_182 (d := 1) (e := 63) (zd_b zq_prog_14_method_91_code_0 28 rfl rfl rfl) (zd_b zq_prog_14_method_91_code_0 29 rfl rfl rfl) (zd_b zq_prog_14_method_91_code_0 30 rfl rfl rfl)
theorem d_Mm_worst_31 : decode prog_14_method_91_code 31 = .ok (.istore 4, 2) := zo_54 (d := 4) (zd_b zq_prog_14_method_91_code_0 31 rfl rfl rfl) (zd_b zq_prog_14_method_91_code_1 0 rfl rfl rfl)
theorem d_Mm_worst_33 : decode prog_14_method_91_code 33 = .ok (.iload_n 1, 1) := zo_27 (zd_b zq_prog_14_method_91_code_1 1 rfl rfl rfl)
theorem d_Mm_worst_34 : decode prog_14_method_91_code 34 = .ok (.iload_n 2, 1) := zo_28 (zd_b zq_prog_14_method_91_code_1 2 rfl rfl rfl)
theorem d_Mm_worst_35 : decode prog_14_method_91_code 35 = .ok (.invokestatic 193, 3) := zo_184 (d := 0) (e := 193) (zd_b zq_prog_14_method_91_code_1 3 rfl rfl rfl) (zd_b zq_prog_14_method_91_code_1 4 rfl rfl rfl) (zd_b zq_prog_14_method_91_code_1 5 rfl rfl rfl)
theorem d_Mm_worst_38 : decode prog_14_method_91_code 38 = .ok (.iload_n 3, 1) := zo_29 (zd_b zq_prog_14_method_91_code_1 6 rfl rfl rfl)
theorem d_Mm_worst_39 : decode prog_14_method_91_code 39 = .ok (.iload 4, 2) := zo_21 (d := 4) (zd_b zq_prog_14_method_91_code_1 7 rfl rfl rfl) (zd_b zq_prog_14_method_91_code_1 8 rfl rfl rfl)
theorem d_Mm_worst_41 : decode prog_14_method_91_code 41 = .ok (.invokestatic 193, 3) := zo_184 (d := 0) (e := 193) (zd_b zq_prog_14_method_91_code_1 9 rfl rfl rfl) (zd_b zq_prog_14_method_91_code_1 10 rfl rfl rfl) (zd_b zq_prog_14_method_91_code_1 11 rfl rfl rfl)
theorem d_Mm_worst_44 : decode prog_14_method_91_code 44 = .ok (.invokestatic 193, 3) := zo_184 (d := 0) (e := 193) (zd_b zq_prog_14_method_91_code_1 12 rfl rfl rfl) (zd_b zq_prog_14_method_91_code_1 13 rfl rfl rfl) (zd_b zq_prog_14_method_91_code_1 14 rfl rfl rfl)
theorem d_Mm_worst_47 : decode prog_14_method_91_code 47 = .ok (.istore 5, 2) := zo_54 (d := 5) (zd_b zq_prog_14_method_91_code_1 15 rfl rfl rfl) (zd_b zq_prog_14_method_91_code_1 16 rfl rfl rfl)
theorem d_Mm_worst_49 : decode prog_14_method_91_code 49 = .ok (.aload_n 0, 1) := zo_42 (zd_b zq_prog_14_method_91_code_1 17 rfl rfl rfl)
theorem d_Mm_worst_50 : decode prog_14_method_91_code 50 = .ok (.iload 5, 2) := zo_21 (d := 5) (zd_b zq_prog_14_method_91_code_1 18 rfl rfl rfl) (zd_b zq_prog_14_method_91_code_1 19 rfl rfl rfl)
theorem d_Mm_worst_52 : decode prog_14_method_91_code 52 = .ok (.ifCond .ne 7, 3) := zo_154 (d := 0) (e := 7) (zd_b zq_prog_14_method_91_code_1 20 rfl rfl rfl) (zd_b zq_prog_14_method_91_code_1 21 rfl rfl rfl) (zd_b zq_prog_14_method_91_code_1 22 rfl rfl rfl) (by decide +kernel)
theorem d_Mm_worst_55 : decode prog_14_method_91_code 55 = .ok (.iconst 1, 1) := zo_4 (zd_b zq_prog_14_method_91_code_1 23 rfl rfl rfl)
theorem d_Mm_worst_56 : decode prog_14_method_91_code 56 = .ok (.goto 4, 3) := zo_167 (d := 0) (e := 4) (zd_b zq_prog_14_method_91_code_1 24 rfl rfl rfl) (zd_b zq_prog_14_method_91_code_1 25 rfl rfl rfl) (zd_b zq_prog_14_method_91_code_1 26 rfl rfl rfl) (by decide +kernel)
theorem d_Mm_worst_60 : decode prog_14_method_91_code 60 = .ok (.iconst 1, 1) := zo_4 (zd_b zq_prog_14_method_91_code_1 28 rfl rfl rfl)
theorem d_Mm_worst_61 : decode prog_14_method_91_code 61 = .ok (.invokevirtual 103, 3) := zo_182 (d := 0) (e := 103) (zd_b zq_prog_14_method_91_code_1 29 rfl rfl rfl) (zd_b zq_prog_14_method_91_code_1 30 rfl rfl rfl) (zd_b zq_prog_14_method_91_code_1 31 rfl rfl rfl)
theorem ok_Mm_worst_Mm_fails : z_ok M_Mm_worst M_Mm_fails 2 := ⟨z_mj7 (i := 196) rfl (by decide +kernel), rfl, ⟨by decide +kernel, by decide +kernel, by decide +kernel⟩, ⟨by decide, by decide⟩, z_mj1 (i := 14) rfl (by decide +kernel), rfl⟩
theorem d_Mm_worst_64 : decode prog_14_method_91_code 64 = .ok (.ifCond .eq 5, 3) := zo_153 (d := 0) (e := 5) (zd_b zq_prog_14_method_91_code_2 0 rfl rfl rfl) (zd_b zq_prog_14_method_91_code_2 1 rfl rfl rfl) (zd_b zq_prog_14_method_91_code_2 2 rfl rfl rfl) (by decide +kernel)
theorem d_Mm_worst_67 : decode prog_14_method_91_code 67 = .ok (.iconst 0, 1) := zo_3 (zd_b zq_prog_14_method_91_code_2 3 rfl rfl rfl)
theorem d_Mm_worst_68 : decode prog_14_method_91_code 68 = .ok (.ireturn, 1) := zo_172 (zd_b zq_prog_14_method_91_code_2 4 rfl rfl rfl)
abbrev M_Mm_delivered : zM := (⟨"IronpourModel", "delivered", "()J"⟩, prog_14_method_92_code, 1, (Option.some FieldType.long), 1, 20, [])
theorem d_Mm_delivered_0 : decode prog_14_method_92_code 0 = .ok (.aload_n 0, 1) := zo_42 (zd_b zq_prog_14_method_92_code_0 0 rfl rfl rfl)
theorem d_Mm_delivered_1 : decode prog_14_method_92_code 1 = .ok (.iconst 0, 1) := zo_3 (zd_b zq_prog_14_method_92_code_0 1 rfl rfl rfl)
theorem d_Mm_delivered_2 : decode prog_14_method_92_code 2 = .ok (.putfield 84, 3) := zo_181 (d := 0) (e := 84) (zd_b zq_prog_14_method_92_code_0 2 rfl rfl rfl) (zd_b zq_prog_14_method_92_code_0 3 rfl rfl rfl) (zd_b zq_prog_14_method_92_code_0 4 rfl rfl rfl)
theorem d_Mm_delivered_5 : decode prog_14_method_92_code 5 = .ok (.aload_n 0, 1) := zo_42 (zd_b zq_prog_14_method_92_code_0 5 rfl rfl rfl)
theorem d_Mm_delivered_6 : decode prog_14_method_92_code 6 = .ok (.getfield 316, 3) := zo_180 (d := 1) (e := 60) (zd_b zq_prog_14_method_92_code_0 6 rfl rfl rfl) (zd_b zq_prog_14_method_92_code_0 7 rfl rfl rfl) (zd_b zq_prog_14_method_92_code_0 8 rfl rfl rfl)
theorem fs_Mm_316 : z_fs "IronpourModel" 316 12 30 := ⟨R_Mm, "IronpourModel", F_Mm, 31, rfl, u_Mm, by decide, Or.inl ⟨z_mj7 (i := 113) rfl (by decide +kernel), Or.inl rfl⟩⟩
theorem d_Mm_delivered_9 : decode prog_14_method_92_code 9 = .ok (.lreturn, 1) := zo_173 (zd_b zq_prog_14_method_92_code_0 9 rfl rfl rfl)
set_option maxHeartbeats 4000000 in
set_option maxRecDepth 100000 in
theorem C_Mm_delivered (g : zG) (m mp mf mh mn mt mz mc_ mq mgr ml mi mr mm mu mk mx : Nat) (th pt cl wa co_ fi bu ho lh mg wd fpi fal : Int32) (po de : Int64) : CT g M_Mm_delivered [.ref m] [(m, .inr (12, [.int th, .ref mp, .int pt, .ref mf, .ref mh, .ref mn, .ref mt, .ref mz, .ref mc_, .ref mq, .ref mgr, .int cl, .int wa, .int co_, .int fi, .int bu, .int ho, .ref ml, .ref mi, .ref mr, .int lh, .int mg, .int wd, .int fpi, .int fal, .ref mm, .ref mu, .ref mk, .ref mx, .long po, .long de]))] (fun o cs1 => o = .inl (some (.long de)) ∧ cs1 = [(m, .inr (12, [.int 0, .ref mp, .int pt, .ref mf, .ref mh, .ref mn, .ref mt, .ref mz, .ref mc_, .ref mq, .ref mgr, .int cl, .int wa, .int co_, .int fi, .int bu, .int ho, .ref ml, .ref mi, .ref mr, .int lh, .int mg, .int wd, .int fpi, .int fal, .ref mm, .ref mu, .ref mk, .ref mx, .long po, .long de]))]) 0 0 := by
  refine z_of (by decide) rfl (Nat.le_of_ble_eq_true rfl) (fun w0 => ?_)
  refine r_lvE (lv2 := [(0, .ref m)]) rfl ?_
  refine r_aload_n d_Mm_delivered_0 rfl 0 rfl ?_
  refine r_iconst d_Mm_delivered_1 (v := 0) (by decide) ?_
  refine r_put fp_Mm_84 d_Mm_delivered_2 (fun h => nomatch h) rfl rfl (q0 := 0) rfl (Nat.le_of_ble_eq_true rfl) (cs' := [(m, .inr (12, [.int 0, .ref mp, .int pt, .ref mf, .ref mh, .ref mn, .ref mt, .ref mz, .ref mc_, .ref mq, .ref mgr, .int cl, .int wa, .int co_, .int fi, .int bu, .int ho, .ref ml, .ref mi, .ref mr, .int lh, .int mg, .int wd, .int fpi, .int fal, .ref mm, .ref mu, .ref mk, .ref mx, .long po, .long de]))]) rfl ?_
  refine r_aload_n d_Mm_delivered_5 rfl 0 rfl ?_
  refine r_get fs_Mm_316 d_Mm_delivered_6 (q0 := 0) rfl rfl ?_
  refine r_lret d_Mm_delivered_9 rfl ?_
  exact ⟨rfl, rfl⟩
abbrev M_Mm_goodShare : zM := (⟨"IronpourModel", "goodShare", "()F"⟩, prog_14_method_93_code, 1, (Option.some FieldType.float), 2, 42, [])
theorem d_Mm_goodShare_0 : decode prog_14_method_93_code 0 = .ok (.aload_n 0, 1) := zo_42 (zd_b zq_prog_14_method_93_code_0 0 rfl rfl rfl)
theorem d_Mm_goodShare_1 : decode prog_14_method_93_code 1 = .ok (.iconst 0, 1) := zo_3 (zd_b zq_prog_14_method_93_code_0 1 rfl rfl rfl)
theorem d_Mm_goodShare_2 : decode prog_14_method_93_code 2 = .ok (.putfield 84, 3) := zo_181 (d := 0) (e := 84) (zd_b zq_prog_14_method_93_code_0 2 rfl rfl rfl) (zd_b zq_prog_14_method_93_code_0 3 rfl rfl rfl) (zd_b zq_prog_14_method_93_code_0 4 rfl rfl rfl)
theorem d_Mm_goodShare_5 : decode prog_14_method_93_code 5 = .ok (.aload_n 0, 1) := zo_42 (zd_b zq_prog_14_method_93_code_0 5 rfl rfl rfl)
theorem d_Mm_goodShare_6 : decode prog_14_method_93_code 6 = .ok (.aload_n 0, 1) := zo_42 (zd_b zq_prog_14_method_93_code_0 6 rfl rfl rfl)
theorem d_Mm_goodShare_7 : decode prog_14_method_93_code 7 = .ok (.getfield 293, 3) := zo_180 (d := 1) (e := 37) (zd_b zq_prog_14_method_93_code_0 7 rfl rfl rfl) (zd_b zq_prog_14_method_93_code_0 8 rfl rfl rfl) (zd_b zq_prog_14_method_93_code_0 9 rfl rfl rfl)
theorem fs_Mm_293 : z_fs "IronpourModel" 293 12 29 := ⟨R_Mm, "IronpourModel", F_Mm, 31, rfl, u_Mm, by decide, Or.inl ⟨z_mj7 (i := 112) rfl (by decide +kernel), Or.inl rfl⟩⟩
theorem d_Mm_goodShare_10 : decode prog_14_method_93_code 10 = .ok (.lconst 0, 1) := zo_9 (zd_b zq_prog_14_method_93_code_0 10 rfl rfl rfl)
theorem d_Mm_goodShare_11 : decode prog_14_method_93_code 11 = .ok (.lcmp, 1) := zo_148 (zd_b zq_prog_14_method_93_code_0 11 rfl rfl rfl)
theorem d_Mm_goodShare_12 : decode prog_14_method_93_code 12 = .ok (.ifCond .ne 7, 3) := zo_154 (d := 0) (e := 7) (zd_b zq_prog_14_method_93_code_0 12 rfl rfl rfl) (zd_b zq_prog_14_method_93_code_0 13 rfl rfl rfl) (zd_b zq_prog_14_method_93_code_0 14 rfl rfl rfl) (by decide +kernel)
theorem d_Mm_goodShare_15 : decode prog_14_method_93_code 15 = .ok (.iconst 1, 1) := zo_4 (zd_b zq_prog_14_method_93_code_0 15 rfl rfl rfl)
theorem d_Mm_goodShare_16 : decode prog_14_method_93_code 16 = .ok (.goto 4, 3) := zo_167 (d := 0) (e := 4) (zd_b zq_prog_14_method_93_code_0 16 rfl rfl rfl) (zd_b zq_prog_14_method_93_code_0 17 rfl rfl rfl) (zd_b zq_prog_14_method_93_code_0 18 rfl rfl rfl) (by decide +kernel)
theorem d_Mm_goodShare_20 : decode prog_14_method_93_code 20 = .ok (.iconst 1, 1) := zo_4 (zd_b zq_prog_14_method_93_code_0 20 rfl rfl rfl)
theorem d_Mm_goodShare_21 : decode prog_14_method_93_code 21 = .ok (.invokevirtual 103, 3) := zo_182 (d := 0) (e := 103) (zd_b zq_prog_14_method_93_code_0 21 rfl rfl rfl) (zd_b zq_prog_14_method_93_code_0 22 rfl rfl rfl) (zd_b zq_prog_14_method_93_code_0 23 rfl rfl rfl)
theorem ok_Mm_goodShare_Mm_fails : z_ok M_Mm_goodShare M_Mm_fails 2 := ⟨z_mj7 (i := 196) rfl (by decide +kernel), rfl, ⟨by decide +kernel, by decide +kernel, by decide +kernel⟩, ⟨by decide, by decide⟩, z_mj1 (i := 14) rfl (by decide +kernel), rfl⟩
theorem d_Mm_goodShare_24 : decode prog_14_method_93_code 24 = .ok (.ifCond .eq 7, 3) := zo_153 (d := 0) (e := 7) (zd_b zq_prog_14_method_93_code_0 24 rfl rfl rfl) (zd_b zq_prog_14_method_93_code_0 25 rfl rfl rfl) (zd_b zq_prog_14_method_93_code_0 26 rfl rfl rfl) (by decide +kernel)
theorem d_Mm_goodShare_27 : decode prog_14_method_93_code 27 = .ok (.fconst 0, 1) := zo_11 (zd_b zq_prog_14_method_93_code_0 27 rfl rfl rfl)
theorem d_Mm_goodShare_28 : decode prog_14_method_93_code 28 = .ok (.goto 14, 3) := zo_167 (d := 0) (e := 14) (zd_b zq_prog_14_method_93_code_0 28 rfl rfl rfl) (zd_b zq_prog_14_method_93_code_0 29 rfl rfl rfl) (zd_b zq_prog_14_method_93_code_0 30 rfl rfl rfl) (by decide +kernel)
theorem d_Mm_goodShare_42 : decode prog_14_method_93_code 42 = .ok (.freturn, 1) := zo_174 (zd_b zq_prog_14_method_93_code_1 10 rfl rfl rfl)
abbrev M_Mm_meanBar : zM := (⟨"IronpourModel", "meanBar", "()D"⟩, prog_14_method_94_code, 3, (Option.some FieldType.double), 6, 130, [])
theorem d_Mm_meanBar_0 : decode prog_14_method_94_code 0 = .ok (.aload_n 0, 1) := zo_42 (zd_b zq_prog_14_method_94_code_0 0 rfl rfl rfl)
theorem d_Mm_meanBar_1 : decode prog_14_method_94_code 1 = .ok (.iconst 0, 1) := zo_3 (zd_b zq_prog_14_method_94_code_0 1 rfl rfl rfl)
theorem d_Mm_meanBar_2 : decode prog_14_method_94_code 2 = .ok (.putfield 84, 3) := zo_181 (d := 0) (e := 84) (zd_b zq_prog_14_method_94_code_0 2 rfl rfl rfl) (zd_b zq_prog_14_method_94_code_0 3 rfl rfl rfl) (zd_b zq_prog_14_method_94_code_0 4 rfl rfl rfl)
theorem d_Mm_meanBar_5 : decode prog_14_method_94_code 5 = .ok (.aload_n 0, 1) := zo_42 (zd_b zq_prog_14_method_94_code_0 5 rfl rfl rfl)
theorem d_Mm_meanBar_6 : decode prog_14_method_94_code 6 = .ok (.aload_n 0, 1) := zo_42 (zd_b zq_prog_14_method_94_code_0 6 rfl rfl rfl)
theorem d_Mm_meanBar_7 : decode prog_14_method_94_code 7 = .ok (.getfield 78, 3) := zo_180 (d := 0) (e := 78) (zd_b zq_prog_14_method_94_code_0 7 rfl rfl rfl) (zd_b zq_prog_14_method_94_code_0 8 rfl rfl rfl) (zd_b zq_prog_14_method_94_code_0 9 rfl rfl rfl)
theorem d_Mm_meanBar_10 : decode prog_14_method_94_code 10 = .ok (.invokevirtual 289, 3) := zo_182 (d := 1) (e := 33) (zd_b zq_prog_14_method_94_code_0 10 rfl rfl rfl) (zd_b zq_prog_14_method_94_code_0 11 rfl rfl rfl) (zd_b zq_prog_14_method_94_code_0 12 rfl rfl rfl)
theorem ok_Mm_meanBar_AL_isEmpty : z_ok M_Mm_meanBar M_AL_isEmpty 0 := ⟨z_mj6 (i := 115) rfl (by decide +kernel), rfl, ⟨by decide +kernel, by decide +kernel, by decide +kernel⟩, ⟨by decide, by decide⟩, z_mj1 (i := 13) rfl (by decide +kernel), rfl⟩
theorem d_Mm_meanBar_13 : decode prog_14_method_94_code 13 = .ok (.iconst 1, 1) := zo_4 (zd_b zq_prog_14_method_94_code_0 13 rfl rfl rfl)
theorem d_Mm_meanBar_14 : decode prog_14_method_94_code 14 = .ok (.invokevirtual 103, 3) := zo_182 (d := 0) (e := 103) (zd_b zq_prog_14_method_94_code_0 14 rfl rfl rfl) (zd_b zq_prog_14_method_94_code_0 15 rfl rfl rfl) (zd_b zq_prog_14_method_94_code_0 16 rfl rfl rfl)
theorem ok_Mm_meanBar_Mm_fails : z_ok M_Mm_meanBar M_Mm_fails 2 := ⟨z_mj7 (i := 196) rfl (by decide +kernel), rfl, ⟨by decide +kernel, by decide +kernel, by decide +kernel⟩, ⟨by decide, by decide⟩, z_mj1 (i := 14) rfl (by decide +kernel), rfl⟩
theorem d_Mm_meanBar_17 : decode prog_14_method_94_code 17 = .ok (.ifCond .eq 5, 3) := zo_153 (d := 0) (e := 5) (zd_b zq_prog_14_method_94_code_0 17 rfl rfl rfl) (zd_b zq_prog_14_method_94_code_0 18 rfl rfl rfl) (zd_b zq_prog_14_method_94_code_0 19 rfl rfl rfl) (by decide +kernel)
theorem d_Mm_meanBar_20 : decode prog_14_method_94_code 20 = .ok (.dconst 0, 1) := zo_14 (zd_b zq_prog_14_method_94_code_0 20 rfl rfl rfl)
theorem d_Mm_meanBar_21 : decode prog_14_method_94_code 21 = .ok (.dreturn, 1) := zo_175 (zd_b zq_prog_14_method_94_code_0 21 rfl rfl rfl)
abbrev M_Mm_isSound : zM := (⟨"IronpourModel", "isSound", "()Z"⟩, prog_14_method_95_code, 1, (Option.some FieldType.boolean), 1, 20, [])
theorem d_Mm_isSound_0 : decode prog_14_method_95_code 0 = .ok (.aload_n 0, 1) := zo_42 (zd_b zq_prog_14_method_95_code_0 0 rfl rfl rfl)
theorem d_Mm_isSound_1 : decode prog_14_method_95_code 1 = .ok (.iconst 0, 1) := zo_3 (zd_b zq_prog_14_method_95_code_0 1 rfl rfl rfl)
theorem d_Mm_isSound_2 : decode prog_14_method_95_code 2 = .ok (.putfield 84, 3) := zo_181 (d := 0) (e := 84) (zd_b zq_prog_14_method_95_code_0 2 rfl rfl rfl) (zd_b zq_prog_14_method_95_code_0 3 rfl rfl rfl) (zd_b zq_prog_14_method_95_code_0 4 rfl rfl rfl)
theorem d_Mm_isSound_5 : decode prog_14_method_95_code 5 = .ok (.iconst 1, 1) := zo_4 (zd_b zq_prog_14_method_95_code_0 5 rfl rfl rfl)
theorem d_Mm_isSound_6 : decode prog_14_method_95_code 6 = .ok (.ireturn, 1) := zo_172 (zd_b zq_prog_14_method_95_code_0 6 rfl rfl rfl)
set_option maxHeartbeats 4000000 in
set_option maxRecDepth 100000 in
theorem C_Mm_isSound (g : zG) (m mp mf mh mn mt mz mc_ mq mgr ml mi mr mm mu mk mx : Nat) (th pt cl wa co_ fi bu ho lh mg wd fpi fal : Int32) (po de : Int64) : CT g M_Mm_isSound [.ref m] [(m, .inr (12, [.int th, .ref mp, .int pt, .ref mf, .ref mh, .ref mn, .ref mt, .ref mz, .ref mc_, .ref mq, .ref mgr, .int cl, .int wa, .int co_, .int fi, .int bu, .int ho, .ref ml, .ref mi, .ref mr, .int lh, .int mg, .int wd, .int fpi, .int fal, .ref mm, .ref mu, .ref mk, .ref mx, .long po, .long de]))] (fun o cs1 => o = .inl (some (.int 1)) ∧ cs1 = [(m, .inr (12, [.int 0, .ref mp, .int pt, .ref mf, .ref mh, .ref mn, .ref mt, .ref mz, .ref mc_, .ref mq, .ref mgr, .int cl, .int wa, .int co_, .int fi, .int bu, .int ho, .ref ml, .ref mi, .ref mr, .int lh, .int mg, .int wd, .int fpi, .int fal, .ref mm, .ref mu, .ref mk, .ref mx, .long po, .long de]))]) 0 0 := by
  refine z_of (by decide) rfl (Nat.le_of_ble_eq_true rfl) (fun w0 => ?_)
  refine r_lvE (lv2 := [(0, .ref m)]) rfl ?_
  refine r_aload_n d_Mm_isSound_0 rfl 0 rfl ?_
  refine r_iconst d_Mm_isSound_1 (v := 0) (by decide) ?_
  refine r_put fp_Mm_84 d_Mm_isSound_2 (fun h => nomatch h) rfl rfl (q0 := 0) rfl (Nat.le_of_ble_eq_true rfl) (cs' := [(m, .inr (12, [.int 0, .ref mp, .int pt, .ref mf, .ref mh, .ref mn, .ref mt, .ref mz, .ref mc_, .ref mq, .ref mgr, .int cl, .int wa, .int co_, .int fi, .int bu, .int ho, .ref ml, .ref mi, .ref mr, .int lh, .int mg, .int wd, .int fpi, .int fal, .ref mm, .ref mu, .ref mk, .ref mx, .long po, .long de]))]) rfl ?_
  refine r_iconst d_Mm_isSound_5 (v := 1) (by decide) ?_
  refine r_iret d_Mm_isSound_6 rfl rfl ?_
  exact ⟨rfl, rfl⟩
abbrev M_Mm_init : zM := (⟨"IronpourModel", "<init>", "()V"⟩, prog_14_method_1_code, 2, (Option.none : Option FieldType), 4, 80, [])
theorem d_Mm_init_182 : decode prog_14_method_1_code 182 = .ok (.iload_n 1, 1) := zo_27 (zd_b zq_prog_14_method_1_code_5 22 rfl rfl rfl)
theorem d_Mm_init_183 : decode prog_14_method_1_code 183 = .ok (.bipush 108, 2) := zo_16 (d := 108) (zd_b zq_prog_14_method_1_code_5 23 rfl rfl rfl) (zd_b zq_prog_14_method_1_code_5 24 rfl rfl rfl) (by decide +kernel)
theorem d_Mm_init_185 : decode prog_14_method_1_code 185 = .ok (.if_icmp .ge 17, 3) := zo_162 (d := 0) (e := 17) (zd_b zq_prog_14_method_1_code_5 25 rfl rfl rfl) (zd_b zq_prog_14_method_1_code_5 26 rfl rfl rfl) (zd_b zq_prog_14_method_1_code_5 27 rfl rfl rfl) (by decide +kernel)
theorem d_Mm_init_202 : decode prog_14_method_1_code 202 = .ok (.return_, 1) := zo_177 (zd_b zq_prog_14_method_1_code_6 10 rfl rfl rfl)
theorem d_Mm_init_188 : decode prog_14_method_1_code 188 = .ok (.aload_n 0, 1) := zo_42 (zd_b zq_prog_14_method_1_code_5 28 rfl rfl rfl)
theorem d_Mm_init_189 : decode prog_14_method_1_code 189 = .ok (.getfield 7, 3) := zo_180 (d := 0) (e := 7) (zd_b zq_prog_14_method_1_code_5 29 rfl rfl rfl) (zd_b zq_prog_14_method_1_code_5 30 rfl rfl rfl) (zd_b zq_prog_14_method_1_code_5 31 rfl rfl rfl)
theorem d_Mm_init_192 : decode prog_14_method_1_code 192 = .ok (.iload_n 1, 1) := zo_27 (zd_b zq_prog_14_method_1_code_6 0 rfl rfl rfl)
theorem d_Mm_init_193 : decode prog_14_method_1_code 193 = .ok (.bipush 46, 2) := zo_16 (d := 46) (zd_b zq_prog_14_method_1_code_6 1 rfl rfl rfl) (zd_b zq_prog_14_method_1_code_6 2 rfl rfl rfl) (by decide +kernel)
theorem d_Mm_init_195 : decode prog_14_method_1_code 195 = .ok (.castore, 1) := zo_85 (zd_b zq_prog_14_method_1_code_6 3 rfl rfl rfl)
theorem d_Mm_init_196 : decode prog_14_method_1_code 196 = .ok (.iinc 1 1, 3) := by decide +kernel
theorem d_Mm_init_199 : decode prog_14_method_1_code 199 = .ok (.goto (-17), 3) := zo_167 (d := 255) (e := 239) (zd_b zq_prog_14_method_1_code_6 7 rfl rfl rfl) (zd_b zq_prog_14_method_1_code_6 8 rfl rfl rfl) (zd_b zq_prog_14_method_1_code_6 9 rfl rfl rfl) (by decide +kernel)
theorem d_Mm_init_0 : decode prog_14_method_1_code 0 = .ok (.aload_n 0, 1) := zo_42 (zd_b zq_prog_14_method_1_code_0 0 rfl rfl rfl)
theorem d_Mm_init_1 : decode prog_14_method_1_code 1 = .ok (.invokespecial 1, 3) := zo_183 (d := 0) (e := 1) (zd_b zq_prog_14_method_1_code_0 1 rfl rfl rfl) (zd_b zq_prog_14_method_1_code_0 2 rfl rfl rfl) (zd_b zq_prog_14_method_1_code_0 3 rfl rfl rfl)
theorem ln_Mm_1 : Cond.methodLink "IronpourModel" 1 Lib.objectInit ∈ z_gw := z_mj7 (i := 80) rfl (by decide +kernel)
theorem d_Mm_init_4 : decode prog_14_method_1_code 4 = .ok (.aload_n 0, 1) := zo_42 (zd_b zq_prog_14_method_1_code_0 4 rfl rfl rfl)
theorem d_Mm_init_5 : decode prog_14_method_1_code 5 = .ok (.bipush 108, 2) := zo_16 (d := 108) (zd_b zq_prog_14_method_1_code_0 5 rfl rfl rfl) (zd_b zq_prog_14_method_1_code_0 6 rfl rfl rfl) (by decide +kernel)
theorem d_Mm_init_7 : decode prog_14_method_1_code 7 = .ok (.newarray .char, 2) := by decide +kernel
theorem d_Mm_init_9 : decode prog_14_method_1_code 9 = .ok (.putfield 7, 3) := zo_181 (d := 0) (e := 7) (zd_b zq_prog_14_method_1_code_0 9 rfl rfl rfl) (zd_b zq_prog_14_method_1_code_0 10 rfl rfl rfl) (zd_b zq_prog_14_method_1_code_0 11 rfl rfl rfl)
theorem fp_Mm_7 : z_fp "IronpourModel" 7 12 1 false (t_Mm 1) := ⟨R_Mm, "IronpourModel", F_Mm, 31, t_Mm, rfl, u_Mm, by decide, t_Mm_ok, n_Mm, rfl, rfl, Or.inl ⟨z_mj7 (i := 84) rfl (by decide +kernel), Or.inl rfl, fun h => nomatch h⟩⟩
theorem d_Mm_init_12 : decode prog_14_method_1_code 12 = .ok (.aload_n 0, 1) := zo_42 (zd_b zq_prog_14_method_1_code_0 12 rfl rfl rfl)
theorem d_Mm_init_13 : decode prog_14_method_1_code 13 = .ok (.iconst 4, 1) := zo_7 (zd_b zq_prog_14_method_1_code_0 13 rfl rfl rfl)
theorem d_Mm_init_14 : decode prog_14_method_1_code 14 = .ok (.putfield 13, 3) := zo_181 (d := 0) (e := 13) (zd_b zq_prog_14_method_1_code_0 14 rfl rfl rfl) (zd_b zq_prog_14_method_1_code_0 15 rfl rfl rfl) (zd_b zq_prog_14_method_1_code_0 16 rfl rfl rfl)
theorem d_Mm_init_17 : decode prog_14_method_1_code 17 = .ok (.aload_n 0, 1) := zo_42 (zd_b zq_prog_14_method_1_code_0 17 rfl rfl rfl)
theorem d_Mm_init_18 : decode prog_14_method_1_code 18 = .ok (.bipush 108, 2) := zo_16 (d := 108) (zd_b zq_prog_14_method_1_code_0 18 rfl rfl rfl) (zd_b zq_prog_14_method_1_code_0 19 rfl rfl rfl) (by decide +kernel)
theorem d_Mm_init_20 : decode prog_14_method_1_code 20 = .ok (.newarray .int, 2) := by decide +kernel
theorem d_Mm_init_22 : decode prog_14_method_1_code 22 = .ok (.putfield 17, 3) := zo_181 (d := 0) (e := 17) (zd_b zq_prog_14_method_1_code_0 22 rfl rfl rfl) (zd_b zq_prog_14_method_1_code_0 23 rfl rfl rfl) (zd_b zq_prog_14_method_1_code_0 24 rfl rfl rfl)
theorem fp_Mm_17 : z_fp "IronpourModel" 17 12 3 true (t_Mm 3) := ⟨R_Mm, "IronpourModel", F_Mm, 31, t_Mm, rfl, u_Mm, by decide, t_Mm_ok, n_Mm, rfl, rfl, Or.inl ⟨z_mj7 (i := 86) rfl (by decide +kernel), Or.inl rfl, fun _ => ⟨rfl, rfl⟩⟩⟩
theorem d_Mm_init_25 : decode prog_14_method_1_code 25 = .ok (.aload_n 0, 1) := zo_42 (zd_b zq_prog_14_method_1_code_0 25 rfl rfl rfl)
theorem d_Mm_init_26 : decode prog_14_method_1_code 26 = .ok (.bipush 108, 2) := zo_16 (d := 108) (zd_b zq_prog_14_method_1_code_0 26 rfl rfl rfl) (zd_b zq_prog_14_method_1_code_0 27 rfl rfl rfl) (by decide +kernel)
theorem d_Mm_init_28 : decode prog_14_method_1_code 28 = .ok (.newarray .int, 2) := by decide +kernel
theorem d_Mm_init_30 : decode prog_14_method_1_code 30 = .ok (.putfield 21, 3) := zo_181 (d := 0) (e := 21) (zd_b zq_prog_14_method_1_code_0 30 rfl rfl rfl) (zd_b zq_prog_14_method_1_code_0 31 rfl rfl rfl) (zd_b zq_prog_14_method_1_code_1 0 rfl rfl rfl)
theorem fp_Mm_21 : z_fp "IronpourModel" 21 12 4 true (t_Mm 4) := ⟨R_Mm, "IronpourModel", F_Mm, 31, t_Mm, rfl, u_Mm, by decide, t_Mm_ok, n_Mm, rfl, rfl, Or.inl ⟨z_mj7 (i := 87) rfl (by decide +kernel), Or.inl rfl, fun _ => ⟨rfl, rfl⟩⟩⟩
theorem d_Mm_init_33 : decode prog_14_method_1_code 33 = .ok (.aload_n 0, 1) := zo_42 (zd_b zq_prog_14_method_1_code_1 1 rfl rfl rfl)
theorem d_Mm_init_34 : decode prog_14_method_1_code 34 = .ok (.bipush 108, 2) := zo_16 (d := 108) (zd_b zq_prog_14_method_1_code_1 2 rfl rfl rfl) (zd_b zq_prog_14_method_1_code_1 3 rfl rfl rfl) (by decide +kernel)
theorem d_Mm_init_36 : decode prog_14_method_1_code 36 = .ok (.newarray .int, 2) := by decide +kernel
theorem d_Mm_init_38 : decode prog_14_method_1_code 38 = .ok (.putfield 24, 3) := zo_181 (d := 0) (e := 24) (zd_b zq_prog_14_method_1_code_1 6 rfl rfl rfl) (zd_b zq_prog_14_method_1_code_1 7 rfl rfl rfl) (zd_b zq_prog_14_method_1_code_1 8 rfl rfl rfl)
theorem fp_Mm_24 : z_fp "IronpourModel" 24 12 5 true (t_Mm 5) := ⟨R_Mm, "IronpourModel", F_Mm, 31, t_Mm, rfl, u_Mm, by decide, t_Mm_ok, n_Mm, rfl, rfl, Or.inl ⟨z_mj7 (i := 88) rfl (by decide +kernel), Or.inl rfl, fun _ => ⟨rfl, rfl⟩⟩⟩
theorem d_Mm_init_41 : decode prog_14_method_1_code 41 = .ok (.aload_n 0, 1) := zo_42 (zd_b zq_prog_14_method_1_code_1 9 rfl rfl rfl)
theorem d_Mm_init_42 : decode prog_14_method_1_code 42 = .ok (.bipush 108, 2) := zo_16 (d := 108) (zd_b zq_prog_14_method_1_code_1 10 rfl rfl rfl) (zd_b zq_prog_14_method_1_code_1 11 rfl rfl rfl) (by decide +kernel)
theorem d_Mm_init_44 : decode prog_14_method_1_code 44 = .ok (.newarray .int, 2) := by decide +kernel
theorem d_Mm_init_46 : decode prog_14_method_1_code 46 = .ok (.putfield 27, 3) := zo_181 (d := 0) (e := 27) (zd_b zq_prog_14_method_1_code_1 14 rfl rfl rfl) (zd_b zq_prog_14_method_1_code_1 15 rfl rfl rfl) (zd_b zq_prog_14_method_1_code_1 16 rfl rfl rfl)
theorem fp_Mm_27 : z_fp "IronpourModel" 27 12 6 true (t_Mm 6) := ⟨R_Mm, "IronpourModel", F_Mm, 31, t_Mm, rfl, u_Mm, by decide, t_Mm_ok, n_Mm, rfl, rfl, Or.inl ⟨z_mj7 (i := 89) rfl (by decide +kernel), Or.inl rfl, fun _ => ⟨rfl, rfl⟩⟩⟩
theorem d_Mm_init_49 : decode prog_14_method_1_code 49 = .ok (.aload_n 0, 1) := zo_42 (zd_b zq_prog_14_method_1_code_1 17 rfl rfl rfl)
theorem d_Mm_init_50 : decode prog_14_method_1_code 50 = .ok (.bipush 108, 2) := zo_16 (d := 108) (zd_b zq_prog_14_method_1_code_1 18 rfl rfl rfl) (zd_b zq_prog_14_method_1_code_1 19 rfl rfl rfl) (by decide +kernel)
theorem d_Mm_init_52 : decode prog_14_method_1_code 52 = .ok (.newarray .int, 2) := by decide +kernel
theorem d_Mm_init_54 : decode prog_14_method_1_code 54 = .ok (.putfield 30, 3) := zo_181 (d := 0) (e := 30) (zd_b zq_prog_14_method_1_code_1 22 rfl rfl rfl) (zd_b zq_prog_14_method_1_code_1 23 rfl rfl rfl) (zd_b zq_prog_14_method_1_code_1 24 rfl rfl rfl)
theorem fp_Mm_30 : z_fp "IronpourModel" 30 12 7 true (t_Mm 7) := ⟨R_Mm, "IronpourModel", F_Mm, 31, t_Mm, rfl, u_Mm, by decide, t_Mm_ok, n_Mm, rfl, rfl, Or.inl ⟨z_mj7 (i := 90) rfl (by decide +kernel), Or.inl rfl, fun _ => ⟨rfl, rfl⟩⟩⟩
theorem d_Mm_init_57 : decode prog_14_method_1_code 57 = .ok (.aload_n 0, 1) := zo_42 (zd_b zq_prog_14_method_1_code_1 25 rfl rfl rfl)
theorem d_Mm_init_58 : decode prog_14_method_1_code 58 = .ok (.bipush 108, 2) := zo_16 (d := 108) (zd_b zq_prog_14_method_1_code_1 26 rfl rfl rfl) (zd_b zq_prog_14_method_1_code_1 27 rfl rfl rfl) (by decide +kernel)
theorem d_Mm_init_60 : decode prog_14_method_1_code 60 = .ok (.newarray .boolean, 2) := by decide +kernel
theorem d_Mm_init_62 : decode prog_14_method_1_code 62 = .ok (.putfield 33, 3) := zo_181 (d := 0) (e := 33) (zd_b zq_prog_14_method_1_code_1 30 rfl rfl rfl) (zd_b zq_prog_14_method_1_code_1 31 rfl rfl rfl) (zd_b zq_prog_14_method_1_code_2 0 rfl rfl rfl)
theorem fp_Mm_33 : z_fp "IronpourModel" 33 12 8 true (t_Mm 8) := ⟨R_Mm, "IronpourModel", F_Mm, 31, t_Mm, rfl, u_Mm, by decide, t_Mm_ok, n_Mm, rfl, rfl, Or.inl ⟨z_mj7 (i := 91) rfl (by decide +kernel), Or.inl rfl, fun _ => ⟨rfl, rfl⟩⟩⟩
theorem d_Mm_init_65 : decode prog_14_method_1_code 65 = .ok (.aload_n 0, 1) := zo_42 (zd_b zq_prog_14_method_1_code_2 1 rfl rfl rfl)
theorem d_Mm_init_66 : decode prog_14_method_1_code 66 = .ok (.bipush 108, 2) := zo_16 (d := 108) (zd_b zq_prog_14_method_1_code_2 2 rfl rfl rfl) (zd_b zq_prog_14_method_1_code_2 3 rfl rfl rfl) (by decide +kernel)
theorem d_Mm_init_68 : decode prog_14_method_1_code 68 = .ok (.newarray .int, 2) := by decide +kernel
theorem d_Mm_init_70 : decode prog_14_method_1_code 70 = .ok (.putfield 37, 3) := zo_181 (d := 0) (e := 37) (zd_b zq_prog_14_method_1_code_2 6 rfl rfl rfl) (zd_b zq_prog_14_method_1_code_2 7 rfl rfl rfl) (zd_b zq_prog_14_method_1_code_2 8 rfl rfl rfl)
theorem fp_Mm_37 : z_fp "IronpourModel" 37 12 9 true (t_Mm 9) := ⟨R_Mm, "IronpourModel", F_Mm, 31, t_Mm, rfl, u_Mm, by decide, t_Mm_ok, n_Mm, rfl, rfl, Or.inl ⟨z_mj7 (i := 92) rfl (by decide +kernel), Or.inl rfl, fun _ => ⟨rfl, rfl⟩⟩⟩
theorem d_Mm_init_73 : decode prog_14_method_1_code 73 = .ok (.aload_n 0, 1) := zo_42 (zd_b zq_prog_14_method_1_code_2 9 rfl rfl rfl)
theorem d_Mm_init_74 : decode prog_14_method_1_code 74 = .ok (.bipush 108, 2) := zo_16 (d := 108) (zd_b zq_prog_14_method_1_code_2 10 rfl rfl rfl) (zd_b zq_prog_14_method_1_code_2 11 rfl rfl rfl) (by decide +kernel)
theorem d_Mm_init_76 : decode prog_14_method_1_code 76 = .ok (.newarray .int, 2) := by decide +kernel
theorem d_Mm_init_78 : decode prog_14_method_1_code 78 = .ok (.putfield 40, 3) := zo_181 (d := 0) (e := 40) (zd_b zq_prog_14_method_1_code_2 14 rfl rfl rfl) (zd_b zq_prog_14_method_1_code_2 15 rfl rfl rfl) (zd_b zq_prog_14_method_1_code_2 16 rfl rfl rfl)
theorem fp_Mm_40 : z_fp "IronpourModel" 40 12 10 true (t_Mm 10) := ⟨R_Mm, "IronpourModel", F_Mm, 31, t_Mm, rfl, u_Mm, by decide, t_Mm_ok, n_Mm, rfl, rfl, Or.inl ⟨z_mj7 (i := 93) rfl (by decide +kernel), Or.inl rfl, fun _ => ⟨rfl, rfl⟩⟩⟩
theorem d_Mm_init_81 : decode prog_14_method_1_code 81 = .ok (.aload_n 0, 1) := zo_42 (zd_b zq_prog_14_method_1_code_2 17 rfl rfl rfl)
theorem d_Mm_init_82 : decode prog_14_method_1_code 82 = .ok (.bipush 80, 2) := zo_16 (d := 80) (zd_b zq_prog_14_method_1_code_2 18 rfl rfl rfl) (zd_b zq_prog_14_method_1_code_2 19 rfl rfl rfl) (by decide +kernel)
theorem d_Mm_init_84 : decode prog_14_method_1_code 84 = .ok (.putfield 43, 3) := zo_181 (d := 0) (e := 43) (zd_b zq_prog_14_method_1_code_2 20 rfl rfl rfl) (zd_b zq_prog_14_method_1_code_2 21 rfl rfl rfl) (zd_b zq_prog_14_method_1_code_2 22 rfl rfl rfl)
theorem d_Mm_init_87 : decode prog_14_method_1_code 87 = .ok (.aload_n 0, 1) := zo_42 (zd_b zq_prog_14_method_1_code_2 23 rfl rfl rfl)
theorem d_Mm_init_88 : decode prog_14_method_1_code 88 = .ok (.bipush 35, 2) := zo_16 (d := 35) (zd_b zq_prog_14_method_1_code_2 24 rfl rfl rfl) (zd_b zq_prog_14_method_1_code_2 25 rfl rfl rfl) (by decide +kernel)
theorem d_Mm_init_90 : decode prog_14_method_1_code 90 = .ok (.putfield 46, 3) := zo_181 (d := 0) (e := 46) (zd_b zq_prog_14_method_1_code_2 26 rfl rfl rfl) (zd_b zq_prog_14_method_1_code_2 27 rfl rfl rfl) (zd_b zq_prog_14_method_1_code_2 28 rfl rfl rfl)
theorem d_Mm_init_93 : decode prog_14_method_1_code 93 = .ok (.aload_n 0, 1) := zo_42 (zd_b zq_prog_14_method_1_code_2 29 rfl rfl rfl)
theorem d_Mm_init_94 : decode prog_14_method_1_code 94 = .ok (.bipush 30, 2) := zo_16 (d := 30) (zd_b zq_prog_14_method_1_code_2 30 rfl rfl rfl) (zd_b zq_prog_14_method_1_code_2 31 rfl rfl rfl) (by decide +kernel)
theorem d_Mm_init_96 : decode prog_14_method_1_code 96 = .ok (.putfield 49, 3) := zo_181 (d := 0) (e := 49) (zd_b zq_prog_14_method_1_code_3 0 rfl rfl rfl) (zd_b zq_prog_14_method_1_code_3 1 rfl rfl rfl) (zd_b zq_prog_14_method_1_code_3 2 rfl rfl rfl)
theorem d_Mm_init_99 : decode prog_14_method_1_code 99 = .ok (.aload_n 0, 1) := zo_42 (zd_b zq_prog_14_method_1_code_3 3 rfl rfl rfl)
theorem d_Mm_init_100 : decode prog_14_method_1_code 100 = .ok (.bipush 50, 2) := zo_16 (d := 50) (zd_b zq_prog_14_method_1_code_3 4 rfl rfl rfl) (zd_b zq_prog_14_method_1_code_3 5 rfl rfl rfl) (by decide +kernel)
theorem d_Mm_init_102 : decode prog_14_method_1_code 102 = .ok (.putfield 52, 3) := zo_181 (d := 0) (e := 52) (zd_b zq_prog_14_method_1_code_3 6 rfl rfl rfl) (zd_b zq_prog_14_method_1_code_3 7 rfl rfl rfl) (zd_b zq_prog_14_method_1_code_3 8 rfl rfl rfl)
theorem d_Mm_init_105 : decode prog_14_method_1_code 105 = .ok (.aload_n 0, 1) := zo_42 (zd_b zq_prog_14_method_1_code_3 9 rfl rfl rfl)
theorem d_Mm_init_106 : decode prog_14_method_1_code 106 = .ok (.new 55, 3) := zo_187 (d := 0) (e := 55) (zd_b zq_prog_14_method_1_code_3 10 rfl rfl rfl) (zd_b zq_prog_14_method_1_code_3 11 rfl rfl rfl) (zd_b zq_prog_14_method_1_code_3 12 rfl rfl rfl)
theorem nc_Mm_55 : z_nc "IronpourModel" 55 13 3 [.int 0, .null, .int 0] := ⟨R_AL, F_AL, t_AL, rfl, u_AL, t_AL_ok, z_mj7 (i := 81) rfl (by decide +kernel), z_mj2 (i := 38) rfl (by decide +kernel), z_mj1 (i := 13) rfl (by decide +kernel), by decide +kernel⟩
theorem d_Mm_init_109 : decode prog_14_method_1_code 109 = .ok (.dup, 1) := zo_89 (zd_b zq_prog_14_method_1_code_3 13 rfl rfl rfl)
theorem d_Mm_init_110 : decode prog_14_method_1_code 110 = .ok (.invokespecial 57, 3) := zo_183 (d := 0) (e := 57) (zd_b zq_prog_14_method_1_code_3 14 rfl rfl rfl) (zd_b zq_prog_14_method_1_code_3 15 rfl rfl rfl) (zd_b zq_prog_14_method_1_code_3 16 rfl rfl rfl)
theorem ok_Mm_init_AL_init : z_ok M_Mm_init M_AL_init 0 := ⟨z_mj2 (i := 41) rfl (by decide +kernel), rfl, ⟨by decide +kernel, by decide +kernel, by decide +kernel⟩, ⟨by decide, by decide⟩, z_mj1 (i := 13) rfl (by decide +kernel), rfl⟩
theorem ln_Mm_57 : Cond.methodLink "IronpourModel" 57 M_AL_init.1 ∈ z_gw := z_mj7 (i := 82) rfl (by decide +kernel)
theorem w_im_AL_init : Cond.instanceMethod M_AL_init.1 ∈ z_gw := z_mj2 (i := 40) rfl (by decide +kernel)
theorem d_Mm_init_113 : decode prog_14_method_1_code 113 = .ok (.putfield 58, 3) := zo_181 (d := 0) (e := 58) (zd_b zq_prog_14_method_1_code_3 17 rfl rfl rfl) (zd_b zq_prog_14_method_1_code_3 18 rfl rfl rfl) (zd_b zq_prog_14_method_1_code_3 19 rfl rfl rfl)
theorem fp_Mm_58 : z_fp "IronpourModel" 58 12 17 true (t_Mm 17) := ⟨R_Mm, "IronpourModel", F_Mm, 31, t_Mm, rfl, u_Mm, by decide, t_Mm_ok, n_Mm, rfl, rfl, Or.inl ⟨z_mj7 (i := 100) rfl (by decide +kernel), Or.inl rfl, fun _ => ⟨rfl, rfl⟩⟩⟩
theorem d_Mm_init_116 : decode prog_14_method_1_code 116 = .ok (.aload_n 0, 1) := zo_42 (zd_b zq_prog_14_method_1_code_3 20 rfl rfl rfl)
theorem d_Mm_init_117 : decode prog_14_method_1_code 117 = .ok (.iconst 4, 1) := zo_7 (zd_b zq_prog_14_method_1_code_3 21 rfl rfl rfl)
theorem d_Mm_init_118 : decode prog_14_method_1_code 118 = .ok (.newarray .int, 2) := by decide +kernel
theorem d_Mm_init_120 : decode prog_14_method_1_code 120 = .ok (.putfield 62, 3) := zo_181 (d := 0) (e := 62) (zd_b zq_prog_14_method_1_code_3 24 rfl rfl rfl) (zd_b zq_prog_14_method_1_code_3 25 rfl rfl rfl) (zd_b zq_prog_14_method_1_code_3 26 rfl rfl rfl)
theorem fp_Mm_62 : z_fp "IronpourModel" 62 12 18 true (t_Mm 18) := ⟨R_Mm, "IronpourModel", F_Mm, 31, t_Mm, rfl, u_Mm, by decide, t_Mm_ok, n_Mm, rfl, rfl, Or.inl ⟨z_mj7 (i := 101) rfl (by decide +kernel), Or.inl rfl, fun _ => ⟨rfl, rfl⟩⟩⟩
theorem d_Mm_init_123 : decode prog_14_method_1_code 123 = .ok (.aload_n 0, 1) := zo_42 (zd_b zq_prog_14_method_1_code_3 27 rfl rfl rfl)
theorem d_Mm_init_124 : decode prog_14_method_1_code 124 = .ok (.bipush 16, 2) := zo_16 (d := 16) (zd_b zq_prog_14_method_1_code_3 28 rfl rfl rfl) (zd_b zq_prog_14_method_1_code_3 29 rfl rfl rfl) (by decide +kernel)
theorem d_Mm_init_126 : decode prog_14_method_1_code 126 = .ok (.newarray .long, 2) := by decide +kernel
theorem d_Mm_init_128 : decode prog_14_method_1_code 128 = .ok (.putfield 65, 3) := zo_181 (d := 0) (e := 65) (zd_b zq_prog_14_method_1_code_4 0 rfl rfl rfl) (zd_b zq_prog_14_method_1_code_4 1 rfl rfl rfl) (zd_b zq_prog_14_method_1_code_4 2 rfl rfl rfl)
theorem fp_Mm_65 : z_fp "IronpourModel" 65 12 19 true (t_Mm 19) := ⟨R_Mm, "IronpourModel", F_Mm, 31, t_Mm, rfl, u_Mm, by decide, t_Mm_ok, n_Mm, rfl, rfl, Or.inl ⟨z_mj7 (i := 102) rfl (by decide +kernel), Or.inl rfl, fun _ => ⟨rfl, rfl⟩⟩⟩
theorem d_Mm_init_131 : decode prog_14_method_1_code 131 = .ok (.aload_n 0, 1) := zo_42 (zd_b zq_prog_14_method_1_code_4 3 rfl rfl rfl)
theorem d_Mm_init_132 : decode prog_14_method_1_code 132 = .ok (.iconst (-1), 1) := zo_2 (zd_b zq_prog_14_method_1_code_4 4 rfl rfl rfl)
theorem d_Mm_init_133 : decode prog_14_method_1_code 133 = .ok (.putfield 69, 3) := zo_181 (d := 0) (e := 69) (zd_b zq_prog_14_method_1_code_4 5 rfl rfl rfl) (zd_b zq_prog_14_method_1_code_4 6 rfl rfl rfl) (zd_b zq_prog_14_method_1_code_4 7 rfl rfl rfl)
theorem fp_Mm_69 : z_fp "IronpourModel" 69 12 23 false .int := ⟨R_Mm, "IronpourModel", F_Mm, 31, t_Mm, rfl, u_Mm, by decide, t_Mm_ok, n_Mm, rfl, rfl, Or.inl ⟨z_mj7 (i := 106) rfl (by decide +kernel), Or.inl rfl, fun h => nomatch h⟩⟩
theorem d_Mm_init_136 : decode prog_14_method_1_code 136 = .ok (.aload_n 0, 1) := zo_42 (zd_b zq_prog_14_method_1_code_4 8 rfl rfl rfl)
theorem d_Mm_init_137 : decode prog_14_method_1_code 137 = .ok (.new 55, 3) := zo_187 (d := 0) (e := 55) (zd_b zq_prog_14_method_1_code_4 9 rfl rfl rfl) (zd_b zq_prog_14_method_1_code_4 10 rfl rfl rfl) (zd_b zq_prog_14_method_1_code_4 11 rfl rfl rfl)
theorem d_Mm_init_140 : decode prog_14_method_1_code 140 = .ok (.dup, 1) := zo_89 (zd_b zq_prog_14_method_1_code_4 12 rfl rfl rfl)
theorem d_Mm_init_141 : decode prog_14_method_1_code 141 = .ok (.invokespecial 57, 3) := zo_183 (d := 0) (e := 57) (zd_b zq_prog_14_method_1_code_4 13 rfl rfl rfl) (zd_b zq_prog_14_method_1_code_4 14 rfl rfl rfl) (zd_b zq_prog_14_method_1_code_4 15 rfl rfl rfl)
theorem d_Mm_init_144 : decode prog_14_method_1_code 144 = .ok (.putfield 72, 3) := zo_181 (d := 0) (e := 72) (zd_b zq_prog_14_method_1_code_4 16 rfl rfl rfl) (zd_b zq_prog_14_method_1_code_4 17 rfl rfl rfl) (zd_b zq_prog_14_method_1_code_4 18 rfl rfl rfl)
theorem fp_Mm_72 : z_fp "IronpourModel" 72 12 25 true (t_Mm 25) := ⟨R_Mm, "IronpourModel", F_Mm, 31, t_Mm, rfl, u_Mm, by decide, t_Mm_ok, n_Mm, rfl, rfl, Or.inl ⟨z_mj7 (i := 108) rfl (by decide +kernel), Or.inl rfl, fun _ => ⟨rfl, rfl⟩⟩⟩
theorem d_Mm_init_147 : decode prog_14_method_1_code 147 = .ok (.aload_n 0, 1) := zo_42 (zd_b zq_prog_14_method_1_code_4 19 rfl rfl rfl)
theorem d_Mm_init_148 : decode prog_14_method_1_code 148 = .ok (.new 55, 3) := zo_187 (d := 0) (e := 55) (zd_b zq_prog_14_method_1_code_4 20 rfl rfl rfl) (zd_b zq_prog_14_method_1_code_4 21 rfl rfl rfl) (zd_b zq_prog_14_method_1_code_4 22 rfl rfl rfl)
theorem d_Mm_init_151 : decode prog_14_method_1_code 151 = .ok (.dup, 1) := zo_89 (zd_b zq_prog_14_method_1_code_4 23 rfl rfl rfl)
theorem d_Mm_init_152 : decode prog_14_method_1_code 152 = .ok (.invokespecial 57, 3) := zo_183 (d := 0) (e := 57) (zd_b zq_prog_14_method_1_code_4 24 rfl rfl rfl) (zd_b zq_prog_14_method_1_code_4 25 rfl rfl rfl) (zd_b zq_prog_14_method_1_code_4 26 rfl rfl rfl)
theorem d_Mm_init_155 : decode prog_14_method_1_code 155 = .ok (.putfield 75, 3) := zo_181 (d := 0) (e := 75) (zd_b zq_prog_14_method_1_code_4 27 rfl rfl rfl) (zd_b zq_prog_14_method_1_code_4 28 rfl rfl rfl) (zd_b zq_prog_14_method_1_code_4 29 rfl rfl rfl)
theorem fp_Mm_75 : z_fp "IronpourModel" 75 12 26 true (t_Mm 26) := ⟨R_Mm, "IronpourModel", F_Mm, 31, t_Mm, rfl, u_Mm, by decide, t_Mm_ok, n_Mm, rfl, rfl, Or.inl ⟨z_mj7 (i := 109) rfl (by decide +kernel), Or.inl rfl, fun _ => ⟨rfl, rfl⟩⟩⟩
theorem d_Mm_init_158 : decode prog_14_method_1_code 158 = .ok (.aload_n 0, 1) := zo_42 (zd_b zq_prog_14_method_1_code_4 30 rfl rfl rfl)
theorem d_Mm_init_159 : decode prog_14_method_1_code 159 = .ok (.new 55, 3) := zo_187 (d := 0) (e := 55) (zd_b zq_prog_14_method_1_code_4 31 rfl rfl rfl) (zd_b zq_prog_14_method_1_code_5 0 rfl rfl rfl) (zd_b zq_prog_14_method_1_code_5 1 rfl rfl rfl)
theorem d_Mm_init_162 : decode prog_14_method_1_code 162 = .ok (.dup, 1) := zo_89 (zd_b zq_prog_14_method_1_code_5 2 rfl rfl rfl)
theorem d_Mm_init_163 : decode prog_14_method_1_code 163 = .ok (.invokespecial 57, 3) := zo_183 (d := 0) (e := 57) (zd_b zq_prog_14_method_1_code_5 3 rfl rfl rfl) (zd_b zq_prog_14_method_1_code_5 4 rfl rfl rfl) (zd_b zq_prog_14_method_1_code_5 5 rfl rfl rfl)
theorem d_Mm_init_166 : decode prog_14_method_1_code 166 = .ok (.putfield 78, 3) := zo_181 (d := 0) (e := 78) (zd_b zq_prog_14_method_1_code_5 6 rfl rfl rfl) (zd_b zq_prog_14_method_1_code_5 7 rfl rfl rfl) (zd_b zq_prog_14_method_1_code_5 8 rfl rfl rfl)
theorem fp_Mm_78 : z_fp "IronpourModel" 78 12 27 true (t_Mm 27) := ⟨R_Mm, "IronpourModel", F_Mm, 31, t_Mm, rfl, u_Mm, by decide, t_Mm_ok, n_Mm, rfl, rfl, Or.inl ⟨z_mj7 (i := 110) rfl (by decide +kernel), Or.inl rfl, fun _ => ⟨rfl, rfl⟩⟩⟩
theorem d_Mm_init_169 : decode prog_14_method_1_code 169 = .ok (.aload_n 0, 1) := zo_42 (zd_b zq_prog_14_method_1_code_5 9 rfl rfl rfl)
theorem d_Mm_init_170 : decode prog_14_method_1_code 170 = .ok (.new 55, 3) := zo_187 (d := 0) (e := 55) (zd_b zq_prog_14_method_1_code_5 10 rfl rfl rfl) (zd_b zq_prog_14_method_1_code_5 11 rfl rfl rfl) (zd_b zq_prog_14_method_1_code_5 12 rfl rfl rfl)
theorem d_Mm_init_173 : decode prog_14_method_1_code 173 = .ok (.dup, 1) := zo_89 (zd_b zq_prog_14_method_1_code_5 13 rfl rfl rfl)
theorem d_Mm_init_174 : decode prog_14_method_1_code 174 = .ok (.invokespecial 57, 3) := zo_183 (d := 0) (e := 57) (zd_b zq_prog_14_method_1_code_5 14 rfl rfl rfl) (zd_b zq_prog_14_method_1_code_5 15 rfl rfl rfl) (zd_b zq_prog_14_method_1_code_5 16 rfl rfl rfl)
theorem d_Mm_init_177 : decode prog_14_method_1_code 177 = .ok (.putfield 81, 3) := zo_181 (d := 0) (e := 81) (zd_b zq_prog_14_method_1_code_5 17 rfl rfl rfl) (zd_b zq_prog_14_method_1_code_5 18 rfl rfl rfl) (zd_b zq_prog_14_method_1_code_5 19 rfl rfl rfl)
theorem fp_Mm_81 : z_fp "IronpourModel" 81 12 28 true (t_Mm 28) := ⟨R_Mm, "IronpourModel", F_Mm, 31, t_Mm, rfl, u_Mm, by decide, t_Mm_ok, n_Mm, rfl, rfl, Or.inl ⟨z_mj7 (i := 111) rfl (by decide +kernel), Or.inl rfl, fun _ => ⟨rfl, rfl⟩⟩⟩
theorem d_Mm_init_180 : decode prog_14_method_1_code 180 = .ok (.iconst 0, 1) := zo_3 (zd_b zq_prog_14_method_1_code_5 20 rfl rfl rfl)
theorem d_Mm_init_181 : decode prog_14_method_1_code 181 = .ok (.istore_n 1, 1) := zo_60 (zd_b zq_prog_14_method_1_code_5 21 rfl rfl rfl)
set_option maxHeartbeats 4000000 in
set_option maxRecDepth 100000 in
theorem L_Mm_init_182 (g : zG) (m : Nat) (w0 : zW) (n : Nat) (mp mf mh mn mt mz mc_ mq mgr ml mi mr mm mu mk mx : Nat) : ∀ (d i : Nat), i ≤ 108 → 108 < i + d → DV g M_Mm_init (fun o cs1 => ∃ mp mf mh mn mt mz mc_ mq mgr ml mi mr mm mu mk mx, o = .inl none ∧ cs1 = [(m, .inr (12, [.int 0, .ref mp, .int 4, .ref mf, .ref mh, .ref mn, .ref mt, .ref mz, .ref mc_, .ref mq, .ref mgr, .int 80, .int 35, .int 30, .int 50, .int 0, .int 0, .ref ml, .ref mi, .ref mr, .int 0, .int 0, .int 0, .int (-1), .int 0, .ref mm, .ref mu, .ref mk, .ref mx, .long 0, .long 0])), (mp, .inl (1, 108, .inl (fa_fill (fun _ => 46) (fun _ => 0) 108))), (mf, .inl (0, 108, .inl (fun _ => 0))), (mh, .inl (0, 108, .inl (fun _ => 0))), (mn, .inl (0, 108, .inl (fun _ => 0))), (mt, .inl (0, 108, .inl (fun _ => 0))), (mz, .inl (0, 108, .inl (fun _ => 0))), (mc_, .inl (2, 108, .inl (fun _ => 0))), (mq, .inl (0, 108, .inl (fun _ => 0))), (mgr, .inl (0, 108, .inl (fun _ => 0))), (ml, .inr (13, [.int 0, .ref (g.2.2 4), .int 0])), (mi, .inl (0, 4, .inl (fun _ => 0))), (mr, .inl (3, 16, .inr (.inl (fun _ => 0)))), (mm, .inr (13, [.int 0, .ref (g.2.2 4), .int 0])), (mu, .inr (13, [.int 0, .ref (g.2.2 4), .int 0])), (mk, .inr (13, [.int 0, .ref (g.2.2 4), .int 0])), (mx, .inr (13, [.int 0, .ref (g.2.2 4), .int 0]))]) w0 n 182 [(1, .int (nI i)), (0, .ref m)] [] [(m, .inr (12, [.int 0, .ref mp, .int 4, .ref mf, .ref mh, .ref mn, .ref mt, .ref mz, .ref mc_, .ref mq, .ref mgr, .int 80, .int 35, .int 30, .int 50, .int 0, .int 0, .ref ml, .ref mi, .ref mr, .int 0, .int 0, .int 0, .int (-1), .int 0, .ref mm, .ref mu, .ref mk, .ref mx, .long 0, .long 0])), (mp, .inl (1, 108, .inl (fa_fill (fun _ => 46) (fun _ => 0) i))), (mf, .inl (0, 108, .inl (fun _ => 0))), (mh, .inl (0, 108, .inl (fun _ => 0))), (mn, .inl (0, 108, .inl (fun _ => 0))), (mt, .inl (0, 108, .inl (fun _ => 0))), (mz, .inl (0, 108, .inl (fun _ => 0))), (mc_, .inl (2, 108, .inl (fun _ => 0))), (mq, .inl (0, 108, .inl (fun _ => 0))), (mgr, .inl (0, 108, .inl (fun _ => 0))), (ml, .inr (13, [.int 0, .ref (g.2.2 4), .int 0])), (mi, .inl (0, 4, .inl (fun _ => 0))), (mr, .inl (3, 16, .inr (.inl (fun _ => 0)))), (mm, .inr (13, [.int 0, .ref (g.2.2 4), .int 0])), (mu, .inr (13, [.int 0, .ref (g.2.2 4), .int 0])), (mk, .inr (13, [.int 0, .ref (g.2.2 4), .int 0])), (mx, .inr (13, [.int 0, .ref (g.2.2 4), .int 0]))] 0 0 := by
  intro d
  induction d with
  | zero => intro i h1 h2 ; exact absurd h2 (by omega)
  | succ d ih =>
    intro i h1 h2 
    refine r_iload_n d_Mm_init_182 rfl 0 rfl ?_
    refine r_bipush d_Mm_init_183 (v := 108) (by decide) ?_
    refine r_icmp_ge (tgt := 202) d_Mm_init_185 (by decide) (fun c_185 => ?_) (fun c_185 => ?_)
    · have hn := z_le (a := 108) (by omega) (by decide) c_185
      obtain rfl : i = 108 := by omega
      refine r_vret d_Mm_init_202 rfl ?_
      exact ⟨mp, mf, mh, mn, mt, mz, mc_, mq, mgr, ml, mi, mr, mm, mu, mk, mx, rfl, rfl⟩
    · have hn := z_nle (a := 108) (by omega) (by decide) c_185
      refine r_aload_n d_Mm_init_188 rfl 1 rfl ?_
      refine r_get fs_Mm_7 d_Mm_init_189 (q0 := 0) rfl rfl ?_
      refine r_iload_n d_Mm_init_192 rfl 0 rfl ?_
      refine r_bipush d_Mm_init_193 (v := 46) (by decide) ?_
      refine r_cast d_Mm_init_195 (q0 := 1) rfl (vp_in_nI (by omega) (by omega)) (f' := fa_fill (fun _ => 46) (fun _ => 0) (i + 1)) (by rw [nI_clamp (by omega)]; exact fa_fill_succ (fun _ => 46) (fun _ => 0) i) (cs' := [(m, .inr (12, [.int 0, .ref mp, .int 4, .ref mf, .ref mh, .ref mn, .ref mt, .ref mz, .ref mc_, .ref mq, .ref mgr, .int 80, .int 35, .int 30, .int 50, .int 0, .int 0, .ref ml, .ref mi, .ref mr, .int 0, .int 0, .int 0, .int (-1), .int 0, .ref mm, .ref mu, .ref mk, .ref mx, .long 0, .long 0])), (mp, .inl (1, 108, .inl (fa_fill (fun _ => 46) (fun _ => 0) (i + 1)))), (mf, .inl (0, 108, .inl (fun _ => 0))), (mh, .inl (0, 108, .inl (fun _ => 0))), (mn, .inl (0, 108, .inl (fun _ => 0))), (mt, .inl (0, 108, .inl (fun _ => 0))), (mz, .inl (0, 108, .inl (fun _ => 0))), (mc_, .inl (2, 108, .inl (fun _ => 0))), (mq, .inl (0, 108, .inl (fun _ => 0))), (mgr, .inl (0, 108, .inl (fun _ => 0))), (ml, .inr (13, [.int 0, .ref (g.2.2 4), .int 0])), (mi, .inl (0, 4, .inl (fun _ => 0))), (mr, .inl (3, 16, .inr (.inl (fun _ => 0)))), (mm, .inr (13, [.int 0, .ref (g.2.2 4), .int 0])), (mu, .inr (13, [.int 0, .ref (g.2.2 4), .int 0])), (mk, .inr (13, [.int 0, .ref (g.2.2 4), .int 0])), (mx, .inr (13, [.int 0, .ref (g.2.2 4), .int 0]))]) rfl ?_
      refine r_iinc (lv' := [(1, .int (nI (i + 1))), (0, .ref m)]) (v := nI (i + 1)) d_Mm_init_196 (j := 0) rfl (nI_add _ _) (by decide) rfl ?_
      refine r_goto (tgt := 182) d_Mm_init_199 (by decide) ?_
      refine r_lvE (lv2 := [(1, .int (nI (i + 1))), (0, .ref m)]) (rfl) ?_
      refine r_cs (cs2 := [(m, .inr (12, [.int 0, .ref mp, .int 4, .ref mf, .ref mh, .ref mn, .ref mt, .ref mz, .ref mc_, .ref mq, .ref mgr, .int 80, .int 35, .int 30, .int 50, .int 0, .int 0, .ref ml, .ref mi, .ref mr, .int 0, .int 0, .int 0, .int (-1), .int 0, .ref mm, .ref mu, .ref mk, .ref mx, .long 0, .long 0])), (mp, .inl (1, 108, .inl (fa_fill (fun _ => 46) (fun _ => 0) (i + 1)))), (mf, .inl (0, 108, .inl (fun _ => 0))), (mh, .inl (0, 108, .inl (fun _ => 0))), (mn, .inl (0, 108, .inl (fun _ => 0))), (mt, .inl (0, 108, .inl (fun _ => 0))), (mz, .inl (0, 108, .inl (fun _ => 0))), (mc_, .inl (2, 108, .inl (fun _ => 0))), (mq, .inl (0, 108, .inl (fun _ => 0))), (mgr, .inl (0, 108, .inl (fun _ => 0))), (ml, .inr (13, [.int 0, .ref (g.2.2 4), .int 0])), (mi, .inl (0, 4, .inl (fun _ => 0))), (mr, .inl (3, 16, .inr (.inl (fun _ => 0)))), (mm, .inr (13, [.int 0, .ref (g.2.2 4), .int 0])), (mu, .inr (13, [.int 0, .ref (g.2.2 4), .int 0])), (mk, .inr (13, [.int 0, .ref (g.2.2 4), .int 0])), (mx, .inr (13, [.int 0, .ref (g.2.2 4), .int 0]))]) (rfl) ?_
      exact ih (i + 1) (by omega) (by omega)
set_option maxHeartbeats 4000000 in
set_option maxRecDepth 100000 in
theorem C_Mm_init (g : zG) (m : Nat) : CT g M_Mm_init [.ref m] [(m, .inr (12, [.int 0, .null, .int 0, .null, .null, .null, .null, .null, .null, .null, .null, .int 0, .int 0, .int 0, .int 0, .int 0, .int 0, .null, .null, .null, .int 0, .int 0, .int 0, .int 0, .int 0, .null, .null, .null, .null, .long 0, .long 0]))] (fun o cs1 => ∃ mp mf mh mn mt mz mc_ mq mgr ml mi mr mm mu mk mx, o = .inl none ∧ cs1 = [(m, .inr (12, [.int 0, .ref mp, .int 4, .ref mf, .ref mh, .ref mn, .ref mt, .ref mz, .ref mc_, .ref mq, .ref mgr, .int 80, .int 35, .int 30, .int 50, .int 0, .int 0, .ref ml, .ref mi, .ref mr, .int 0, .int 0, .int 0, .int (-1), .int 0, .ref mm, .ref mu, .ref mk, .ref mx, .long 0, .long 0])), (mp, .inl (1, 108, .inl (fa_fill (fun _ => 46) (fun _ => 0) 108))), (mf, .inl (0, 108, .inl (fun _ => 0))), (mh, .inl (0, 108, .inl (fun _ => 0))), (mn, .inl (0, 108, .inl (fun _ => 0))), (mt, .inl (0, 108, .inl (fun _ => 0))), (mz, .inl (0, 108, .inl (fun _ => 0))), (mc_, .inl (2, 108, .inl (fun _ => 0))), (mq, .inl (0, 108, .inl (fun _ => 0))), (mgr, .inl (0, 108, .inl (fun _ => 0))), (ml, .inr (13, [.int 0, .ref (g.2.2 4), .int 0])), (mi, .inl (0, 4, .inl (fun _ => 0))), (mr, .inl (3, 16, .inr (.inl (fun _ => 0)))), (mm, .inr (13, [.int 0, .ref (g.2.2 4), .int 0])), (mu, .inr (13, [.int 0, .ref (g.2.2 4), .int 0])), (mk, .inr (13, [.int 0, .ref (g.2.2 4), .int 0])), (mx, .inr (13, [.int 0, .ref (g.2.2 4), .int 0]))]) 20 1200 := by
  refine z_of (by decide) rfl (Nat.le_of_ble_eq_true rfl) (fun w0 => ?_)
  refine r_lvE (lv2 := [(0, .ref m)]) rfl ?_
  refine r_aload_n d_Mm_init_0 rfl 0 rfl ?_
  refine r_objInit ln_Mm_1 w_oi1 w_oi2 d_Mm_init_1 (by decide) (by decide) (Nat.le_of_ble_eq_true rfl) ?_
  refine r_aload_n d_Mm_init_4 rfl 0 rfl ?_
  refine r_bipush d_Mm_init_5 (v := 108) (by decide) ?_
  refine r_newa_char (N := 108) ac_char d_Mm_init_7 (by decide) (by decide) (by decide) (by omega) (by omega) (fun mp => ?_)
  refine r_cs (cs2 := [(m, .inr (12, [.int 0, .null, .int 0, .null, .null, .null, .null, .null, .null, .null, .null, .int 0, .int 0, .int 0, .int 0, .int 0, .int 0, .null, .null, .null, .int 0, .int 0, .int 0, .int 0, .int 0, .null, .null, .null, .null, .long 0, .long 0])), (mp, .inl (1, 108, .inl (fun _ => 0)))]) rfl ?_
  refine r_put fp_Mm_7 d_Mm_init_9 (fun h => nomatch h) rfl rfl (q0 := 0) rfl (Nat.le_of_ble_eq_true rfl) (cs' := [(m, .inr (12, [.int 0, .ref mp, .int 0, .null, .null, .null, .null, .null, .null, .null, .null, .int 0, .int 0, .int 0, .int 0, .int 0, .int 0, .null, .null, .null, .int 0, .int 0, .int 0, .int 0, .int 0, .null, .null, .null, .null, .long 0, .long 0])), (mp, .inl (1, 108, .inl (fun _ => 0)))]) rfl ?_
  refine r_aload_n d_Mm_init_12 rfl 0 rfl ?_
  refine r_iconst d_Mm_init_13 (v := 4) (by decide) ?_
  refine r_put fp_Mm_13 d_Mm_init_14 (fun h => nomatch h) rfl rfl (q0 := 0) rfl (Nat.le_of_ble_eq_true rfl) (cs' := [(m, .inr (12, [.int 0, .ref mp, .int 4, .null, .null, .null, .null, .null, .null, .null, .null, .int 0, .int 0, .int 0, .int 0, .int 0, .int 0, .null, .null, .null, .int 0, .int 0, .int 0, .int 0, .int 0, .null, .null, .null, .null, .long 0, .long 0])), (mp, .inl (1, 108, .inl (fun _ => 0)))]) rfl ?_
  refine r_aload_n d_Mm_init_17 rfl 0 rfl ?_
  refine r_bipush d_Mm_init_18 (v := 108) (by decide) ?_
  refine r_newa_int (N := 108) ac_int d_Mm_init_20 (by decide) (by decide) (by decide) (by omega) (by omega) (fun mf => ?_)
  refine r_cs (cs2 := [(m, .inr (12, [.int 0, .ref mp, .int 4, .null, .null, .null, .null, .null, .null, .null, .null, .int 0, .int 0, .int 0, .int 0, .int 0, .int 0, .null, .null, .null, .int 0, .int 0, .int 0, .int 0, .int 0, .null, .null, .null, .null, .long 0, .long 0])), (mp, .inl (1, 108, .inl (fun _ => 0))), (mf, .inl (0, 108, .inl (fun _ => 0)))]) rfl ?_
  refine r_put fp_Mm_17 d_Mm_init_22 (fun _ => rfl) rfl rfl (q0 := 0) rfl (Nat.le_of_ble_eq_true rfl) (cs' := [(m, .inr (12, [.int 0, .ref mp, .int 4, .ref mf, .null, .null, .null, .null, .null, .null, .null, .int 0, .int 0, .int 0, .int 0, .int 0, .int 0, .null, .null, .null, .int 0, .int 0, .int 0, .int 0, .int 0, .null, .null, .null, .null, .long 0, .long 0])), (mp, .inl (1, 108, .inl (fun _ => 0))), (mf, .inl (0, 108, .inl (fun _ => 0)))]) rfl ?_
  refine r_aload_n d_Mm_init_25 rfl 0 rfl ?_
  refine r_bipush d_Mm_init_26 (v := 108) (by decide) ?_
  refine r_newa_int (N := 108) ac_int d_Mm_init_28 (by decide) (by decide) (by decide) (by omega) (by omega) (fun mh => ?_)
  refine r_cs (cs2 := [(m, .inr (12, [.int 0, .ref mp, .int 4, .ref mf, .null, .null, .null, .null, .null, .null, .null, .int 0, .int 0, .int 0, .int 0, .int 0, .int 0, .null, .null, .null, .int 0, .int 0, .int 0, .int 0, .int 0, .null, .null, .null, .null, .long 0, .long 0])), (mp, .inl (1, 108, .inl (fun _ => 0))), (mf, .inl (0, 108, .inl (fun _ => 0))), (mh, .inl (0, 108, .inl (fun _ => 0)))]) rfl ?_
  refine r_put fp_Mm_21 d_Mm_init_30 (fun _ => rfl) rfl rfl (q0 := 0) rfl (Nat.le_of_ble_eq_true rfl) (cs' := [(m, .inr (12, [.int 0, .ref mp, .int 4, .ref mf, .ref mh, .null, .null, .null, .null, .null, .null, .int 0, .int 0, .int 0, .int 0, .int 0, .int 0, .null, .null, .null, .int 0, .int 0, .int 0, .int 0, .int 0, .null, .null, .null, .null, .long 0, .long 0])), (mp, .inl (1, 108, .inl (fun _ => 0))), (mf, .inl (0, 108, .inl (fun _ => 0))), (mh, .inl (0, 108, .inl (fun _ => 0)))]) rfl ?_
  refine r_aload_n d_Mm_init_33 rfl 0 rfl ?_
  refine r_bipush d_Mm_init_34 (v := 108) (by decide) ?_
  refine r_newa_int (N := 108) ac_int d_Mm_init_36 (by decide) (by decide) (by decide) (by omega) (by omega) (fun mn => ?_)
  refine r_cs (cs2 := [(m, .inr (12, [.int 0, .ref mp, .int 4, .ref mf, .ref mh, .null, .null, .null, .null, .null, .null, .int 0, .int 0, .int 0, .int 0, .int 0, .int 0, .null, .null, .null, .int 0, .int 0, .int 0, .int 0, .int 0, .null, .null, .null, .null, .long 0, .long 0])), (mp, .inl (1, 108, .inl (fun _ => 0))), (mf, .inl (0, 108, .inl (fun _ => 0))), (mh, .inl (0, 108, .inl (fun _ => 0))), (mn, .inl (0, 108, .inl (fun _ => 0)))]) rfl ?_
  refine r_put fp_Mm_24 d_Mm_init_38 (fun _ => rfl) rfl rfl (q0 := 0) rfl (Nat.le_of_ble_eq_true rfl) (cs' := [(m, .inr (12, [.int 0, .ref mp, .int 4, .ref mf, .ref mh, .ref mn, .null, .null, .null, .null, .null, .int 0, .int 0, .int 0, .int 0, .int 0, .int 0, .null, .null, .null, .int 0, .int 0, .int 0, .int 0, .int 0, .null, .null, .null, .null, .long 0, .long 0])), (mp, .inl (1, 108, .inl (fun _ => 0))), (mf, .inl (0, 108, .inl (fun _ => 0))), (mh, .inl (0, 108, .inl (fun _ => 0))), (mn, .inl (0, 108, .inl (fun _ => 0)))]) rfl ?_
  refine r_aload_n d_Mm_init_41 rfl 0 rfl ?_
  refine r_bipush d_Mm_init_42 (v := 108) (by decide) ?_
  refine r_newa_int (N := 108) ac_int d_Mm_init_44 (by decide) (by decide) (by decide) (by omega) (by omega) (fun mt => ?_)
  refine r_cs (cs2 := [(m, .inr (12, [.int 0, .ref mp, .int 4, .ref mf, .ref mh, .ref mn, .null, .null, .null, .null, .null, .int 0, .int 0, .int 0, .int 0, .int 0, .int 0, .null, .null, .null, .int 0, .int 0, .int 0, .int 0, .int 0, .null, .null, .null, .null, .long 0, .long 0])), (mp, .inl (1, 108, .inl (fun _ => 0))), (mf, .inl (0, 108, .inl (fun _ => 0))), (mh, .inl (0, 108, .inl (fun _ => 0))), (mn, .inl (0, 108, .inl (fun _ => 0))), (mt, .inl (0, 108, .inl (fun _ => 0)))]) rfl ?_
  refine r_put fp_Mm_27 d_Mm_init_46 (fun _ => rfl) rfl rfl (q0 := 0) rfl (Nat.le_of_ble_eq_true rfl) (cs' := [(m, .inr (12, [.int 0, .ref mp, .int 4, .ref mf, .ref mh, .ref mn, .ref mt, .null, .null, .null, .null, .int 0, .int 0, .int 0, .int 0, .int 0, .int 0, .null, .null, .null, .int 0, .int 0, .int 0, .int 0, .int 0, .null, .null, .null, .null, .long 0, .long 0])), (mp, .inl (1, 108, .inl (fun _ => 0))), (mf, .inl (0, 108, .inl (fun _ => 0))), (mh, .inl (0, 108, .inl (fun _ => 0))), (mn, .inl (0, 108, .inl (fun _ => 0))), (mt, .inl (0, 108, .inl (fun _ => 0)))]) rfl ?_
  refine r_aload_n d_Mm_init_49 rfl 0 rfl ?_
  refine r_bipush d_Mm_init_50 (v := 108) (by decide) ?_
  refine r_newa_int (N := 108) ac_int d_Mm_init_52 (by decide) (by decide) (by decide) (by omega) (by omega) (fun mz => ?_)
  refine r_cs (cs2 := [(m, .inr (12, [.int 0, .ref mp, .int 4, .ref mf, .ref mh, .ref mn, .ref mt, .null, .null, .null, .null, .int 0, .int 0, .int 0, .int 0, .int 0, .int 0, .null, .null, .null, .int 0, .int 0, .int 0, .int 0, .int 0, .null, .null, .null, .null, .long 0, .long 0])), (mp, .inl (1, 108, .inl (fun _ => 0))), (mf, .inl (0, 108, .inl (fun _ => 0))), (mh, .inl (0, 108, .inl (fun _ => 0))), (mn, .inl (0, 108, .inl (fun _ => 0))), (mt, .inl (0, 108, .inl (fun _ => 0))), (mz, .inl (0, 108, .inl (fun _ => 0)))]) rfl ?_
  refine r_put fp_Mm_30 d_Mm_init_54 (fun _ => rfl) rfl rfl (q0 := 0) rfl (Nat.le_of_ble_eq_true rfl) (cs' := [(m, .inr (12, [.int 0, .ref mp, .int 4, .ref mf, .ref mh, .ref mn, .ref mt, .ref mz, .null, .null, .null, .int 0, .int 0, .int 0, .int 0, .int 0, .int 0, .null, .null, .null, .int 0, .int 0, .int 0, .int 0, .int 0, .null, .null, .null, .null, .long 0, .long 0])), (mp, .inl (1, 108, .inl (fun _ => 0))), (mf, .inl (0, 108, .inl (fun _ => 0))), (mh, .inl (0, 108, .inl (fun _ => 0))), (mn, .inl (0, 108, .inl (fun _ => 0))), (mt, .inl (0, 108, .inl (fun _ => 0))), (mz, .inl (0, 108, .inl (fun _ => 0)))]) rfl ?_
  refine r_aload_n d_Mm_init_57 rfl 0 rfl ?_
  refine r_bipush d_Mm_init_58 (v := 108) (by decide) ?_
  refine r_newa_bool (N := 108) ac_bool d_Mm_init_60 (by decide) (by decide) (by decide) (by omega) (by omega) (fun mc_ => ?_)
  refine r_cs (cs2 := [(m, .inr (12, [.int 0, .ref mp, .int 4, .ref mf, .ref mh, .ref mn, .ref mt, .ref mz, .null, .null, .null, .int 0, .int 0, .int 0, .int 0, .int 0, .int 0, .null, .null, .null, .int 0, .int 0, .int 0, .int 0, .int 0, .null, .null, .null, .null, .long 0, .long 0])), (mp, .inl (1, 108, .inl (fun _ => 0))), (mf, .inl (0, 108, .inl (fun _ => 0))), (mh, .inl (0, 108, .inl (fun _ => 0))), (mn, .inl (0, 108, .inl (fun _ => 0))), (mt, .inl (0, 108, .inl (fun _ => 0))), (mz, .inl (0, 108, .inl (fun _ => 0))), (mc_, .inl (2, 108, .inl (fun _ => 0)))]) rfl ?_
  refine r_put fp_Mm_33 d_Mm_init_62 (fun _ => rfl) rfl rfl (q0 := 0) rfl (Nat.le_of_ble_eq_true rfl) (cs' := [(m, .inr (12, [.int 0, .ref mp, .int 4, .ref mf, .ref mh, .ref mn, .ref mt, .ref mz, .ref mc_, .null, .null, .int 0, .int 0, .int 0, .int 0, .int 0, .int 0, .null, .null, .null, .int 0, .int 0, .int 0, .int 0, .int 0, .null, .null, .null, .null, .long 0, .long 0])), (mp, .inl (1, 108, .inl (fun _ => 0))), (mf, .inl (0, 108, .inl (fun _ => 0))), (mh, .inl (0, 108, .inl (fun _ => 0))), (mn, .inl (0, 108, .inl (fun _ => 0))), (mt, .inl (0, 108, .inl (fun _ => 0))), (mz, .inl (0, 108, .inl (fun _ => 0))), (mc_, .inl (2, 108, .inl (fun _ => 0)))]) rfl ?_
  refine r_aload_n d_Mm_init_65 rfl 0 rfl ?_
  refine r_bipush d_Mm_init_66 (v := 108) (by decide) ?_
  refine r_newa_int (N := 108) ac_int d_Mm_init_68 (by decide) (by decide) (by decide) (by omega) (by omega) (fun mq => ?_)
  refine r_cs (cs2 := [(m, .inr (12, [.int 0, .ref mp, .int 4, .ref mf, .ref mh, .ref mn, .ref mt, .ref mz, .ref mc_, .null, .null, .int 0, .int 0, .int 0, .int 0, .int 0, .int 0, .null, .null, .null, .int 0, .int 0, .int 0, .int 0, .int 0, .null, .null, .null, .null, .long 0, .long 0])), (mp, .inl (1, 108, .inl (fun _ => 0))), (mf, .inl (0, 108, .inl (fun _ => 0))), (mh, .inl (0, 108, .inl (fun _ => 0))), (mn, .inl (0, 108, .inl (fun _ => 0))), (mt, .inl (0, 108, .inl (fun _ => 0))), (mz, .inl (0, 108, .inl (fun _ => 0))), (mc_, .inl (2, 108, .inl (fun _ => 0))), (mq, .inl (0, 108, .inl (fun _ => 0)))]) rfl ?_
  refine r_put fp_Mm_37 d_Mm_init_70 (fun _ => rfl) rfl rfl (q0 := 0) rfl (Nat.le_of_ble_eq_true rfl) (cs' := [(m, .inr (12, [.int 0, .ref mp, .int 4, .ref mf, .ref mh, .ref mn, .ref mt, .ref mz, .ref mc_, .ref mq, .null, .int 0, .int 0, .int 0, .int 0, .int 0, .int 0, .null, .null, .null, .int 0, .int 0, .int 0, .int 0, .int 0, .null, .null, .null, .null, .long 0, .long 0])), (mp, .inl (1, 108, .inl (fun _ => 0))), (mf, .inl (0, 108, .inl (fun _ => 0))), (mh, .inl (0, 108, .inl (fun _ => 0))), (mn, .inl (0, 108, .inl (fun _ => 0))), (mt, .inl (0, 108, .inl (fun _ => 0))), (mz, .inl (0, 108, .inl (fun _ => 0))), (mc_, .inl (2, 108, .inl (fun _ => 0))), (mq, .inl (0, 108, .inl (fun _ => 0)))]) rfl ?_
  refine r_aload_n d_Mm_init_73 rfl 0 rfl ?_
  refine r_bipush d_Mm_init_74 (v := 108) (by decide) ?_
  refine r_newa_int (N := 108) ac_int d_Mm_init_76 (by decide) (by decide) (by decide) (by omega) (by omega) (fun mgr => ?_)
  refine r_cs (cs2 := [(m, .inr (12, [.int 0, .ref mp, .int 4, .ref mf, .ref mh, .ref mn, .ref mt, .ref mz, .ref mc_, .ref mq, .null, .int 0, .int 0, .int 0, .int 0, .int 0, .int 0, .null, .null, .null, .int 0, .int 0, .int 0, .int 0, .int 0, .null, .null, .null, .null, .long 0, .long 0])), (mp, .inl (1, 108, .inl (fun _ => 0))), (mf, .inl (0, 108, .inl (fun _ => 0))), (mh, .inl (0, 108, .inl (fun _ => 0))), (mn, .inl (0, 108, .inl (fun _ => 0))), (mt, .inl (0, 108, .inl (fun _ => 0))), (mz, .inl (0, 108, .inl (fun _ => 0))), (mc_, .inl (2, 108, .inl (fun _ => 0))), (mq, .inl (0, 108, .inl (fun _ => 0))), (mgr, .inl (0, 108, .inl (fun _ => 0)))]) rfl ?_
  refine r_put fp_Mm_40 d_Mm_init_78 (fun _ => rfl) rfl rfl (q0 := 0) rfl (Nat.le_of_ble_eq_true rfl) (cs' := [(m, .inr (12, [.int 0, .ref mp, .int 4, .ref mf, .ref mh, .ref mn, .ref mt, .ref mz, .ref mc_, .ref mq, .ref mgr, .int 0, .int 0, .int 0, .int 0, .int 0, .int 0, .null, .null, .null, .int 0, .int 0, .int 0, .int 0, .int 0, .null, .null, .null, .null, .long 0, .long 0])), (mp, .inl (1, 108, .inl (fun _ => 0))), (mf, .inl (0, 108, .inl (fun _ => 0))), (mh, .inl (0, 108, .inl (fun _ => 0))), (mn, .inl (0, 108, .inl (fun _ => 0))), (mt, .inl (0, 108, .inl (fun _ => 0))), (mz, .inl (0, 108, .inl (fun _ => 0))), (mc_, .inl (2, 108, .inl (fun _ => 0))), (mq, .inl (0, 108, .inl (fun _ => 0))), (mgr, .inl (0, 108, .inl (fun _ => 0)))]) rfl ?_
  refine r_aload_n d_Mm_init_81 rfl 0 rfl ?_
  refine r_bipush d_Mm_init_82 (v := 80) (by decide) ?_
  refine r_put fp_Mm_43 d_Mm_init_84 (fun h => nomatch h) rfl rfl (q0 := 0) rfl (Nat.le_of_ble_eq_true rfl) (cs' := [(m, .inr (12, [.int 0, .ref mp, .int 4, .ref mf, .ref mh, .ref mn, .ref mt, .ref mz, .ref mc_, .ref mq, .ref mgr, .int 80, .int 0, .int 0, .int 0, .int 0, .int 0, .null, .null, .null, .int 0, .int 0, .int 0, .int 0, .int 0, .null, .null, .null, .null, .long 0, .long 0])), (mp, .inl (1, 108, .inl (fun _ => 0))), (mf, .inl (0, 108, .inl (fun _ => 0))), (mh, .inl (0, 108, .inl (fun _ => 0))), (mn, .inl (0, 108, .inl (fun _ => 0))), (mt, .inl (0, 108, .inl (fun _ => 0))), (mz, .inl (0, 108, .inl (fun _ => 0))), (mc_, .inl (2, 108, .inl (fun _ => 0))), (mq, .inl (0, 108, .inl (fun _ => 0))), (mgr, .inl (0, 108, .inl (fun _ => 0)))]) rfl ?_
  refine r_aload_n d_Mm_init_87 rfl 0 rfl ?_
  refine r_bipush d_Mm_init_88 (v := 35) (by decide) ?_
  refine r_put fp_Mm_46 d_Mm_init_90 (fun h => nomatch h) rfl rfl (q0 := 0) rfl (Nat.le_of_ble_eq_true rfl) (cs' := [(m, .inr (12, [.int 0, .ref mp, .int 4, .ref mf, .ref mh, .ref mn, .ref mt, .ref mz, .ref mc_, .ref mq, .ref mgr, .int 80, .int 35, .int 0, .int 0, .int 0, .int 0, .null, .null, .null, .int 0, .int 0, .int 0, .int 0, .int 0, .null, .null, .null, .null, .long 0, .long 0])), (mp, .inl (1, 108, .inl (fun _ => 0))), (mf, .inl (0, 108, .inl (fun _ => 0))), (mh, .inl (0, 108, .inl (fun _ => 0))), (mn, .inl (0, 108, .inl (fun _ => 0))), (mt, .inl (0, 108, .inl (fun _ => 0))), (mz, .inl (0, 108, .inl (fun _ => 0))), (mc_, .inl (2, 108, .inl (fun _ => 0))), (mq, .inl (0, 108, .inl (fun _ => 0))), (mgr, .inl (0, 108, .inl (fun _ => 0)))]) rfl ?_
  refine r_aload_n d_Mm_init_93 rfl 0 rfl ?_
  refine r_bipush d_Mm_init_94 (v := 30) (by decide) ?_
  refine r_put fp_Mm_49 d_Mm_init_96 (fun h => nomatch h) rfl rfl (q0 := 0) rfl (Nat.le_of_ble_eq_true rfl) (cs' := [(m, .inr (12, [.int 0, .ref mp, .int 4, .ref mf, .ref mh, .ref mn, .ref mt, .ref mz, .ref mc_, .ref mq, .ref mgr, .int 80, .int 35, .int 30, .int 0, .int 0, .int 0, .null, .null, .null, .int 0, .int 0, .int 0, .int 0, .int 0, .null, .null, .null, .null, .long 0, .long 0])), (mp, .inl (1, 108, .inl (fun _ => 0))), (mf, .inl (0, 108, .inl (fun _ => 0))), (mh, .inl (0, 108, .inl (fun _ => 0))), (mn, .inl (0, 108, .inl (fun _ => 0))), (mt, .inl (0, 108, .inl (fun _ => 0))), (mz, .inl (0, 108, .inl (fun _ => 0))), (mc_, .inl (2, 108, .inl (fun _ => 0))), (mq, .inl (0, 108, .inl (fun _ => 0))), (mgr, .inl (0, 108, .inl (fun _ => 0)))]) rfl ?_
  refine r_aload_n d_Mm_init_99 rfl 0 rfl ?_
  refine r_bipush d_Mm_init_100 (v := 50) (by decide) ?_
  refine r_put fp_Mm_52 d_Mm_init_102 (fun h => nomatch h) rfl rfl (q0 := 0) rfl (Nat.le_of_ble_eq_true rfl) (cs' := [(m, .inr (12, [.int 0, .ref mp, .int 4, .ref mf, .ref mh, .ref mn, .ref mt, .ref mz, .ref mc_, .ref mq, .ref mgr, .int 80, .int 35, .int 30, .int 50, .int 0, .int 0, .null, .null, .null, .int 0, .int 0, .int 0, .int 0, .int 0, .null, .null, .null, .null, .long 0, .long 0])), (mp, .inl (1, 108, .inl (fun _ => 0))), (mf, .inl (0, 108, .inl (fun _ => 0))), (mh, .inl (0, 108, .inl (fun _ => 0))), (mn, .inl (0, 108, .inl (fun _ => 0))), (mt, .inl (0, 108, .inl (fun _ => 0))), (mz, .inl (0, 108, .inl (fun _ => 0))), (mc_, .inl (2, 108, .inl (fun _ => 0))), (mq, .inl (0, 108, .inl (fun _ => 0))), (mgr, .inl (0, 108, .inl (fun _ => 0)))]) rfl ?_
  refine r_aload_n d_Mm_init_105 rfl 0 rfl ?_
  refine r_new nc_Mm_55 d_Mm_init_106 (by omega) (by omega) (fun ml => ?_)
  refine r_cs (cs2 := [(m, .inr (12, [.int 0, .ref mp, .int 4, .ref mf, .ref mh, .ref mn, .ref mt, .ref mz, .ref mc_, .ref mq, .ref mgr, .int 80, .int 35, .int 30, .int 50, .int 0, .int 0, .null, .null, .null, .int 0, .int 0, .int 0, .int 0, .int 0, .null, .null, .null, .null, .long 0, .long 0])), (mp, .inl (1, 108, .inl (fun _ => 0))), (mf, .inl (0, 108, .inl (fun _ => 0))), (mh, .inl (0, 108, .inl (fun _ => 0))), (mn, .inl (0, 108, .inl (fun _ => 0))), (mt, .inl (0, 108, .inl (fun _ => 0))), (mz, .inl (0, 108, .inl (fun _ => 0))), (mc_, .inl (2, 108, .inl (fun _ => 0))), (mq, .inl (0, 108, .inl (fun _ => 0))), (mgr, .inl (0, 108, .inl (fun _ => 0))), (ml, .inr (13, [.int 0, .null, .int 0]))]) rfl ?_
  refine r_dup d_Mm_init_109 rfl ?_
  refine r_callI (As := []) (rest := [.ref ml, .ref m]) (csC := [(ml, .inr (13, [.int 0, .null, .int 0]))]) (is := [10]) rfl rfl ln_Mm_57 w_im_AL_init ok_Mm_init_AL_init d_Mm_init_110 (C_AL_init g ml) rfl rfl (Nat.le_of_ble_eq_true rfl) rfl (by decide) (by omega) (by omega) (fun E cs1 hx => ?_) (fun v cs1 hx => ?_)
  · exact absurd hx.1 (by simp)
  · obtain ⟨e1, rfl⟩ := hx
    cases e1
    refine ⟨rfl, ?_⟩
    refine r_st (st2 := [.ref ml, .ref m]) rfl ?_
    refine r_cs (cs2 := [(m, .inr (12, [.int 0, .ref mp, .int 4, .ref mf, .ref mh, .ref mn, .ref mt, .ref mz, .ref mc_, .ref mq, .ref mgr, .int 80, .int 35, .int 30, .int 50, .int 0, .int 0, .null, .null, .null, .int 0, .int 0, .int 0, .int 0, .int 0, .null, .null, .null, .null, .long 0, .long 0])), (mp, .inl (1, 108, .inl (fun _ => 0))), (mf, .inl (0, 108, .inl (fun _ => 0))), (mh, .inl (0, 108, .inl (fun _ => 0))), (mn, .inl (0, 108, .inl (fun _ => 0))), (mt, .inl (0, 108, .inl (fun _ => 0))), (mz, .inl (0, 108, .inl (fun _ => 0))), (mc_, .inl (2, 108, .inl (fun _ => 0))), (mq, .inl (0, 108, .inl (fun _ => 0))), (mgr, .inl (0, 108, .inl (fun _ => 0))), (ml, .inr (13, [.int 0, .ref (g.2.2 4), .int 0]))]) rfl ?_
    refine r_put fp_Mm_58 d_Mm_init_113 (fun _ => rfl) rfl rfl (q0 := 0) rfl (Nat.le_of_ble_eq_true rfl) (cs' := [(m, .inr (12, [.int 0, .ref mp, .int 4, .ref mf, .ref mh, .ref mn, .ref mt, .ref mz, .ref mc_, .ref mq, .ref mgr, .int 80, .int 35, .int 30, .int 50, .int 0, .int 0, .ref ml, .null, .null, .int 0, .int 0, .int 0, .int 0, .int 0, .null, .null, .null, .null, .long 0, .long 0])), (mp, .inl (1, 108, .inl (fun _ => 0))), (mf, .inl (0, 108, .inl (fun _ => 0))), (mh, .inl (0, 108, .inl (fun _ => 0))), (mn, .inl (0, 108, .inl (fun _ => 0))), (mt, .inl (0, 108, .inl (fun _ => 0))), (mz, .inl (0, 108, .inl (fun _ => 0))), (mc_, .inl (2, 108, .inl (fun _ => 0))), (mq, .inl (0, 108, .inl (fun _ => 0))), (mgr, .inl (0, 108, .inl (fun _ => 0))), (ml, .inr (13, [.int 0, .ref (g.2.2 4), .int 0]))]) rfl ?_
    refine r_aload_n d_Mm_init_116 rfl 0 rfl ?_
    refine r_iconst d_Mm_init_117 (v := 4) (by decide) ?_
    refine r_newa_int (N := 4) ac_int d_Mm_init_118 (by decide) (by decide) (by decide) (by omega) (by omega) (fun mi => ?_)
    refine r_cs (cs2 := [(m, .inr (12, [.int 0, .ref mp, .int 4, .ref mf, .ref mh, .ref mn, .ref mt, .ref mz, .ref mc_, .ref mq, .ref mgr, .int 80, .int 35, .int 30, .int 50, .int 0, .int 0, .ref ml, .null, .null, .int 0, .int 0, .int 0, .int 0, .int 0, .null, .null, .null, .null, .long 0, .long 0])), (mp, .inl (1, 108, .inl (fun _ => 0))), (mf, .inl (0, 108, .inl (fun _ => 0))), (mh, .inl (0, 108, .inl (fun _ => 0))), (mn, .inl (0, 108, .inl (fun _ => 0))), (mt, .inl (0, 108, .inl (fun _ => 0))), (mz, .inl (0, 108, .inl (fun _ => 0))), (mc_, .inl (2, 108, .inl (fun _ => 0))), (mq, .inl (0, 108, .inl (fun _ => 0))), (mgr, .inl (0, 108, .inl (fun _ => 0))), (ml, .inr (13, [.int 0, .ref (g.2.2 4), .int 0])), (mi, .inl (0, 4, .inl (fun _ => 0)))]) rfl ?_
    refine r_put fp_Mm_62 d_Mm_init_120 (fun _ => rfl) rfl rfl (q0 := 0) rfl (Nat.le_of_ble_eq_true rfl) (cs' := [(m, .inr (12, [.int 0, .ref mp, .int 4, .ref mf, .ref mh, .ref mn, .ref mt, .ref mz, .ref mc_, .ref mq, .ref mgr, .int 80, .int 35, .int 30, .int 50, .int 0, .int 0, .ref ml, .ref mi, .null, .int 0, .int 0, .int 0, .int 0, .int 0, .null, .null, .null, .null, .long 0, .long 0])), (mp, .inl (1, 108, .inl (fun _ => 0))), (mf, .inl (0, 108, .inl (fun _ => 0))), (mh, .inl (0, 108, .inl (fun _ => 0))), (mn, .inl (0, 108, .inl (fun _ => 0))), (mt, .inl (0, 108, .inl (fun _ => 0))), (mz, .inl (0, 108, .inl (fun _ => 0))), (mc_, .inl (2, 108, .inl (fun _ => 0))), (mq, .inl (0, 108, .inl (fun _ => 0))), (mgr, .inl (0, 108, .inl (fun _ => 0))), (ml, .inr (13, [.int 0, .ref (g.2.2 4), .int 0])), (mi, .inl (0, 4, .inl (fun _ => 0)))]) rfl ?_
    refine r_aload_n d_Mm_init_123 rfl 0 rfl ?_
    refine r_bipush d_Mm_init_124 (v := 16) (by decide) ?_
    refine r_newa_long (N := 16) ac_long d_Mm_init_126 (by decide) (by decide) (by decide) (by omega) (by omega) (fun mr => ?_)
    refine r_cs (cs2 := [(m, .inr (12, [.int 0, .ref mp, .int 4, .ref mf, .ref mh, .ref mn, .ref mt, .ref mz, .ref mc_, .ref mq, .ref mgr, .int 80, .int 35, .int 30, .int 50, .int 0, .int 0, .ref ml, .ref mi, .null, .int 0, .int 0, .int 0, .int 0, .int 0, .null, .null, .null, .null, .long 0, .long 0])), (mp, .inl (1, 108, .inl (fun _ => 0))), (mf, .inl (0, 108, .inl (fun _ => 0))), (mh, .inl (0, 108, .inl (fun _ => 0))), (mn, .inl (0, 108, .inl (fun _ => 0))), (mt, .inl (0, 108, .inl (fun _ => 0))), (mz, .inl (0, 108, .inl (fun _ => 0))), (mc_, .inl (2, 108, .inl (fun _ => 0))), (mq, .inl (0, 108, .inl (fun _ => 0))), (mgr, .inl (0, 108, .inl (fun _ => 0))), (ml, .inr (13, [.int 0, .ref (g.2.2 4), .int 0])), (mi, .inl (0, 4, .inl (fun _ => 0))), (mr, .inl (3, 16, .inr (.inl (fun _ => 0))))]) rfl ?_
    refine r_put fp_Mm_65 d_Mm_init_128 (fun _ => rfl) rfl rfl (q0 := 0) rfl (Nat.le_of_ble_eq_true rfl) (cs' := [(m, .inr (12, [.int 0, .ref mp, .int 4, .ref mf, .ref mh, .ref mn, .ref mt, .ref mz, .ref mc_, .ref mq, .ref mgr, .int 80, .int 35, .int 30, .int 50, .int 0, .int 0, .ref ml, .ref mi, .ref mr, .int 0, .int 0, .int 0, .int 0, .int 0, .null, .null, .null, .null, .long 0, .long 0])), (mp, .inl (1, 108, .inl (fun _ => 0))), (mf, .inl (0, 108, .inl (fun _ => 0))), (mh, .inl (0, 108, .inl (fun _ => 0))), (mn, .inl (0, 108, .inl (fun _ => 0))), (mt, .inl (0, 108, .inl (fun _ => 0))), (mz, .inl (0, 108, .inl (fun _ => 0))), (mc_, .inl (2, 108, .inl (fun _ => 0))), (mq, .inl (0, 108, .inl (fun _ => 0))), (mgr, .inl (0, 108, .inl (fun _ => 0))), (ml, .inr (13, [.int 0, .ref (g.2.2 4), .int 0])), (mi, .inl (0, 4, .inl (fun _ => 0))), (mr, .inl (3, 16, .inr (.inl (fun _ => 0))))]) rfl ?_
    refine r_aload_n d_Mm_init_131 rfl 0 rfl ?_
    refine r_iconst d_Mm_init_132 (v := (-1)) (by decide) ?_
    refine r_put fp_Mm_69 d_Mm_init_133 (fun h => nomatch h) rfl rfl (q0 := 0) rfl (Nat.le_of_ble_eq_true rfl) (cs' := [(m, .inr (12, [.int 0, .ref mp, .int 4, .ref mf, .ref mh, .ref mn, .ref mt, .ref mz, .ref mc_, .ref mq, .ref mgr, .int 80, .int 35, .int 30, .int 50, .int 0, .int 0, .ref ml, .ref mi, .ref mr, .int 0, .int 0, .int 0, .int (-1), .int 0, .null, .null, .null, .null, .long 0, .long 0])), (mp, .inl (1, 108, .inl (fun _ => 0))), (mf, .inl (0, 108, .inl (fun _ => 0))), (mh, .inl (0, 108, .inl (fun _ => 0))), (mn, .inl (0, 108, .inl (fun _ => 0))), (mt, .inl (0, 108, .inl (fun _ => 0))), (mz, .inl (0, 108, .inl (fun _ => 0))), (mc_, .inl (2, 108, .inl (fun _ => 0))), (mq, .inl (0, 108, .inl (fun _ => 0))), (mgr, .inl (0, 108, .inl (fun _ => 0))), (ml, .inr (13, [.int 0, .ref (g.2.2 4), .int 0])), (mi, .inl (0, 4, .inl (fun _ => 0))), (mr, .inl (3, 16, .inr (.inl (fun _ => 0))))]) rfl ?_
    refine r_aload_n d_Mm_init_136 rfl 0 rfl ?_
    refine r_new nc_Mm_55 d_Mm_init_137 (by omega) (by omega) (fun mm => ?_)
    refine r_cs (cs2 := [(m, .inr (12, [.int 0, .ref mp, .int 4, .ref mf, .ref mh, .ref mn, .ref mt, .ref mz, .ref mc_, .ref mq, .ref mgr, .int 80, .int 35, .int 30, .int 50, .int 0, .int 0, .ref ml, .ref mi, .ref mr, .int 0, .int 0, .int 0, .int (-1), .int 0, .null, .null, .null, .null, .long 0, .long 0])), (mp, .inl (1, 108, .inl (fun _ => 0))), (mf, .inl (0, 108, .inl (fun _ => 0))), (mh, .inl (0, 108, .inl (fun _ => 0))), (mn, .inl (0, 108, .inl (fun _ => 0))), (mt, .inl (0, 108, .inl (fun _ => 0))), (mz, .inl (0, 108, .inl (fun _ => 0))), (mc_, .inl (2, 108, .inl (fun _ => 0))), (mq, .inl (0, 108, .inl (fun _ => 0))), (mgr, .inl (0, 108, .inl (fun _ => 0))), (ml, .inr (13, [.int 0, .ref (g.2.2 4), .int 0])), (mi, .inl (0, 4, .inl (fun _ => 0))), (mr, .inl (3, 16, .inr (.inl (fun _ => 0)))), (mm, .inr (13, [.int 0, .null, .int 0]))]) rfl ?_
    refine r_dup d_Mm_init_140 rfl ?_
    refine r_callI (As := []) (rest := [.ref mm, .ref m]) (csC := [(mm, .inr (13, [.int 0, .null, .int 0]))]) (is := [13]) rfl rfl ln_Mm_57 w_im_AL_init ok_Mm_init_AL_init d_Mm_init_141 (C_AL_init g mm) rfl rfl (Nat.le_of_ble_eq_true rfl) rfl (by decide) (by omega) (by omega) (fun E cs1 hx => ?_) (fun v cs1 hx => ?_)
    · exact absurd hx.1 (by simp)
    · obtain ⟨e1, rfl⟩ := hx
      cases e1
      refine ⟨rfl, ?_⟩
      refine r_st (st2 := [.ref mm, .ref m]) rfl ?_
      refine r_cs (cs2 := [(m, .inr (12, [.int 0, .ref mp, .int 4, .ref mf, .ref mh, .ref mn, .ref mt, .ref mz, .ref mc_, .ref mq, .ref mgr, .int 80, .int 35, .int 30, .int 50, .int 0, .int 0, .ref ml, .ref mi, .ref mr, .int 0, .int 0, .int 0, .int (-1), .int 0, .null, .null, .null, .null, .long 0, .long 0])), (mp, .inl (1, 108, .inl (fun _ => 0))), (mf, .inl (0, 108, .inl (fun _ => 0))), (mh, .inl (0, 108, .inl (fun _ => 0))), (mn, .inl (0, 108, .inl (fun _ => 0))), (mt, .inl (0, 108, .inl (fun _ => 0))), (mz, .inl (0, 108, .inl (fun _ => 0))), (mc_, .inl (2, 108, .inl (fun _ => 0))), (mq, .inl (0, 108, .inl (fun _ => 0))), (mgr, .inl (0, 108, .inl (fun _ => 0))), (ml, .inr (13, [.int 0, .ref (g.2.2 4), .int 0])), (mi, .inl (0, 4, .inl (fun _ => 0))), (mr, .inl (3, 16, .inr (.inl (fun _ => 0)))), (mm, .inr (13, [.int 0, .ref (g.2.2 4), .int 0]))]) rfl ?_
      refine r_put fp_Mm_72 d_Mm_init_144 (fun _ => rfl) rfl rfl (q0 := 0) rfl (Nat.le_of_ble_eq_true rfl) (cs' := [(m, .inr (12, [.int 0, .ref mp, .int 4, .ref mf, .ref mh, .ref mn, .ref mt, .ref mz, .ref mc_, .ref mq, .ref mgr, .int 80, .int 35, .int 30, .int 50, .int 0, .int 0, .ref ml, .ref mi, .ref mr, .int 0, .int 0, .int 0, .int (-1), .int 0, .ref mm, .null, .null, .null, .long 0, .long 0])), (mp, .inl (1, 108, .inl (fun _ => 0))), (mf, .inl (0, 108, .inl (fun _ => 0))), (mh, .inl (0, 108, .inl (fun _ => 0))), (mn, .inl (0, 108, .inl (fun _ => 0))), (mt, .inl (0, 108, .inl (fun _ => 0))), (mz, .inl (0, 108, .inl (fun _ => 0))), (mc_, .inl (2, 108, .inl (fun _ => 0))), (mq, .inl (0, 108, .inl (fun _ => 0))), (mgr, .inl (0, 108, .inl (fun _ => 0))), (ml, .inr (13, [.int 0, .ref (g.2.2 4), .int 0])), (mi, .inl (0, 4, .inl (fun _ => 0))), (mr, .inl (3, 16, .inr (.inl (fun _ => 0)))), (mm, .inr (13, [.int 0, .ref (g.2.2 4), .int 0]))]) rfl ?_
      refine r_aload_n d_Mm_init_147 rfl 0 rfl ?_
      refine r_new nc_Mm_55 d_Mm_init_148 (by omega) (by omega) (fun mu => ?_)
      refine r_cs (cs2 := [(m, .inr (12, [.int 0, .ref mp, .int 4, .ref mf, .ref mh, .ref mn, .ref mt, .ref mz, .ref mc_, .ref mq, .ref mgr, .int 80, .int 35, .int 30, .int 50, .int 0, .int 0, .ref ml, .ref mi, .ref mr, .int 0, .int 0, .int 0, .int (-1), .int 0, .ref mm, .null, .null, .null, .long 0, .long 0])), (mp, .inl (1, 108, .inl (fun _ => 0))), (mf, .inl (0, 108, .inl (fun _ => 0))), (mh, .inl (0, 108, .inl (fun _ => 0))), (mn, .inl (0, 108, .inl (fun _ => 0))), (mt, .inl (0, 108, .inl (fun _ => 0))), (mz, .inl (0, 108, .inl (fun _ => 0))), (mc_, .inl (2, 108, .inl (fun _ => 0))), (mq, .inl (0, 108, .inl (fun _ => 0))), (mgr, .inl (0, 108, .inl (fun _ => 0))), (ml, .inr (13, [.int 0, .ref (g.2.2 4), .int 0])), (mi, .inl (0, 4, .inl (fun _ => 0))), (mr, .inl (3, 16, .inr (.inl (fun _ => 0)))), (mm, .inr (13, [.int 0, .ref (g.2.2 4), .int 0])), (mu, .inr (13, [.int 0, .null, .int 0]))]) rfl ?_
      refine r_dup d_Mm_init_151 rfl ?_
      refine r_callI (As := []) (rest := [.ref mu, .ref m]) (csC := [(mu, .inr (13, [.int 0, .null, .int 0]))]) (is := [14]) rfl rfl ln_Mm_57 w_im_AL_init ok_Mm_init_AL_init d_Mm_init_152 (C_AL_init g mu) rfl rfl (Nat.le_of_ble_eq_true rfl) rfl (by decide) (by omega) (by omega) (fun E cs1 hx => ?_) (fun v cs1 hx => ?_)
      · exact absurd hx.1 (by simp)
      · obtain ⟨e1, rfl⟩ := hx
        cases e1
        refine ⟨rfl, ?_⟩
        refine r_st (st2 := [.ref mu, .ref m]) rfl ?_
        refine r_cs (cs2 := [(m, .inr (12, [.int 0, .ref mp, .int 4, .ref mf, .ref mh, .ref mn, .ref mt, .ref mz, .ref mc_, .ref mq, .ref mgr, .int 80, .int 35, .int 30, .int 50, .int 0, .int 0, .ref ml, .ref mi, .ref mr, .int 0, .int 0, .int 0, .int (-1), .int 0, .ref mm, .null, .null, .null, .long 0, .long 0])), (mp, .inl (1, 108, .inl (fun _ => 0))), (mf, .inl (0, 108, .inl (fun _ => 0))), (mh, .inl (0, 108, .inl (fun _ => 0))), (mn, .inl (0, 108, .inl (fun _ => 0))), (mt, .inl (0, 108, .inl (fun _ => 0))), (mz, .inl (0, 108, .inl (fun _ => 0))), (mc_, .inl (2, 108, .inl (fun _ => 0))), (mq, .inl (0, 108, .inl (fun _ => 0))), (mgr, .inl (0, 108, .inl (fun _ => 0))), (ml, .inr (13, [.int 0, .ref (g.2.2 4), .int 0])), (mi, .inl (0, 4, .inl (fun _ => 0))), (mr, .inl (3, 16, .inr (.inl (fun _ => 0)))), (mm, .inr (13, [.int 0, .ref (g.2.2 4), .int 0])), (mu, .inr (13, [.int 0, .ref (g.2.2 4), .int 0]))]) rfl ?_
        refine r_put fp_Mm_75 d_Mm_init_155 (fun _ => rfl) rfl rfl (q0 := 0) rfl (Nat.le_of_ble_eq_true rfl) (cs' := [(m, .inr (12, [.int 0, .ref mp, .int 4, .ref mf, .ref mh, .ref mn, .ref mt, .ref mz, .ref mc_, .ref mq, .ref mgr, .int 80, .int 35, .int 30, .int 50, .int 0, .int 0, .ref ml, .ref mi, .ref mr, .int 0, .int 0, .int 0, .int (-1), .int 0, .ref mm, .ref mu, .null, .null, .long 0, .long 0])), (mp, .inl (1, 108, .inl (fun _ => 0))), (mf, .inl (0, 108, .inl (fun _ => 0))), (mh, .inl (0, 108, .inl (fun _ => 0))), (mn, .inl (0, 108, .inl (fun _ => 0))), (mt, .inl (0, 108, .inl (fun _ => 0))), (mz, .inl (0, 108, .inl (fun _ => 0))), (mc_, .inl (2, 108, .inl (fun _ => 0))), (mq, .inl (0, 108, .inl (fun _ => 0))), (mgr, .inl (0, 108, .inl (fun _ => 0))), (ml, .inr (13, [.int 0, .ref (g.2.2 4), .int 0])), (mi, .inl (0, 4, .inl (fun _ => 0))), (mr, .inl (3, 16, .inr (.inl (fun _ => 0)))), (mm, .inr (13, [.int 0, .ref (g.2.2 4), .int 0])), (mu, .inr (13, [.int 0, .ref (g.2.2 4), .int 0]))]) rfl ?_
        refine r_aload_n d_Mm_init_158 rfl 0 rfl ?_
        refine r_new nc_Mm_55 d_Mm_init_159 (by omega) (by omega) (fun mk => ?_)
        refine r_cs (cs2 := [(m, .inr (12, [.int 0, .ref mp, .int 4, .ref mf, .ref mh, .ref mn, .ref mt, .ref mz, .ref mc_, .ref mq, .ref mgr, .int 80, .int 35, .int 30, .int 50, .int 0, .int 0, .ref ml, .ref mi, .ref mr, .int 0, .int 0, .int 0, .int (-1), .int 0, .ref mm, .ref mu, .null, .null, .long 0, .long 0])), (mp, .inl (1, 108, .inl (fun _ => 0))), (mf, .inl (0, 108, .inl (fun _ => 0))), (mh, .inl (0, 108, .inl (fun _ => 0))), (mn, .inl (0, 108, .inl (fun _ => 0))), (mt, .inl (0, 108, .inl (fun _ => 0))), (mz, .inl (0, 108, .inl (fun _ => 0))), (mc_, .inl (2, 108, .inl (fun _ => 0))), (mq, .inl (0, 108, .inl (fun _ => 0))), (mgr, .inl (0, 108, .inl (fun _ => 0))), (ml, .inr (13, [.int 0, .ref (g.2.2 4), .int 0])), (mi, .inl (0, 4, .inl (fun _ => 0))), (mr, .inl (3, 16, .inr (.inl (fun _ => 0)))), (mm, .inr (13, [.int 0, .ref (g.2.2 4), .int 0])), (mu, .inr (13, [.int 0, .ref (g.2.2 4), .int 0])), (mk, .inr (13, [.int 0, .null, .int 0]))]) rfl ?_
        refine r_dup d_Mm_init_162 rfl ?_
        refine r_callI (As := []) (rest := [.ref mk, .ref m]) (csC := [(mk, .inr (13, [.int 0, .null, .int 0]))]) (is := [15]) rfl rfl ln_Mm_57 w_im_AL_init ok_Mm_init_AL_init d_Mm_init_163 (C_AL_init g mk) rfl rfl (Nat.le_of_ble_eq_true rfl) rfl (by decide) (by omega) (by omega) (fun E cs1 hx => ?_) (fun v cs1 hx => ?_)
        · exact absurd hx.1 (by simp)
        · obtain ⟨e1, rfl⟩ := hx
          cases e1
          refine ⟨rfl, ?_⟩
          refine r_st (st2 := [.ref mk, .ref m]) rfl ?_
          refine r_cs (cs2 := [(m, .inr (12, [.int 0, .ref mp, .int 4, .ref mf, .ref mh, .ref mn, .ref mt, .ref mz, .ref mc_, .ref mq, .ref mgr, .int 80, .int 35, .int 30, .int 50, .int 0, .int 0, .ref ml, .ref mi, .ref mr, .int 0, .int 0, .int 0, .int (-1), .int 0, .ref mm, .ref mu, .null, .null, .long 0, .long 0])), (mp, .inl (1, 108, .inl (fun _ => 0))), (mf, .inl (0, 108, .inl (fun _ => 0))), (mh, .inl (0, 108, .inl (fun _ => 0))), (mn, .inl (0, 108, .inl (fun _ => 0))), (mt, .inl (0, 108, .inl (fun _ => 0))), (mz, .inl (0, 108, .inl (fun _ => 0))), (mc_, .inl (2, 108, .inl (fun _ => 0))), (mq, .inl (0, 108, .inl (fun _ => 0))), (mgr, .inl (0, 108, .inl (fun _ => 0))), (ml, .inr (13, [.int 0, .ref (g.2.2 4), .int 0])), (mi, .inl (0, 4, .inl (fun _ => 0))), (mr, .inl (3, 16, .inr (.inl (fun _ => 0)))), (mm, .inr (13, [.int 0, .ref (g.2.2 4), .int 0])), (mu, .inr (13, [.int 0, .ref (g.2.2 4), .int 0])), (mk, .inr (13, [.int 0, .ref (g.2.2 4), .int 0]))]) rfl ?_
          refine r_put fp_Mm_78 d_Mm_init_166 (fun _ => rfl) rfl rfl (q0 := 0) rfl (Nat.le_of_ble_eq_true rfl) (cs' := [(m, .inr (12, [.int 0, .ref mp, .int 4, .ref mf, .ref mh, .ref mn, .ref mt, .ref mz, .ref mc_, .ref mq, .ref mgr, .int 80, .int 35, .int 30, .int 50, .int 0, .int 0, .ref ml, .ref mi, .ref mr, .int 0, .int 0, .int 0, .int (-1), .int 0, .ref mm, .ref mu, .ref mk, .null, .long 0, .long 0])), (mp, .inl (1, 108, .inl (fun _ => 0))), (mf, .inl (0, 108, .inl (fun _ => 0))), (mh, .inl (0, 108, .inl (fun _ => 0))), (mn, .inl (0, 108, .inl (fun _ => 0))), (mt, .inl (0, 108, .inl (fun _ => 0))), (mz, .inl (0, 108, .inl (fun _ => 0))), (mc_, .inl (2, 108, .inl (fun _ => 0))), (mq, .inl (0, 108, .inl (fun _ => 0))), (mgr, .inl (0, 108, .inl (fun _ => 0))), (ml, .inr (13, [.int 0, .ref (g.2.2 4), .int 0])), (mi, .inl (0, 4, .inl (fun _ => 0))), (mr, .inl (3, 16, .inr (.inl (fun _ => 0)))), (mm, .inr (13, [.int 0, .ref (g.2.2 4), .int 0])), (mu, .inr (13, [.int 0, .ref (g.2.2 4), .int 0])), (mk, .inr (13, [.int 0, .ref (g.2.2 4), .int 0]))]) rfl ?_
          refine r_aload_n d_Mm_init_169 rfl 0 rfl ?_
          refine r_new nc_Mm_55 d_Mm_init_170 (by omega) (by omega) (fun mx => ?_)
          refine r_cs (cs2 := [(m, .inr (12, [.int 0, .ref mp, .int 4, .ref mf, .ref mh, .ref mn, .ref mt, .ref mz, .ref mc_, .ref mq, .ref mgr, .int 80, .int 35, .int 30, .int 50, .int 0, .int 0, .ref ml, .ref mi, .ref mr, .int 0, .int 0, .int 0, .int (-1), .int 0, .ref mm, .ref mu, .ref mk, .null, .long 0, .long 0])), (mp, .inl (1, 108, .inl (fun _ => 0))), (mf, .inl (0, 108, .inl (fun _ => 0))), (mh, .inl (0, 108, .inl (fun _ => 0))), (mn, .inl (0, 108, .inl (fun _ => 0))), (mt, .inl (0, 108, .inl (fun _ => 0))), (mz, .inl (0, 108, .inl (fun _ => 0))), (mc_, .inl (2, 108, .inl (fun _ => 0))), (mq, .inl (0, 108, .inl (fun _ => 0))), (mgr, .inl (0, 108, .inl (fun _ => 0))), (ml, .inr (13, [.int 0, .ref (g.2.2 4), .int 0])), (mi, .inl (0, 4, .inl (fun _ => 0))), (mr, .inl (3, 16, .inr (.inl (fun _ => 0)))), (mm, .inr (13, [.int 0, .ref (g.2.2 4), .int 0])), (mu, .inr (13, [.int 0, .ref (g.2.2 4), .int 0])), (mk, .inr (13, [.int 0, .ref (g.2.2 4), .int 0])), (mx, .inr (13, [.int 0, .null, .int 0]))]) rfl ?_
          refine r_dup d_Mm_init_173 rfl ?_
          refine r_callI (As := []) (rest := [.ref mx, .ref m]) (csC := [(mx, .inr (13, [.int 0, .null, .int 0]))]) (is := [16]) rfl rfl ln_Mm_57 w_im_AL_init ok_Mm_init_AL_init d_Mm_init_174 (C_AL_init g mx) rfl rfl (Nat.le_of_ble_eq_true rfl) rfl (by decide) (by omega) (by omega) (fun E cs1 hx => ?_) (fun v cs1 hx => ?_)
          · exact absurd hx.1 (by simp)
          · obtain ⟨e1, rfl⟩ := hx
            cases e1
            refine ⟨rfl, ?_⟩
            refine r_st (st2 := [.ref mx, .ref m]) rfl ?_
            refine r_cs (cs2 := [(m, .inr (12, [.int 0, .ref mp, .int 4, .ref mf, .ref mh, .ref mn, .ref mt, .ref mz, .ref mc_, .ref mq, .ref mgr, .int 80, .int 35, .int 30, .int 50, .int 0, .int 0, .ref ml, .ref mi, .ref mr, .int 0, .int 0, .int 0, .int (-1), .int 0, .ref mm, .ref mu, .ref mk, .null, .long 0, .long 0])), (mp, .inl (1, 108, .inl (fun _ => 0))), (mf, .inl (0, 108, .inl (fun _ => 0))), (mh, .inl (0, 108, .inl (fun _ => 0))), (mn, .inl (0, 108, .inl (fun _ => 0))), (mt, .inl (0, 108, .inl (fun _ => 0))), (mz, .inl (0, 108, .inl (fun _ => 0))), (mc_, .inl (2, 108, .inl (fun _ => 0))), (mq, .inl (0, 108, .inl (fun _ => 0))), (mgr, .inl (0, 108, .inl (fun _ => 0))), (ml, .inr (13, [.int 0, .ref (g.2.2 4), .int 0])), (mi, .inl (0, 4, .inl (fun _ => 0))), (mr, .inl (3, 16, .inr (.inl (fun _ => 0)))), (mm, .inr (13, [.int 0, .ref (g.2.2 4), .int 0])), (mu, .inr (13, [.int 0, .ref (g.2.2 4), .int 0])), (mk, .inr (13, [.int 0, .ref (g.2.2 4), .int 0])), (mx, .inr (13, [.int 0, .ref (g.2.2 4), .int 0]))]) rfl ?_
            refine r_put fp_Mm_81 d_Mm_init_177 (fun _ => rfl) rfl rfl (q0 := 0) rfl (Nat.le_of_ble_eq_true rfl) (cs' := [(m, .inr (12, [.int 0, .ref mp, .int 4, .ref mf, .ref mh, .ref mn, .ref mt, .ref mz, .ref mc_, .ref mq, .ref mgr, .int 80, .int 35, .int 30, .int 50, .int 0, .int 0, .ref ml, .ref mi, .ref mr, .int 0, .int 0, .int 0, .int (-1), .int 0, .ref mm, .ref mu, .ref mk, .ref mx, .long 0, .long 0])), (mp, .inl (1, 108, .inl (fun _ => 0))), (mf, .inl (0, 108, .inl (fun _ => 0))), (mh, .inl (0, 108, .inl (fun _ => 0))), (mn, .inl (0, 108, .inl (fun _ => 0))), (mt, .inl (0, 108, .inl (fun _ => 0))), (mz, .inl (0, 108, .inl (fun _ => 0))), (mc_, .inl (2, 108, .inl (fun _ => 0))), (mq, .inl (0, 108, .inl (fun _ => 0))), (mgr, .inl (0, 108, .inl (fun _ => 0))), (ml, .inr (13, [.int 0, .ref (g.2.2 4), .int 0])), (mi, .inl (0, 4, .inl (fun _ => 0))), (mr, .inl (3, 16, .inr (.inl (fun _ => 0)))), (mm, .inr (13, [.int 0, .ref (g.2.2 4), .int 0])), (mu, .inr (13, [.int 0, .ref (g.2.2 4), .int 0])), (mk, .inr (13, [.int 0, .ref (g.2.2 4), .int 0])), (mx, .inr (13, [.int 0, .ref (g.2.2 4), .int 0]))]) rfl ?_
            refine r_iconst d_Mm_init_180 (v := 0) (by decide) ?_
            refine r_istore_n (lv' := [(1, .int 0), (0, .ref m)]) d_Mm_init_181 rfl (by decide) rfl ?_
            refine r_bud (kc2 := 0) (ks2 := 0) (Nat.zero_le _) (Nat.zero_le _) ?_
            refine r_lvE (lv2 := [(1, .int (nI 0)), (0, .ref m)]) (rfl) ?_
            refine r_cs (cs2 := [(m, .inr (12, [.int 0, .ref mp, .int 4, .ref mf, .ref mh, .ref mn, .ref mt, .ref mz, .ref mc_, .ref mq, .ref mgr, .int 80, .int 35, .int 30, .int 50, .int 0, .int 0, .ref ml, .ref mi, .ref mr, .int 0, .int 0, .int 0, .int (-1), .int 0, .ref mm, .ref mu, .ref mk, .ref mx, .long 0, .long 0])), (mp, .inl (1, 108, .inl (fa_fill (fun _ => 46) (fun _ => 0) 0))), (mf, .inl (0, 108, .inl (fun _ => 0))), (mh, .inl (0, 108, .inl (fun _ => 0))), (mn, .inl (0, 108, .inl (fun _ => 0))), (mt, .inl (0, 108, .inl (fun _ => 0))), (mz, .inl (0, 108, .inl (fun _ => 0))), (mc_, .inl (2, 108, .inl (fun _ => 0))), (mq, .inl (0, 108, .inl (fun _ => 0))), (mgr, .inl (0, 108, .inl (fun _ => 0))), (ml, .inr (13, [.int 0, .ref (g.2.2 4), .int 0])), (mi, .inl (0, 4, .inl (fun _ => 0))), (mr, .inl (3, 16, .inr (.inl (fun _ => 0)))), (mm, .inr (13, [.int 0, .ref (g.2.2 4), .int 0])), (mu, .inr (13, [.int 0, .ref (g.2.2 4), .int 0])), (mk, .inr (13, [.int 0, .ref (g.2.2 4), .int 0])), (mx, .inr (13, [.int 0, .ref (g.2.2 4), .int 0]))]) (rfl) ?_
            exact L_Mm_init_182 g m w0 _ mp mf mh mn mt mz mc_ mq mgr ml mi mr mm mu mk mx (108 + 1) 0 (Nat.zero_le _) (by omega)
