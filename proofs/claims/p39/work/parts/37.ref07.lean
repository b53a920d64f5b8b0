set_option maxHeartbeats 4000000 in
set_option maxRecDepth 100000 in
theorem C_Mm_charge107N (g : zG) (m mp mf mh mn mt mz mc_ mq mgr ml mi mr mm mu mk mx : Nat) (th pt cl wa co_ fi bu ho lh mg wd fpi fal : Int32) (po de : Int64) (ir : Nat → Int32) (gr : Nat → Int64) (m1 : Int32) (hw : (1 ≤ m1 ∧ m1 ≤ 1000)) : CT g M_Mm_charge [.ref m, .int 107, .int m1] [(m, .inr (12, [.int th, .ref mp, .int pt, .ref mf, .ref mh, .ref mn, .ref mt, .ref mz, .ref mc_, .ref mq, .ref mgr, .int cl, .int wa, .int co_, .int fi, .int bu, .int ho, .ref ml, .ref mi, .ref mr, .int lh, .int mg, .int wd, .int fpi, .int fal, .ref mm, .ref mu, .ref mk, .ref mx, .long po, .long de])), (mi, .inl (0, 4, .inl ir)), (mr, .inl (3, 16, .inr (.inl gr)))] (fun o cs1 => o = .inl (some (.int (ir 0 + 0))) ∧ cs1 = [(m, .inr (12, [.int 0, .ref mp, .int pt, .ref mf, .ref mh, .ref mn, .ref mt, .ref mz, .ref mc_, .ref mq, .ref mgr, .int cl, .int wa, .int co_, .int fi, .int bu, .int ho, .ref ml, .ref mi, .ref mr, .int lh, .int mg, .int wd, .int fpi, .int fal, .ref mm, .ref mu, .ref mk, .ref mx, .long po, .long de])), (mi, .inl (0, 4, .inl (upd ir 0 (ir 0 + 0)))), (mr, .inl (3, 16, .inr (.inl (lfd gr (fun e => chS m1 3 e / 10) 4))))]) 0 0 := by
  refine z_of (by decide) rfl (Nat.le_of_ble_eq_true rfl) (fun w0 => ?_)
  refine r_lvE (lv2 := [(0, .ref m), (1, .int 107), (2, .int m1)]) rfl ?_
  refine r_aload_n d_Mm_charge_0 rfl 0 rfl ?_
  refine r_iconst d_Mm_charge_1 (v := 0) (by decide) ?_
  refine r_put fp_Mm_84 d_Mm_charge_2 (fun h => nomatch h) rfl rfl (q0 := 0) rfl (Nat.le_of_ble_eq_true rfl) (cs' := [(m, .inr (12, [.int 0, .ref mp, .int pt, .ref mf, .ref mh, .ref mn, .ref mt, .ref mz, .ref mc_, .ref mq, .ref mgr, .int cl, .int wa, .int co_, .int fi, .int bu, .int ho, .ref ml, .ref mi, .ref mr, .int lh, .int mg, .int wd, .int fpi, .int fal, .ref mm, .ref mu, .ref mk, .ref mx, .long po, .long de])), (mi, .inl (0, 4, .inl ir)), (mr, .inl (3, 16, .inr (.inl gr)))]) rfl ?_
  refine r_iload_n d_Mm_charge_5 rfl 1 rfl ?_
  refine r_bipush d_Mm_charge_6 (v := 103) (by decide) ?_
  refine r_icmp_ne (tgt := 15) d_Mm_charge_8 (by decide) (fun c_8 => ?_) (fun c_8 => ?_)
  · refine r_iload_n d_Mm_charge_15 rfl 1 rfl ?_
    refine r_bipush d_Mm_charge_16 (v := 100) (by decide) ?_
    refine r_icmp_ne (tgt := 25) d_Mm_charge_18 (by decide) (fun c_18 => ?_) (fun c_18 => ?_)
    · refine r_iconst d_Mm_charge_25 (v := (-1)) (by decide) ?_
      refine r_istore_n (lv' := [(3, .int (-1)), (0, .ref m), (1, .int 107), (2, .int m1)]) d_Mm_charge_26 rfl (by decide) rfl ?_
      refine r_aload_n d_Mm_charge_27 rfl 1 rfl ?_
      refine r_ldcS (own := "IronpourModel") (i := 1) (by decide) d_Mm_charge_28 ?_
      refine r_iload_n d_Mm_charge_30 rfl 2 rfl ?_
      refine r_callVS (As := [.int 107]) (rest := [.ref m]) (csC := []) (is := []) (i := 1) (by first | assumption | decide) rfl ln_Mm_97 w_im_String_indexOf_0 w_se_String_indexOf_0 ok_Mm_charge_String_indexOf_0 d_Mm_charge_31 (C_St_indexOf g 1 (by decide) 107) rfl rfl (Nat.le_of_ble_eq_true rfl) rfl (by decide) (by omega) (by omega) (fun E cs1 hx => ?_) (fun v cs1 hx => ?_)
      · exact absurd hx.1 (by simp)
      · obtain ⟨e1, rfl⟩ := hx
        cases e1
        refine ⟨rfl, ?_⟩
        refine r_st (st2 := [.int (z_ix 1 107), .ref m]) rfl ?_
        refine r_cs (cs2 := [(m, .inr (12, [.int 0, .ref mp, .int pt, .ref mf, .ref mh, .ref mn, .ref mt, .ref mz, .ref mc_, .ref mq, .ref mgr, .int cl, .int wa, .int co_, .int fi, .int bu, .int ho, .ref ml, .ref mi, .ref mr, .int lh, .int mg, .int wd, .int fpi, .int fal, .ref mm, .ref mu, .ref mk, .ref mx, .long po, .long de])), (mi, .inl (0, 4, .inl ir)), (mr, .inl (3, 16, .inr (.inl gr)))]) rfl ?_
        refine r_if_lt (tgt := 48) d_Mm_charge_34 (by decide) (fun c_34 => ?_) (fun c_34 => ?_)
        · exact absurd c_34 (by decide)
        · refine r_iload_n d_Mm_charge_37 rfl 3 rfl ?_
          refine r_iconst d_Mm_charge_38 (v := 1) (by decide) ?_
          refine r_sipush d_Mm_charge_39 (v := 1000) (by decide) ?_
          refine r_callS (As := [.int m1, .int 1, .int 1000]) (rest := [.ref m]) (csC := []) (is := []) ln_Mm_87 w_st_Mm_in ok_Mm_charge_Mm_in d_Mm_charge_42 (C_Mm_in g m1 1 1000) rfl rfl (Nat.le_of_ble_eq_true rfl) rfl (by decide) (by omega) (by omega) (fun E cs1 hx => ?_) (fun v cs1 hx => ?_)
          · exact absurd hx.1 (by simp)
          · obtain ⟨e1, rfl⟩ := hx
            rw [if_pos hw] at e1
            cases e1
            refine ⟨rfl, ?_⟩
            refine r_st (st2 := [.int 1, .ref m]) rfl ?_
            refine r_cs (cs2 := [(m, .inr (12, [.int 0, .ref mp, .int pt, .ref mf, .ref mh, .ref mn, .ref mt, .ref mz, .ref mc_, .ref mq, .ref mgr, .int cl, .int wa, .int co_, .int fi, .int bu, .int ho, .ref ml, .ref mi, .ref mr, .int lh, .int mg, .int wd, .int fpi, .int fal, .ref mm, .ref mu, .ref mk, .ref mx, .long po, .long de])), (mi, .inl (0, 4, .inl ir)), (mr, .inl (3, 16, .inr (.inl gr)))]) rfl ?_
            refine r_if_ne (tgt := 52) d_Mm_charge_45 (by decide) (fun c_45 => ?_) (fun c_45 => ?_)
            · refine r_iconst d_Mm_charge_52 (v := 0) (by decide) ?_
              refine r_iconst d_Mm_charge_53 (v := 1) (by decide) ?_
              refine r_callV (As := [.int 0, .int 1]) (rest := []) (csC := [(m, .inr (12, [.int 0, .ref mp, .int pt, .ref mf, .ref mh, .ref mn, .ref mt, .ref mz, .ref mc_, .ref mq, .ref mgr, .int cl, .int wa, .int co_, .int fi, .int bu, .int ho, .ref ml, .ref mi, .ref mr, .int lh, .int mg, .int wd, .int fpi, .int fal, .ref mm, .ref mu, .ref mk, .ref mx, .long po, .long de]))]) (is := [0]) (q0 := 0) rfl rfl ln_Mm_103 w_im_Mm_fails w_se_Mm_fails ok_Mm_charge_Mm_fails d_Mm_charge_54 (C_Mm_fails0 g m mp mf mh mn mt mz mc_ mq mgr ml mi mr mm mu mk mx th pt cl wa co_ fi bu ho lh mg wd fpi fal po de 1) rfl rfl (Nat.le_of_ble_eq_true rfl) rfl (by decide) (by omega) (by omega) (fun E cs1 hx => ?_) (fun v cs1 hx => ?_)
              · exact absurd hx.1 (by simp)
              · obtain ⟨e1, rfl⟩ := hx
                cases e1
                refine ⟨rfl, ?_⟩
                refine r_st (st2 := [.int 0]) rfl ?_
                refine r_cs (cs2 := [(m, .inr (12, [.int 0, .ref mp, .int pt, .ref mf, .ref mh, .ref mn, .ref mt, .ref mz, .ref mc_, .ref mq, .ref mgr, .int cl, .int wa, .int co_, .int fi, .int bu, .int ho, .ref ml, .ref mi, .ref mr, .int lh, .int mg, .int wd, .int fpi, .int fal, .ref mm, .ref mu, .ref mk, .ref mx, .long po, .long de])), (mi, .inl (0, 4, .inl ir)), (mr, .inl (3, 16, .inr (.inl gr)))]) rfl ?_
                refine r_if_ne (tgt := 88) d_Mm_charge_57 (by decide) (fun c_57 => ?_) (fun c_57 => ?_)
                · exact absurd c_57 (by decide)
                · refine r_aload_n d_Mm_charge_60 rfl 1 rfl ?_
                  refine r_iload_n d_Mm_charge_61 rfl 0 rfl ?_
                  refine r_iconst d_Mm_charge_62 (v := (-1)) (by decide) ?_
                  refine r_icmp_eq (tgt := 80) d_Mm_charge_63 (by decide) (fun c_63 => ?_) (fun c_63 => ?_)
                  · refine r_iconst d_Mm_charge_80 (v := 0) (by decide) ?_
                    refine r_iconst d_Mm_charge_81 (v := 2) (by decide) ?_
                    refine r_callV (As := [.int 0, .int 2]) (rest := []) (csC := [(m, .inr (12, [.int 0, .ref mp, .int pt, .ref mf, .ref mh, .ref mn, .ref mt, .ref mz, .ref mc_, .ref mq, .ref mgr, .int cl, .int wa, .int co_, .int fi, .int bu, .int ho, .ref ml, .ref mi, .ref mr, .int lh, .int mg, .int wd, .int fpi, .int fal, .ref mm, .ref mu, .ref mk, .ref mx, .long po, .long de]))]) (is := [0]) (q0 := 0) rfl rfl ln_Mm_103 w_im_Mm_fails w_se_Mm_fails ok_Mm_charge_Mm_fails d_Mm_charge_82 (C_Mm_fails0 g m mp mf mh mn mt mz mc_ mq mgr ml mi mr mm mu mk mx th pt cl wa co_ fi bu ho lh mg wd fpi fal po de 2) rfl rfl (Nat.le_of_ble_eq_true rfl) rfl (by decide) (by omega) (by omega) (fun E cs1 hx => ?_) (fun v cs1 hx => ?_)
                    · exact absurd hx.1 (by simp)
                    · obtain ⟨e1, rfl⟩ := hx
                      cases e1
                      refine ⟨rfl, ?_⟩
                      refine r_st (st2 := [.int 0]) rfl ?_
                      refine r_cs (cs2 := [(m, .inr (12, [.int 0, .ref mp, .int pt, .ref mf, .ref mh, .ref mn, .ref mt, .ref mz, .ref mc_, .ref mq, .ref mgr, .int cl, .int wa, .int co_, .int fi, .int bu, .int ho, .ref ml, .ref mi, .ref mr, .int lh, .int mg, .int wd, .int fpi, .int fal, .ref mm, .ref mu, .ref mk, .ref mx, .long po, .long de])), (mi, .inl (0, 4, .inl ir)), (mr, .inl (3, 16, .inr (.inl gr)))]) rfl ?_
                      refine r_if_eq (tgt := 90) d_Mm_charge_85 (by decide) (fun c_85 => ?_) (fun c_85 => ?_)
                      · refine r_aload_n d_Mm_charge_90 rfl 1 rfl ?_
                        refine r_iload_n d_Mm_charge_91 rfl 2 rfl ?_
                        refine r_bipush d_Mm_charge_92 (v := 107) (by decide) ?_
                        refine r_icmp_eq (tgt := 115) d_Mm_charge_94 (by decide) (fun c_94 => ?_) (fun c_94 => ?_)
                        · refine r_iconst d_Mm_charge_115 (v := 0) (by decide) ?_
                          refine r_iconst d_Mm_charge_116 (v := 3) (by decide) ?_
                          refine r_callV (As := [.int 0, .int 3]) (rest := []) (csC := [(m, .inr (12, [.int 0, .ref mp, .int pt, .ref mf, .ref mh, .ref mn, .ref mt, .ref mz, .ref mc_, .ref mq, .ref mgr, .int cl, .int wa, .int co_, .int fi, .int bu, .int ho, .ref ml, .ref mi, .ref mr, .int lh, .int mg, .int wd, .int fpi, .int fal, .ref mm, .ref mu, .ref mk, .ref mx, .long po, .long de]))]) (is := [0]) (q0 := 0) rfl rfl ln_Mm_103 w_im_Mm_fails w_se_Mm_fails ok_Mm_charge_Mm_fails d_Mm_charge_117 (C_Mm_fails0 g m mp mf mh mn mt mz mc_ mq mgr ml mi mr mm mu mk mx th pt cl wa co_ fi bu ho lh mg wd fpi fal po de 3) rfl rfl (Nat.le_of_ble_eq_true rfl) rfl (by decide) (by omega) (by omega) (fun E cs1 hx => ?_) (fun v cs1 hx => ?_)
                          · exact absurd hx.1 (by simp)
                          · obtain ⟨e1, rfl⟩ := hx
                            cases e1
                            refine ⟨rfl, ?_⟩
                            refine r_st (st2 := [.int 0]) rfl ?_
                            refine r_cs (cs2 := [(m, .inr (12, [.int 0, .ref mp, .int pt, .ref mf, .ref mh, .ref mn, .ref mt, .ref mz, .ref mc_, .ref mq, .ref mgr, .int cl, .int wa, .int co_, .int fi, .int bu, .int ho, .ref ml, .ref mi, .ref mr, .int lh, .int mg, .int wd, .int fpi, .int fal, .ref mm, .ref mu, .ref mk, .ref mx, .long po, .long de])), (mi, .inl (0, 4, .inl ir)), (mr, .inl (3, 16, .inr (.inl gr)))]) rfl ?_
                            refine r_if_eq (tgt := 125) d_Mm_charge_120 (by decide) (fun c_120 => ?_) (fun c_120 => ?_)
                            · refine r_iload_n d_Mm_charge_125 rfl 0 rfl ?_
                              refine r_iconst d_Mm_charge_126 (v := (-1)) (by decide) ?_
                              refine r_icmp_eq (tgt := 140) d_Mm_charge_127 (by decide) (fun c_127 => ?_) (fun c_127 => ?_)
                              · refine r_iconst d_Mm_charge_140 (v := 0) (by decide) ?_
                                refine r_istore (lv' := [(4, .int 0), (3, .int (-1)), (0, .ref m), (1, .int 107), (2, .int m1)]) d_Mm_charge_141 (by decide) rfl ?_
                                refine r_lv (lv' := [(4, .int 0), (2, .int m1), (1, .int 107), (0, .ref m)]) [0, 4, 3, 2] rfl ?_
                                refine r_lvE (lv2 := [(4, .int (nI 0)), (2, .int m1), (1, .int 107), (0, .ref m)]) (rfl) ?_
                                refine r_cs (cs2 := [(m, .inr (12, [.int 0, .ref mp, .int pt, .ref mf, .ref mh, .ref mn, .ref mt, .ref mz, .ref mc_, .ref mq, .ref mgr, .int cl, .int wa, .int co_, .int fi, .int bu, .int ho, .ref ml, .ref mi, .ref mr, .int lh, .int mg, .int wd, .int fpi, .int fal, .ref mm, .ref mu, .ref mk, .ref mx, .long po, .long de])), (mi, .inl (0, 4, .inl ir)), (mr, .inl (3, 16, .inr (.inl (lfd gr (fun e => chS m1 3 e / 10) 0))))]) (rfl) ?_
                                exact L_Mm_charge107N_143 g m mp mf mh mn mt mz mc_ mq mgr ml mi mr mm mu mk mx th pt cl wa co_ fi bu ho lh mg wd fpi fal po de ir gr m1 hw w0 _  (4 + 1) 0 (Nat.zero_le _) (by omega)
                              · exact absurd c_127 (by decide)
                            · exact absurd c_120 (by decide)
                        · exact absurd c_94 (by decide)
                      · exact absurd c_85 (by decide)
                  · exact absurd c_63 (by decide)
            · exact absurd c_45 (by decide)
    · exact absurd c_18 (by decide)
  · exact absurd c_8 (by decide)
abbrev M_Mm_furnace : zM := (⟨"IronpourModel", "furnace", "(C)I"⟩, prog_14_method_60_code, 2, (Option.some FieldType.int), 9, 199, [])
theorem d_Mm_furnace_0 : decode prog_14_method_60_code 0 = .ok (.aload_n 0, 1) := zo_42 (zd_b zq_prog_14_method_60_code_0 0 rfl rfl rfl)
theorem d_Mm_furnace_1 : decode prog_14_method_60_code 1 = .ok (.iconst 0, 1) := zo_3 (zd_b zq_prog_14_method_60_code_0 1 rfl rfl rfl)
theorem d_Mm_furnace_2 : decode prog_14_method_60_code 2 = .ok (.putfield 84, 3) := zo_181 (d := 0) (e := 84) (zd_b zq_prog_14_method_60_code_0 2 rfl rfl rfl) (zd_b zq_prog_14_method_60_code_0 3 rfl rfl rfl) (zd_b zq_prog_14_method_60_code_0 4 rfl rfl rfl)
theorem d_Mm_furnace_5 : decode prog_14_method_60_code 5 = .ok (.aload_n 0, 1) := zo_42 (zd_b zq_prog_14_method_60_code_0 5 rfl rfl rfl)
theorem d_Mm_furnace_6 : decode prog_14_method_60_code 6 = .ok (.iload_n 1, 1) := zo_27 (zd_b zq_prog_14_method_60_code_0 6 rfl rfl rfl)
theorem d_Mm_furnace_7 : decode prog_14_method_60_code 7 = .ok (.invokestatic 246, 3) := zo_184 (d := 0) (e := 246) (zd_b zq_prog_14_method_60_code_0 7 rfl rfl rfl) (zd_b zq_prog_14_method_60_code_0 8 rfl rfl rfl) (zd_b zq_prog_14_method_60_code_0 9 rfl rfl rfl)
theorem ok_Mm_furnace_Mm_element : z_ok M_Mm_furnace M_Mm_element 1 := ⟨z_mj8 (i := 164) rfl (by decide +kernel), rfl, ⟨by decide +kernel, by decide +kernel, by decide +kernel⟩, ⟨by decide, by decide⟩, z_mj1 (i := 14) rfl (by decide +kernel), rfl⟩
theorem ln_Mm_246 : Cond.methodLink "IronpourModel" 246 M_Mm_element.1 ∈ z_gw := z_mj8 (i := 162) rfl (by decide +kernel)
theorem w_st_Mm_element : Cond.static M_Mm_element.1 ∈ z_gw := z_mj8 (i := 163) rfl (by decide +kernel)
theorem d_Mm_furnace_10 : decode prog_14_method_60_code 10 = .ok (.ifCond .ge 7, 3) := zo_156 (d := 0) (e := 7) (zd_b zq_prog_14_method_60_code_0 10 rfl rfl rfl) (zd_b zq_prog_14_method_60_code_0 11 rfl rfl rfl) (zd_b zq_prog_14_method_60_code_0 12 rfl rfl rfl) (by decide +kernel)
theorem d_Mm_furnace_13 : decode prog_14_method_60_code 13 = .ok (.iconst 1, 1) := zo_4 (zd_b zq_prog_14_method_60_code_0 13 rfl rfl rfl)
theorem d_Mm_furnace_14 : decode prog_14_method_60_code 14 = .ok (.goto 4, 3) := zo_167 (d := 0) (e := 4) (zd_b zq_prog_14_method_60_code_0 14 rfl rfl rfl) (zd_b zq_prog_14_method_60_code_0 15 rfl rfl rfl) (zd_b zq_prog_14_method_60_code_0 16 rfl rfl rfl) (by decide +kernel)
theorem d_Mm_furnace_18 : decode prog_14_method_60_code 18 = .ok (.iconst 1, 1) := zo_4 (zd_b zq_prog_14_method_60_code_0 18 rfl rfl rfl)
theorem d_Mm_furnace_19 : decode prog_14_method_60_code 19 = .ok (.invokevirtual 103, 3) := zo_182 (d := 0) (e := 103) (zd_b zq_prog_14_method_60_code_0 19 rfl rfl rfl) (zd_b zq_prog_14_method_60_code_0 20 rfl rfl rfl) (zd_b zq_prog_14_method_60_code_0 21 rfl rfl rfl)
theorem ok_Mm_furnace_Mm_fails : z_ok M_Mm_furnace M_Mm_fails 2 := ⟨z_mj7 (i := 196) rfl (by decide +kernel), rfl, ⟨by decide +kernel, by decide +kernel, by decide +kernel⟩, ⟨by decide, by decide⟩, z_mj1 (i := 14) rfl (by decide +kernel), rfl⟩
theorem d_Mm_furnace_22 : decode prog_14_method_60_code 22 = .ok (.ifCond .ne 25, 3) := zo_154 (d := 0) (e := 25) (zd_b zq_prog_14_method_60_code_0 22 rfl rfl rfl) (zd_b zq_prog_14_method_60_code_0 23 rfl rfl rfl) (zd_b zq_prog_14_method_60_code_0 24 rfl rfl rfl) (by decide +kernel)
theorem d_Mm_furnace_47 : decode prog_14_method_60_code 47 = .ok (.iconst 0, 1) := zo_3 (zd_b zq_prog_14_method_60_code_1 15 rfl rfl rfl)
theorem d_Mm_furnace_48 : decode prog_14_method_60_code 48 = .ok (.goto 12, 3) := zo_167 (d := 0) (e := 12) (zd_b zq_prog_14_method_60_code_1 16 rfl rfl rfl) (zd_b zq_prog_14_method_60_code_1 17 rfl rfl rfl) (zd_b zq_prog_14_method_60_code_1 18 rfl rfl rfl) (by decide +kernel)
theorem d_Mm_furnace_60 : decode prog_14_method_60_code 60 = .ok (.ireturn, 1) := zo_172 (zd_b zq_prog_14_method_60_code_1 28 rfl rfl rfl)
set_option maxHeartbeats 4000000 in
set_option maxRecDepth 100000 in
theorem C_Mm_furnaceE (g : zG) (m mp mf mh mn mt mz mc_ mq mgr ml mi mr mm mu mk mx : Nat) (th pt cl wa co_ fi bu ho lh mg wd fpi fal : Int32) (po de : Int64) (k : Int32) (hk : z_ix 2 k < 0) : CT g M_Mm_furnace [.ref m, .int k] [(m, .inr (12, [.int th, .ref mp, .int pt, .ref mf, .ref mh, .ref mn, .ref mt, .ref mz, .ref mc_, .ref mq, .ref mgr, .int cl, .int wa, .int co_, .int fi, .int bu, .int ho, .ref ml, .ref mi, .ref mr, .int lh, .int mg, .int wd, .int fpi, .int fal, .ref mm, .ref mu, .ref mk, .ref mx, .long po, .long de]))] (fun o cs1 => o = .inl (some (.int 0)) ∧ cs1 = [(m, .inr (12, [.int 1, .ref mp, .int pt, .ref mf, .ref mh, .ref mn, .ref mt, .ref mz, .ref mc_, .ref mq, .ref mgr, .int cl, .int wa, .int co_, .int fi, .int bu, .int ho, .ref ml, .ref mi, .ref mr, .int lh, .int mg, .int wd, .int fpi, .int fal, .ref mm, .ref mu, .ref mk, .ref mx, .long po, .long de]))]) 0 0 := by
  refine z_of (by decide) rfl (Nat.le_of_ble_eq_true rfl) (fun w0 => ?_)
  refine r_lvE (lv2 := [(0, .ref m), (1, .int k)]) rfl ?_
  refine r_aload_n d_Mm_furnace_0 rfl 0 rfl ?_
  refine r_iconst d_Mm_furnace_1 (v := 0) (by decide) ?_
  refine r_put fp_Mm_84 d_Mm_furnace_2 (fun h => nomatch h) rfl rfl (q0 := 0) rfl (Nat.le_of_ble_eq_true rfl) (cs' := [(m, .inr (12, [.int 0, .ref mp, .int pt, .ref mf, .ref mh, .ref mn, .ref mt, .ref mz, .ref mc_, .ref mq, .ref mgr, .int cl, .int wa, .int co_, .int fi, .int bu, .int ho, .ref ml, .ref mi, .ref mr, .int lh, .int mg, .int wd, .int fpi, .int fal, .ref mm, .ref mu, .ref mk, .ref mx, .long po, .long de]))]) rfl ?_
  refine r_aload_n d_Mm_furnace_5 rfl 0 rfl ?_
  refine r_iload_n d_Mm_furnace_6 rfl 1 rfl ?_
  refine r_callS (As := [.int k]) (rest := [.ref m]) (csC := []) (is := []) ln_Mm_246 w_st_Mm_element ok_Mm_furnace_Mm_element d_Mm_furnace_7 (C_Mm_element g k) rfl rfl (Nat.le_of_ble_eq_true rfl) rfl (by decide) (by omega) (by omega) (fun E cs1 hx => ?_) (fun v cs1 hx => ?_)
  · exact absurd hx.1 (by simp)
  · obtain ⟨e1, rfl⟩ := hx
    cases e1
    refine ⟨rfl, ?_⟩
    refine r_st (st2 := [.int (z_ix 2 k), .ref m]) rfl ?_
    refine r_cs (cs2 := [(m, .inr (12, [.int 0, .ref mp, .int pt, .ref mf, .ref mh, .ref mn, .ref mt, .ref mz, .ref mc_, .ref mq, .ref mgr, .int cl, .int wa, .int co_, .int fi, .int bu, .int ho, .ref ml, .ref mi, .ref mr, .int lh, .int mg, .int wd, .int fpi, .int fal, .ref mm, .ref mu, .ref mk, .ref mx, .long po, .long de]))]) rfl ?_
    refine r_if_ge (tgt := 17) d_Mm_furnace_10 (by decide) (fun c_10 => ?_) (fun c_10 => ?_)
    · exact absurd hk (Int32.not_lt.mpr c_10)
    · refine r_iconst d_Mm_furnace_13 (v := 1) (by decide) ?_
      refine r_goto (tgt := 18) d_Mm_furnace_14 (by decide) ?_
      refine r_iconst d_Mm_furnace_18 (v := 1) (by decide) ?_
      refine r_callV (As := [.int 1, .int 1]) (rest := []) (csC := [(m, .inr (12, [.int 0, .ref mp, .int pt, .ref mf, .ref mh, .ref mn, .ref mt, .ref mz, .ref mc_, .ref mq, .ref mgr, .int cl, .int wa, .int co_, .int fi, .int bu, .int ho, .ref ml, .ref mi, .ref mr, .int lh, .int mg, .int wd, .int fpi, .int fal, .ref mm, .ref mu, .ref mk, .ref mx, .long po, .long de]))]) (is := [0]) (q0 := 0) rfl rfl ln_Mm_103 w_im_Mm_fails w_se_Mm_fails ok_Mm_furnace_Mm_fails d_Mm_furnace_19 (C_Mm_fails1 g m mp mf mh mn mt mz mc_ mq mgr ml mi mr mm mu mk mx th pt cl wa co_ fi bu ho lh mg wd fpi fal po de) rfl rfl (Nat.le_of_ble_eq_true rfl) rfl (by decide) (by omega) (by omega) (fun E cs1 hx => ?_) (fun v cs1 hx => ?_)
      · exact absurd hx.1 (by simp)
      · obtain ⟨e1, rfl⟩ := hx
        cases e1
        refine ⟨rfl, ?_⟩
        refine r_st (st2 := [.int 1]) rfl ?_
        refine r_cs (cs2 := [(m, .inr (12, [.int 1, .ref mp, .int pt, .ref mf, .ref mh, .ref mn, .ref mt, .ref mz, .ref mc_, .ref mq, .ref mgr, .int cl, .int wa, .int co_, .int fi, .int bu, .int ho, .ref ml, .ref mi, .ref mr, .int lh, .int mg, .int wd, .int fpi, .int fal, .ref mm, .ref mu, .ref mk, .ref mx, .long po, .long de]))]) rfl ?_
        refine r_if_ne (tgt := 47) d_Mm_furnace_22 (by decide) (fun c_22 => ?_) (fun c_22 => ?_)
        · refine r_iconst d_Mm_furnace_47 (v := 0) (by decide) ?_
          refine r_goto (tgt := 60) d_Mm_furnace_48 (by decide) ?_
          refine r_iret d_Mm_furnace_60 rfl rfl ?_
          exact ⟨rfl, rfl⟩
        · exact absurd c_22 (by decide)
theorem d_Mm_furnace_17 : decode prog_14_method_60_code 17 = .ok (.iconst 0, 1) := zo_3 (zd_b zq_prog_14_method_60_code_0 17 rfl rfl rfl)
theorem d_Mm_furnace_25 : decode prog_14_method_60_code 25 = .ok (.aload_n 0, 1) := zo_42 (zd_b zq_prog_14_method_60_code_0 25 rfl rfl rfl)
theorem d_Mm_furnace_26 : decode prog_14_method_60_code 26 = .ok (.aload_n 0, 1) := zo_42 (zd_b zq_prog_14_method_60_code_0 26 rfl rfl rfl)
theorem d_Mm_furnace_27 : decode prog_14_method_60_code 27 = .ok (.getfield 62, 3) := zo_180 (d := 0) (e := 62) (zd_b zq_prog_14_method_60_code_0 27 rfl rfl rfl) (zd_b zq_prog_14_method_60_code_0 28 rfl rfl rfl) (zd_b zq_prog_14_method_60_code_0 29 rfl rfl rfl)
theorem d_Mm_furnace_30 : decode prog_14_method_60_code 30 = .ok (.iconst 0, 1) := zo_3 (zd_b zq_prog_14_method_60_code_0 30 rfl rfl rfl)
theorem d_Mm_furnace_31 : decode prog_14_method_60_code 31 = .ok (.iaload, 1) := zo_46 (zd_b zq_prog_14_method_60_code_0 31 rfl rfl rfl)
theorem d_Mm_furnace_32 : decode prog_14_method_60_code 32 = .ok (.ifCond .ne 7, 3) := zo_154 (d := 0) (e := 7) (zd_b zq_prog_14_method_60_code_1 0 rfl rfl rfl) (zd_b zq_prog_14_method_60_code_1 1 rfl rfl rfl) (zd_b zq_prog_14_method_60_code_1 2 rfl rfl rfl) (by decide +kernel)
theorem d_Mm_furnace_35 : decode prog_14_method_60_code 35 = .ok (.iconst 1, 1) := zo_4 (zd_b zq_prog_14_method_60_code_1 3 rfl rfl rfl)
theorem d_Mm_furnace_36 : decode prog_14_method_60_code 36 = .ok (.goto 4, 3) := zo_167 (d := 0) (e := 4) (zd_b zq_prog_14_method_60_code_1 4 rfl rfl rfl) (zd_b zq_prog_14_method_60_code_1 5 rfl rfl rfl) (zd_b zq_prog_14_method_60_code_1 6 rfl rfl rfl) (by decide +kernel)
theorem d_Mm_furnace_40 : decode prog_14_method_60_code 40 = .ok (.iconst 2, 1) := zo_5 (zd_b zq_prog_14_method_60_code_1 8 rfl rfl rfl)
theorem d_Mm_furnace_41 : decode prog_14_method_60_code 41 = .ok (.invokevirtual 103, 3) := zo_182 (d := 0) (e := 103) (zd_b zq_prog_14_method_60_code_1 9 rfl rfl rfl) (zd_b zq_prog_14_method_60_code_1 10 rfl rfl rfl) (zd_b zq_prog_14_method_60_code_1 11 rfl rfl rfl)
theorem d_Mm_furnace_44 : decode prog_14_method_60_code 44 = .ok (.ifCond .eq 7, 3) := zo_153 (d := 0) (e := 7) (zd_b zq_prog_14_method_60_code_1 12 rfl rfl rfl) (zd_b zq_prog_14_method_60_code_1 13 rfl rfl rfl) (zd_b zq_prog_14_method_60_code_1 14 rfl rfl rfl) (by decide +kernel)
