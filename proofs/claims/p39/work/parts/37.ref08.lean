set_option maxHeartbeats 4000000 in
set_option maxRecDepth 100000 in
theorem C_Mm_furnaceF (g : zG) (m mp mf mh mn mt mz mc_ mq mgr ml mi mr mm mu mk mx : Nat) (th pt cl wa co_ fi bu ho lh mg wd fpi fal : Int32) (po de : Int64) (ir : Nat → Int32) (k : Int32) (hk : ¬ z_ix 2 k < 0) (h0 : ir 0 = 0) : CT g M_Mm_furnace [.ref m, .int k] [(m, .inr (12, [.int th, .ref mp, .int pt, .ref mf, .ref mh, .ref mn, .ref mt, .ref mz, .ref mc_, .ref mq, .ref mgr, .int cl, .int wa, .int co_, .int fi, .int bu, .int ho, .ref ml, .ref mi, .ref mr, .int lh, .int mg, .int wd, .int fpi, .int fal, .ref mm, .ref mu, .ref mk, .ref mx, .long po, .long de])), (mi, .inl (0, 4, .inl ir))] (fun o cs1 => o = .inl (some (.int 0)) ∧ cs1 = [(m, .inr (12, [.int 2, .ref mp, .int pt, .ref mf, .ref mh, .ref mn, .ref mt, .ref mz, .ref mc_, .ref mq, .ref mgr, .int cl, .int wa, .int co_, .int fi, .int bu, .int ho, .ref ml, .ref mi, .ref mr, .int lh, .int mg, .int wd, .int fpi, .int fal, .ref mm, .ref mu, .ref mk, .ref mx, .long po, .long de])), (mi, .inl (0, 4, .inl ir))]) 0 0 := by
  refine z_of (by decide) rfl (Nat.le_of_ble_eq_true rfl) (fun w0 => ?_)
  refine r_lvE (lv2 := [(0, .ref m), (1, .int k)]) rfl ?_
  refine r_aload_n d_Mm_furnace_0 rfl 0 rfl ?_
  refine r_iconst d_Mm_furnace_1 (v := 0) (by decide) ?_
  refine r_put fp_Mm_84 d_Mm_furnace_2 (fun h => nomatch h) rfl rfl (q0 := 0) rfl (Nat.le_of_ble_eq_true rfl) (cs' := [(m, .inr (12, [.int 0, .ref mp, .int pt, .ref mf, .ref mh, .ref mn, .ref mt, .ref mz, .ref mc_, .ref mq, .ref mgr, .int cl, .int wa, .int co_, .int fi, .int bu, .int ho, .ref ml, .ref mi, .ref mr, .int lh, .int mg, .int wd, .int fpi, .int fal, .ref mm, .ref mu, .ref mk, .ref mx, .long po, .long de])), (mi, .inl (0, 4, .inl ir))]) rfl ?_
  refine r_aload_n d_Mm_furnace_5 rfl 0 rfl ?_
  refine r_iload_n d_Mm_furnace_6 rfl 1 rfl ?_
  refine r_callS (As := [.int k]) (rest := [.ref m]) (csC := []) (is := []) ln_Mm_246 w_st_Mm_element ok_Mm_furnace_Mm_element d_Mm_furnace_7 (C_Mm_element g k) rfl rfl (Nat.le_of_ble_eq_true rfl) rfl (by decide) (by omega) (by omega) (fun E cs1 hx => ?_) (fun v cs1 hx => ?_)
  · exact absurd hx.1 (by simp)
  · obtain ⟨e1, rfl⟩ := hx
    cases e1
    refine ⟨rfl, ?_⟩
    refine r_st (st2 := [.int (z_ix 2 k), .ref m]) rfl ?_
    refine r_cs (cs2 := [(m, .inr (12, [.int 0, .ref mp, .int pt, .ref mf, .ref mh, .ref mn, .ref mt, .ref mz, .ref mc_, .ref mq, .ref mgr, .int cl, .int wa, .int co_, .int fi, .int bu, .int ho, .ref ml, .ref mi, .ref mr, .int lh, .int mg, .int wd, .int fpi, .int fal, .ref mm, .ref mu, .ref mk, .ref mx, .long po, .long de])), (mi, .inl (0, 4, .inl ir))]) rfl ?_
    refine r_if_ge (tgt := 17) d_Mm_furnace_10 (by decide) (fun c_10 => ?_) (fun c_10 => ?_)
    · refine r_iconst d_Mm_furnace_17 (v := 0) (by decide) ?_
      refine r_iconst d_Mm_furnace_18 (v := 1) (by decide) ?_
      refine r_callV (As := [.int 0, .int 1]) (rest := []) (csC := [(m, .inr (12, [.int 0, .ref mp, .int pt, .ref mf, .ref mh, .ref mn, .ref mt, .ref mz, .ref mc_, .ref mq, .ref mgr, .int cl, .int wa, .int co_, .int fi, .int bu, .int ho, .ref ml, .ref mi, .ref mr, .int lh, .int mg, .int wd, .int fpi, .int fal, .ref mm, .ref mu, .ref mk, .ref mx, .long po, .long de]))]) (is := [0]) (q0 := 0) rfl rfl ln_Mm_103 w_im_Mm_fails w_se_Mm_fails ok_Mm_furnace_Mm_fails d_Mm_furnace_19 (C_Mm_fails0 g m mp mf mh mn mt mz mc_ mq mgr ml mi mr mm mu mk mx th pt cl wa co_ fi bu ho lh mg wd fpi fal po de 1) rfl rfl (Nat.le_of_ble_eq_true rfl) rfl (by decide) (by omega) (by omega) (fun E cs1 hx => ?_) (fun v cs1 hx => ?_)
      · exact absurd hx.1 (by simp)
      · obtain ⟨e1, rfl⟩ := hx
        cases e1
        refine ⟨rfl, ?_⟩
        refine r_st (st2 := [.int 0]) rfl ?_
        refine r_cs (cs2 := [(m, .inr (12, [.int 0, .ref mp, .int pt, .ref mf, .ref mh, .ref mn, .ref mt, .ref mz, .ref mc_, .ref mq, .ref mgr, .int cl, .int wa, .int co_, .int fi, .int bu, .int ho, .ref ml, .ref mi, .ref mr, .int lh, .int mg, .int wd, .int fpi, .int fal, .ref mm, .ref mu, .ref mk, .ref mx, .long po, .long de])), (mi, .inl (0, 4, .inl ir))]) rfl ?_
        refine r_if_ne (tgt := 47) d_Mm_furnace_22 (by decide) (fun c_22 => ?_) (fun c_22 => ?_)
        · exact absurd c_22 (by decide)
        · refine r_aload_n d_Mm_furnace_25 rfl 0 rfl ?_
          refine r_aload_n d_Mm_furnace_26 rfl 0 rfl ?_
          refine r_get fs_Mm_62 d_Mm_furnace_27 (q0 := 0) rfl rfl ?_
          refine r_iconst d_Mm_furnace_30 (v := 0) (by decide) ?_
          refine r_iald d_Mm_furnace_31 (q0 := 1) rfl (fun q => q.elim (by decide) (by decide)) (v := ir 0) rfl ?_
          refine r_if_ne (tgt := 39) d_Mm_furnace_32 (by decide) (fun c_32 => ?_) (fun c_32 => ?_)
          · exact absurd h0 c_32
          · refine r_iconst d_Mm_furnace_35 (v := 1) (by decide) ?_
            refine r_goto (tgt := 40) d_Mm_furnace_36 (by decide) ?_
            refine r_iconst d_Mm_furnace_40 (v := 2) (by decide) ?_
            refine r_callV (As := [.int 1, .int 2]) (rest := []) (csC := [(m, .inr (12, [.int 0, .ref mp, .int pt, .ref mf, .ref mh, .ref mn, .ref mt, .ref mz, .ref mc_, .ref mq, .ref mgr, .int cl, .int wa, .int co_, .int fi, .int bu, .int ho, .ref ml, .ref mi, .ref mr, .int lh, .int mg, .int wd, .int fpi, .int fal, .ref mm, .ref mu, .ref mk, .ref mx, .long po, .long de]))]) (is := [0]) (q0 := 0) rfl rfl ln_Mm_103 w_im_Mm_fails w_se_Mm_fails ok_Mm_furnace_Mm_fails d_Mm_furnace_41 (C_Mm_fails2 g m mp mf mh mn mt mz mc_ mq mgr ml mi mr mm mu mk mx th pt cl wa co_ fi bu ho lh mg wd fpi fal po de) rfl rfl (Nat.le_of_ble_eq_true rfl) rfl (by decide) (by omega) (by omega) (fun E cs1 hx => ?_) (fun v cs1 hx => ?_)
            · exact absurd hx.1 (by simp)
            · obtain ⟨e1, rfl⟩ := hx
              cases e1
              refine ⟨rfl, ?_⟩
              refine r_st (st2 := [.int 1]) rfl ?_
              refine r_cs (cs2 := [(m, .inr (12, [.int 2, .ref mp, .int pt, .ref mf, .ref mh, .ref mn, .ref mt, .ref mz, .ref mc_, .ref mq, .ref mgr, .int cl, .int wa, .int co_, .int fi, .int bu, .int ho, .ref ml, .ref mi, .ref mr, .int lh, .int mg, .int wd, .int fpi, .int fal, .ref mm, .ref mu, .ref mk, .ref mx, .long po, .long de])), (mi, .inl (0, 4, .inl ir))]) rfl ?_
              refine r_if_eq (tgt := 51) d_Mm_furnace_44 (by decide) (fun c_44 => ?_) (fun c_44 => ?_)
              · exact absurd c_44 (by decide)
              · refine r_iconst d_Mm_furnace_47 (v := 0) (by decide) ?_
                refine r_goto (tgt := 60) d_Mm_furnace_48 (by decide) ?_
                refine r_iret d_Mm_furnace_60 rfl rfl ?_
                exact ⟨rfl, rfl⟩
    · exact absurd (Int32.not_le.mp c_10) hk
abbrev M_Mm_pool : zM := (⟨"IronpourModel", "pool", "(C)I"⟩, prog_14_method_68_code, 2, (Option.some FieldType.int), 2, 42, [])
theorem d_Mm_pool_0 : decode prog_14_method_68_code 0 = .ok (.aload_n 0, 1) := zo_42 (zd_b zq_prog_14_method_68_code_0 0 rfl rfl rfl)
theorem d_Mm_pool_1 : decode prog_14_method_68_code 1 = .ok (.iconst 0, 1) := zo_3 (zd_b zq_prog_14_method_68_code_0 1 rfl rfl rfl)
theorem d_Mm_pool_2 : decode prog_14_method_68_code 2 = .ok (.putfield 84, 3) := zo_181 (d := 0) (e := 84) (zd_b zq_prog_14_method_68_code_0 2 rfl rfl rfl) (zd_b zq_prog_14_method_68_code_0 3 rfl rfl rfl) (zd_b zq_prog_14_method_68_code_0 4 rfl rfl rfl)
theorem d_Mm_pool_5 : decode prog_14_method_68_code 5 = .ok (.aload_n 0, 1) := zo_42 (zd_b zq_prog_14_method_68_code_0 5 rfl rfl rfl)
theorem d_Mm_pool_6 : decode prog_14_method_68_code 6 = .ok (.iload_n 1, 1) := zo_27 (zd_b zq_prog_14_method_68_code_0 6 rfl rfl rfl)
theorem d_Mm_pool_7 : decode prog_14_method_68_code 7 = .ok (.invokestatic 269, 3) := zo_184 (d := 1) (e := 13) (zd_b zq_prog_14_method_68_code_0 7 rfl rfl rfl) (zd_b zq_prog_14_method_68_code_0 8 rfl rfl rfl) (zd_b zq_prog_14_method_68_code_0 9 rfl rfl rfl)
theorem ok_Mm_pool_Mm_place : z_ok M_Mm_pool M_Mm_place 1 := ⟨z_mj8 (i := 203) rfl (by decide +kernel), rfl, ⟨by decide +kernel, by decide +kernel, by decide +kernel⟩, ⟨by decide, by decide⟩, z_mj1 (i := 14) rfl (by decide +kernel), rfl⟩
theorem ln_Mm_269 : Cond.methodLink "IronpourModel" 269 M_Mm_place.1 ∈ z_gw := z_mj8 (i := 201) rfl (by decide +kernel)
theorem w_st_Mm_place : Cond.static M_Mm_place.1 ∈ z_gw := z_mj8 (i := 202) rfl (by decide +kernel)
theorem d_Mm_pool_10 : decode prog_14_method_68_code 10 = .ok (.iconst (-1), 1) := zo_2 (zd_b zq_prog_14_method_68_code_0 10 rfl rfl rfl)
theorem d_Mm_pool_11 : decode prog_14_method_68_code 11 = .ok (.if_icmp .ne 7, 3) := zo_160 (d := 0) (e := 7) (zd_b zq_prog_14_method_68_code_0 11 rfl rfl rfl) (zd_b zq_prog_14_method_68_code_0 12 rfl rfl rfl) (zd_b zq_prog_14_method_68_code_0 13 rfl rfl rfl) (by decide +kernel)
theorem d_Mm_pool_14 : decode prog_14_method_68_code 14 = .ok (.iconst 1, 1) := zo_4 (zd_b zq_prog_14_method_68_code_0 14 rfl rfl rfl)
theorem d_Mm_pool_15 : decode prog_14_method_68_code 15 = .ok (.goto 4, 3) := zo_167 (d := 0) (e := 4) (zd_b zq_prog_14_method_68_code_0 15 rfl rfl rfl) (zd_b zq_prog_14_method_68_code_0 16 rfl rfl rfl) (zd_b zq_prog_14_method_68_code_0 17 rfl rfl rfl) (by decide +kernel)
theorem d_Mm_pool_19 : decode prog_14_method_68_code 19 = .ok (.iconst 1, 1) := zo_4 (zd_b zq_prog_14_method_68_code_0 19 rfl rfl rfl)
theorem d_Mm_pool_20 : decode prog_14_method_68_code 20 = .ok (.invokevirtual 103, 3) := zo_182 (d := 0) (e := 103) (zd_b zq_prog_14_method_68_code_0 20 rfl rfl rfl) (zd_b zq_prog_14_method_68_code_0 21 rfl rfl rfl) (zd_b zq_prog_14_method_68_code_0 22 rfl rfl rfl)
theorem ok_Mm_pool_Mm_fails : z_ok M_Mm_pool M_Mm_fails 2 := ⟨z_mj7 (i := 196) rfl (by decide +kernel), rfl, ⟨by decide +kernel, by decide +kernel, by decide +kernel⟩, ⟨by decide, by decide⟩, z_mj1 (i := 14) rfl (by decide +kernel), rfl⟩
theorem d_Mm_pool_23 : decode prog_14_method_68_code 23 = .ok (.ifCond .eq 7, 3) := zo_153 (d := 0) (e := 7) (zd_b zq_prog_14_method_68_code_0 23 rfl rfl rfl) (zd_b zq_prog_14_method_68_code_0 24 rfl rfl rfl) (zd_b zq_prog_14_method_68_code_0 25 rfl rfl rfl) (by decide +kernel)
theorem d_Mm_pool_26 : decode prog_14_method_68_code 26 = .ok (.iconst 0, 1) := zo_3 (zd_b zq_prog_14_method_68_code_0 26 rfl rfl rfl)
theorem d_Mm_pool_27 : decode prog_14_method_68_code 27 = .ok (.goto 12, 3) := zo_167 (d := 0) (e := 12) (zd_b zq_prog_14_method_68_code_0 27 rfl rfl rfl) (zd_b zq_prog_14_method_68_code_0 28 rfl rfl rfl) (zd_b zq_prog_14_method_68_code_0 29 rfl rfl rfl) (by decide +kernel)
theorem d_Mm_pool_39 : decode prog_14_method_68_code 39 = .ok (.ireturn, 1) := zo_172 (zd_b zq_prog_14_method_68_code_1 7 rfl rfl rfl)
set_option maxHeartbeats 4000000 in
set_option maxRecDepth 100000 in
theorem C_Mm_poolE (g : zG) (m mp mf mh mn mt mz mc_ mq mgr ml mi mr mm mu mk mx : Nat) (th pt cl wa co_ fi bu ho lh mg wd fpi fal : Int32) (po de : Int64) (k : Int32) (h1 : ¬ k = 103) (h2 : ¬ k = 100) : CT g M_Mm_pool [.ref m, .int k] [(m, .inr (12, [.int th, .ref mp, .int pt, .ref mf, .ref mh, .ref mn, .ref mt, .ref mz, .ref mc_, .ref mq, .ref mgr, .int cl, .int wa, .int co_, .int fi, .int bu, .int ho, .ref ml, .ref mi, .ref mr, .int lh, .int mg, .int wd, .int fpi, .int fal, .ref mm, .ref mu, .ref mk, .ref mx, .long po, .long de]))] (fun o cs1 => o = .inl (some (.int 0)) ∧ cs1 = [(m, .inr (12, [.int 1, .ref mp, .int pt, .ref mf, .ref mh, .ref mn, .ref mt, .ref mz, .ref mc_, .ref mq, .ref mgr, .int cl, .int wa, .int co_, .int fi, .int bu, .int ho, .ref ml, .ref mi, .ref mr, .int lh, .int mg, .int wd, .int fpi, .int fal, .ref mm, .ref mu, .ref mk, .ref mx, .long po, .long de]))]) 0 0 := by
  refine z_of (by decide) rfl (Nat.le_of_ble_eq_true rfl) (fun w0 => ?_)
  refine r_lvE (lv2 := [(0, .ref m), (1, .int k)]) rfl ?_
  refine r_aload_n d_Mm_pool_0 rfl 0 rfl ?_
  refine r_iconst d_Mm_pool_1 (v := 0) (by decide) ?_
  refine r_put fp_Mm_84 d_Mm_pool_2 (fun h => nomatch h) rfl rfl (q0 := 0) rfl (Nat.le_of_ble_eq_true rfl) (cs' := [(m, .inr (12, [.int 0, .ref mp, .int pt, .ref mf, .ref mh, .ref mn, .ref mt, .ref mz, .ref mc_, .ref mq, .ref mgr, .int cl, .int wa, .int co_, .int fi, .int bu, .int ho, .ref ml, .ref mi, .ref mr, .int lh, .int mg, .int wd, .int fpi, .int fal, .ref mm, .ref mu, .ref mk, .ref mx, .long po, .long de]))]) rfl ?_
  refine r_aload_n d_Mm_pool_5 rfl 0 rfl ?_
  refine r_iload_n d_Mm_pool_6 rfl 1 rfl ?_
  refine r_callS (As := [.int k]) (rest := [.ref m]) (csC := []) (is := []) ln_Mm_269 w_st_Mm_place ok_Mm_pool_Mm_place d_Mm_pool_7 (C_Mm_placeO g k h1 h2) rfl rfl (Nat.le_of_ble_eq_true rfl) rfl (by decide) (by omega) (by omega) (fun E cs1 hx => ?_) (fun v cs1 hx => ?_)
  · exact absurd hx.1 (by simp)
  · obtain ⟨e1, rfl⟩ := hx
    cases e1
    refine ⟨rfl, ?_⟩
    refine r_st (st2 := [.int (-1), .ref m]) rfl ?_
    refine r_cs (cs2 := [(m, .inr (12, [.int 0, .ref mp, .int pt, .ref mf, .ref mh, .ref mn, .ref mt, .ref mz, .ref mc_, .ref mq, .ref mgr, .int cl, .int wa, .int co_, .int fi, .int bu, .int ho, .ref ml, .ref mi, .ref mr, .int lh, .int mg, .int wd, .int fpi, .int fal, .ref mm, .ref mu, .ref mk, .ref mx, .long po, .long de]))]) rfl ?_
    refine r_iconst d_Mm_pool_10 (v := (-1)) (by decide) ?_
    refine r_icmp_ne (tgt := 18) d_Mm_pool_11 (by decide) (fun c_11 => ?_) (fun c_11 => ?_)
    · exact absurd c_11 (by decide)
    · refine r_iconst d_Mm_pool_14 (v := 1) (by decide) ?_
      refine r_goto (tgt := 19) d_Mm_pool_15 (by decide) ?_
      refine r_iconst d_Mm_pool_19 (v := 1) (by decide) ?_
      refine r_callV (As := [.int 1, .int 1]) (rest := []) (csC := [(m, .inr (12, [.int 0, .ref mp, .int pt, .ref mf, .ref mh, .ref mn, .ref mt, .ref mz, .ref mc_, .ref mq, .ref mgr, .int cl, .int wa, .int co_, .int fi, .int bu, .int ho, .ref ml, .ref mi, .ref mr, .int lh, .int mg, .int wd, .int fpi, .int fal, .ref mm, .ref mu, .ref mk, .ref mx, .long po, .long de]))]) (is := [0]) (q0 := 0) rfl rfl ln_Mm_103 w_im_Mm_fails w_se_Mm_fails ok_Mm_pool_Mm_fails d_Mm_pool_20 (C_Mm_fails1 g m mp mf mh mn mt mz mc_ mq mgr ml mi mr mm mu mk mx th pt cl wa co_ fi bu ho lh mg wd fpi fal po de) rfl rfl (Nat.le_of_ble_eq_true rfl) rfl (by decide) (by omega) (by omega) (fun E cs1 hx => ?_) (fun v cs1 hx => ?_)
      · exact absurd hx.1 (by simp)
      · obtain ⟨e1, rfl⟩ := hx
        cases e1
        refine ⟨rfl, ?_⟩
        refine r_st (st2 := [.int 1]) rfl ?_
        refine r_cs (cs2 := [(m, .inr (12, [.int 1, .ref mp, .int pt, .ref mf, .ref mh, .ref mn, .ref mt, .ref mz, .ref mc_, .ref mq, .ref mgr, .int cl, .int wa, .int co_, .int fi, .int bu, .int ho, .ref ml, .ref mi, .ref mr, .int lh, .int mg, .int wd, .int fpi, .int fal, .ref mm, .ref mu, .ref mk, .ref mx, .long po, .long de]))]) rfl ?_
        refine r_if_eq (tgt := 30) d_Mm_pool_23 (by decide) (fun c_23 => ?_) (fun c_23 => ?_)
        · exact absurd c_23 (by decide)
        · refine r_iconst d_Mm_pool_26 (v := 0) (by decide) ?_
          refine r_goto (tgt := 39) d_Mm_pool_27 (by decide) ?_
          refine r_iret d_Mm_pool_39 rfl rfl ?_
          exact ⟨rfl, rfl⟩
abbrev M_Mm_poolHas : zM := (⟨"IronpourModel", "poolHas", "(CC)I"⟩, prog_14_method_69_code, 3, (Option.some FieldType.int), 9, 199, [])
theorem d_Mm_poolHas_0 : decode prog_14_method_69_code 0 = .ok (.aload_n 0, 1) := zo_42 (zd_b zq_prog_14_method_69_code_0 0 rfl rfl rfl)
theorem d_Mm_poolHas_1 : decode prog_14_method_69_code 1 = .ok (.iconst 0, 1) := zo_3 (zd_b zq_prog_14_method_69_code_0 1 rfl rfl rfl)
theorem d_Mm_poolHas_2 : decode prog_14_method_69_code 2 = .ok (.putfield 84, 3) := zo_181 (d := 0) (e := 84) (zd_b zq_prog_14_method_69_code_0 2 rfl rfl rfl) (zd_b zq_prog_14_method_69_code_0 3 rfl rfl rfl) (zd_b zq_prog_14_method_69_code_0 4 rfl rfl rfl)
theorem d_Mm_poolHas_5 : decode prog_14_method_69_code 5 = .ok (.aload_n 0, 1) := zo_42 (zd_b zq_prog_14_method_69_code_0 5 rfl rfl rfl)
theorem d_Mm_poolHas_6 : decode prog_14_method_69_code 6 = .ok (.iload_n 1, 1) := zo_27 (zd_b zq_prog_14_method_69_code_0 6 rfl rfl rfl)
theorem d_Mm_poolHas_7 : decode prog_14_method_69_code 7 = .ok (.invokestatic 269, 3) := zo_184 (d := 1) (e := 13) (zd_b zq_prog_14_method_69_code_0 7 rfl rfl rfl) (zd_b zq_prog_14_method_69_code_0 8 rfl rfl rfl) (zd_b zq_prog_14_method_69_code_0 9 rfl rfl rfl)
theorem ok_Mm_poolHas_Mm_place : z_ok M_Mm_poolHas M_Mm_place 1 := ⟨z_mj8 (i := 203) rfl (by decide +kernel), rfl, ⟨by decide +kernel, by decide +kernel, by decide +kernel⟩, ⟨by decide, by decide⟩, z_mj1 (i := 14) rfl (by decide +kernel), rfl⟩
theorem d_Mm_poolHas_10 : decode prog_14_method_69_code 10 = .ok (.iconst (-1), 1) := zo_2 (zd_b zq_prog_14_method_69_code_0 10 rfl rfl rfl)
theorem d_Mm_poolHas_11 : decode prog_14_method_69_code 11 = .ok (.if_icmp .eq 10, 3) := zo_159 (d := 0) (e := 10) (zd_b zq_prog_14_method_69_code_0 11 rfl rfl rfl) (zd_b zq_prog_14_method_69_code_0 12 rfl rfl rfl) (zd_b zq_prog_14_method_69_code_0 13 rfl rfl rfl) (by decide +kernel)
theorem d_Mm_poolHas_21 : decode prog_14_method_69_code 21 = .ok (.iconst 1, 1) := zo_4 (zd_b zq_prog_14_method_69_code_0 21 rfl rfl rfl)
theorem d_Mm_poolHas_22 : decode prog_14_method_69_code 22 = .ok (.goto 4, 3) := zo_167 (d := 0) (e := 4) (zd_b zq_prog_14_method_69_code_0 22 rfl rfl rfl) (zd_b zq_prog_14_method_69_code_0 23 rfl rfl rfl) (zd_b zq_prog_14_method_69_code_0 24 rfl rfl rfl) (by decide +kernel)
theorem d_Mm_poolHas_26 : decode prog_14_method_69_code 26 = .ok (.iconst 1, 1) := zo_4 (zd_b zq_prog_14_method_69_code_0 26 rfl rfl rfl)
theorem d_Mm_poolHas_27 : decode prog_14_method_69_code 27 = .ok (.invokevirtual 103, 3) := zo_182 (d := 0) (e := 103) (zd_b zq_prog_14_method_69_code_0 27 rfl rfl rfl) (zd_b zq_prog_14_method_69_code_0 28 rfl rfl rfl) (zd_b zq_prog_14_method_69_code_0 29 rfl rfl rfl)
theorem ok_Mm_poolHas_Mm_fails : z_ok M_Mm_poolHas M_Mm_fails 2 := ⟨z_mj7 (i := 196) rfl (by decide +kernel), rfl, ⟨by decide +kernel, by decide +kernel, by decide +kernel⟩, ⟨by decide, by decide⟩, z_mj1 (i := 14) rfl (by decide +kernel), rfl⟩
theorem d_Mm_poolHas_30 : decode prog_14_method_69_code 30 = .ok (.ifCond .ne 28, 3) := zo_154 (d := 0) (e := 28) (zd_b zq_prog_14_method_69_code_0 30 rfl rfl rfl) (zd_b zq_prog_14_method_69_code_0 31 rfl rfl rfl) (zd_b zq_prog_14_method_69_code_1 0 rfl rfl rfl) (by decide +kernel)
theorem d_Mm_poolHas_58 : decode prog_14_method_69_code 58 = .ok (.iconst 0, 1) := zo_3 (zd_b zq_prog_14_method_69_code_1 26 rfl rfl rfl)
theorem d_Mm_poolHas_59 : decode prog_14_method_69_code 59 = .ok (.ireturn, 1) := zo_172 (zd_b zq_prog_14_method_69_code_1 27 rfl rfl rfl)
set_option maxHeartbeats 4000000 in
set_option maxRecDepth 100000 in
theorem C_Mm_poolHasE (g : zG) (m mp mf mh mn mt mz mc_ mq mgr ml mi mr mm mu mk mx : Nat) (th pt cl wa co_ fi bu ho lh mg wd fpi fal : Int32) (po de : Int64) (k k2 : Int32) (h1 : ¬ k = 103) (h2 : ¬ k = 100) : CT g M_Mm_poolHas [.ref m, .int k, .int k2] [(m, .inr (12, [.int th, .ref mp, .int pt, .ref mf, .ref mh, .ref mn, .ref mt, .ref mz, .ref mc_, .ref mq, .ref mgr, .int cl, .int wa, .int co_, .int fi, .int bu, .int ho, .ref ml, .ref mi, .ref mr, .int lh, .int mg, .int wd, .int fpi, .int fal, .ref mm, .ref mu, .ref mk, .ref mx, .long po, .long de]))] (fun o cs1 => o = .inl (some (.int 0)) ∧ cs1 = [(m, .inr (12, [.int 1, .ref mp, .int pt, .ref mf, .ref mh, .ref mn, .ref mt, .ref mz, .ref mc_, .ref mq, .ref mgr, .int cl, .int wa, .int co_, .int fi, .int bu, .int ho, .ref ml, .ref mi, .ref mr, .int lh, .int mg, .int wd, .int fpi, .int fal, .ref mm, .ref mu, .ref mk, .ref mx, .long po, .long de]))]) 0 0 := by
  refine z_of (by decide) rfl (Nat.le_of_ble_eq_true rfl) (fun w0 => ?_)
  refine r_lvE (lv2 := [(0, .ref m), (1, .int k), (2, .int k2)]) rfl ?_
  refine r_aload_n d_Mm_poolHas_0 rfl 0 rfl ?_
  refine r_iconst d_Mm_poolHas_1 (v := 0) (by decide) ?_
  refine r_put fp_Mm_84 d_Mm_poolHas_2 (fun h => nomatch h) rfl rfl (q0 := 0) rfl (Nat.le_of_ble_eq_true rfl) (cs' := [(m, .inr (12, [.int 0, .ref mp, .int pt, .ref mf, .ref mh, .ref mn, .ref mt, .ref mz, .ref mc_, .ref mq, .ref mgr, .int cl, .int wa, .int co_, .int fi, .int bu, .int ho, .ref ml, .ref mi, .ref mr, .int lh, .int mg, .int wd, .int fpi, .int fal, .ref mm, .ref mu, .ref mk, .ref mx, .long po, .long de]))]) rfl ?_
  refine r_aload_n d_Mm_poolHas_5 rfl 0 rfl ?_
  refine r_iload_n d_Mm_poolHas_6 rfl 1 rfl ?_
  refine r_callS (As := [.int k]) (rest := [.ref m]) (csC := []) (is := []) ln_Mm_269 w_st_Mm_place ok_Mm_poolHas_Mm_place d_Mm_poolHas_7 (C_Mm_placeO g k h1 h2) rfl rfl (Nat.le_of_ble_eq_true rfl) rfl (by decide) (by omega) (by omega) (fun E cs1 hx => ?_) (fun v cs1 hx => ?_)
  · exact absurd hx.1 (by simp)
  · obtain ⟨e1, rfl⟩ := hx
    cases e1
    refine ⟨rfl, ?_⟩
    refine r_st (st2 := [.int (-1), .ref m]) rfl ?_
    refine r_cs (cs2 := [(m, .inr (12, [.int 0, .ref mp, .int pt, .ref mf, .ref mh, .ref mn, .ref mt, .ref mz, .ref mc_, .ref mq, .ref mgr, .int cl, .int wa, .int co_, .int fi, .int bu, .int ho, .ref ml, .ref mi, .ref mr, .int lh, .int mg, .int wd, .int fpi, .int fal, .ref mm, .ref mu, .ref mk, .ref mx, .long po, .long de]))]) rfl ?_
    refine r_iconst d_Mm_poolHas_10 (v := (-1)) (by decide) ?_
    refine r_icmp_eq (tgt := 21) d_Mm_poolHas_11 (by decide) (fun c_11 => ?_) (fun c_11 => ?_)
    · refine r_iconst d_Mm_poolHas_21 (v := 1) (by decide) ?_
      refine r_goto (tgt := 26) d_Mm_poolHas_22 (by decide) ?_
      refine r_iconst d_Mm_poolHas_26 (v := 1) (by decide) ?_
      refine r_callV (As := [.int 1, .int 1]) (rest := []) (csC := [(m, .inr (12, [.int 0, .ref mp, .int pt, .ref mf, .ref mh, .ref mn, .ref mt, .ref mz, .ref mc_, .ref mq, .ref mgr, .int cl, .int wa, .int co_, .int fi, .int bu, .int ho, .ref ml, .ref mi, .ref mr, .int lh, .int mg, .int wd, .int fpi, .int fal, .ref mm, .ref mu, .ref mk, .ref mx, .long po, .long de]))]) (is := [0]) (q0 := 0) rfl rfl ln_Mm_103 w_im_Mm_fails w_se_Mm_fails ok_Mm_poolHas_Mm_fails d_Mm_poolHas_27 (C_Mm_fails1 g m mp mf mh mn mt mz mc_ mq mgr ml mi mr mm mu mk mx th pt cl wa co_ fi bu ho lh mg wd fpi fal po de) rfl rfl (Nat.le_of_ble_eq_true rfl) rfl (by decide) (by omega) (by omega) (fun E cs1 hx => ?_) (fun v cs1 hx => ?_)
      · exact absurd hx.1 (by simp)
      · obtain ⟨e1, rfl⟩ := hx
        cases e1
        refine ⟨rfl, ?_⟩
        refine r_st (st2 := [.int 1]) rfl ?_
        refine r_cs (cs2 := [(m, .inr (12, [.int 1, .ref mp, .int pt, .ref mf, .ref mh, .ref mn, .ref mt, .ref mz, .ref mc_, .ref mq, .ref mgr, .int cl, .int wa, .int co_, .int fi, .int bu, .int ho, .ref ml, .ref mi, .ref mr, .int lh, .int mg, .int wd, .int fpi, .int fal, .ref mm, .ref mu, .ref mk, .ref mx, .long po, .long de]))]) rfl ?_
        refine r_if_ne (tgt := 58) d_Mm_poolHas_30 (by decide) (fun c_30 => ?_) (fun c_30 => ?_)
        · refine r_iconst d_Mm_poolHas_58 (v := 0) (by decide) ?_
          refine r_iret d_Mm_poolHas_59 rfl rfl ?_
          exact ⟨rfl, rfl⟩
        · exact absurd c_30 (by decide)
    · exact absurd c_11 (by decide)
theorem d_Mm_pool_18 : decode prog_14_method_68_code 18 = .ok (.iconst 0, 1) := zo_3 (zd_b zq_prog_14_method_68_code_0 18 rfl rfl rfl)
theorem d_Mm_pool_30 : decode prog_14_method_68_code 30 = .ok (.aload_n 0, 1) := zo_42 (zd_b zq_prog_14_method_68_code_0 30 rfl rfl rfl)
theorem d_Mm_pool_31 : decode prog_14_method_68_code 31 = .ok (.getfield 62, 3) := zo_180 (d := 0) (e := 62) (zd_b zq_prog_14_method_68_code_0 31 rfl rfl rfl) (zd_b zq_prog_14_method_68_code_1 0 rfl rfl rfl) (zd_b zq_prog_14_method_68_code_1 1 rfl rfl rfl)
theorem d_Mm_pool_34 : decode prog_14_method_68_code 34 = .ok (.iload_n 1, 1) := zo_27 (zd_b zq_prog_14_method_68_code_1 2 rfl rfl rfl)
theorem d_Mm_pool_35 : decode prog_14_method_68_code 35 = .ok (.invokestatic 269, 3) := zo_184 (d := 1) (e := 13) (zd_b zq_prog_14_method_68_code_1 3 rfl rfl rfl) (zd_b zq_prog_14_method_68_code_1 4 rfl rfl rfl) (zd_b zq_prog_14_method_68_code_1 5 rfl rfl rfl)
theorem d_Mm_pool_38 : decode prog_14_method_68_code 38 = .ok (.iaload, 1) := zo_46 (zd_b zq_prog_14_method_68_code_1 6 rfl rfl rfl)
