theorem d_Mm_treat_42 : decode prog_14_method_63_code 42 = .ok (.iconst 0, 1) := by decide +kernel
theorem d_Mm_treat_50 : decode prog_14_method_63_code 50 = .ok (.aload_n 0, 1) := by decide +kernel
theorem d_Mm_treat_51 : decode prog_14_method_63_code 51 = .ok (.aload_n 0, 1) := by decide +kernel
theorem d_Mm_treat_52 : decode prog_14_method_63_code 52 = .ok (.getfield 260, 3) := by decide +kernel
theorem fs_Mm_260 : z_fs "IronpourModel" 260 12 21 := ⟨R_Mm, "IronpourModel", F_Mm, 31, rfl, u_Mm, by decide, Or.inl ⟨z_mem (i := 1601) (by decide +kernel) (by decide +kernel), Or.inl rfl⟩⟩
theorem d_Mm_treat_55 : decode prog_14_method_63_code 55 = .ok (.iload_n 1, 1) := by decide +kernel
theorem d_Mm_treat_56 : decode prog_14_method_63_code 56 = .ok (.iadd, 1) := by decide +kernel
theorem d_Mm_treat_57 : decode prog_14_method_63_code 57 = .ok (.bipush 100, 2) := by decide +kernel
theorem d_Mm_treat_59 : decode prog_14_method_63_code 59 = .ok (.if_icmp .le 7, 3) := by decide +kernel
theorem d_Mm_treat_66 : decode prog_14_method_63_code 66 = .ok (.iconst 0, 1) := by decide +kernel
theorem d_Mm_treat_67 : decode prog_14_method_63_code 67 = .ok (.iconst 3, 1) := by decide +kernel
theorem d_Mm_treat_68 : decode prog_14_method_63_code 68 = .ok (.invokevirtual 103, 3) := by decide +kernel
theorem d_Mm_treat_71 : decode prog_14_method_63_code 71 = .ok (.ifCond .eq 5, 3) := by decide +kernel
theorem d_Mm_treat_76 : decode prog_14_method_63_code 76 = .ok (.aload_n 0, 1) := by decide +kernel
theorem d_Mm_treat_77 : decode prog_14_method_63_code 77 = .ok (.dup, 1) := by decide +kernel
theorem d_Mm_treat_78 : decode prog_14_method_63_code 78 = .ok (.getfield 260, 3) := by decide +kernel
theorem d_Mm_treat_81 : decode prog_14_method_63_code 81 = .ok (.iload_n 1, 1) := by decide +kernel
theorem d_Mm_treat_82 : decode prog_14_method_63_code 82 = .ok (.iadd, 1) := by decide +kernel
theorem d_Mm_treat_83 : decode prog_14_method_63_code 83 = .ok (.putfield 260, 3) := by decide +kernel
theorem d_Mm_treat_86 : decode prog_14_method_63_code 86 = .ok (.aload_n 0, 1) := by decide +kernel
theorem d_Mm_treat_87 : decode prog_14_method_63_code 87 = .ok (.aload_n 0, 1) := by decide +kernel
theorem d_Mm_treat_88 : decode prog_14_method_63_code 88 = .ok (.getfield 263, 3) := by decide +kernel
theorem d_Mm_treat_91 : decode prog_14_method_63_code 91 = .ok (.ifCond .ne 12, 3) := by decide +kernel
theorem d_Mm_treat_103 : decode prog_14_method_63_code 103 = .ok (.iconst 1, 1) := by decide +kernel
theorem d_Mm_treat_104 : decode prog_14_method_63_code 104 = .ok (.goto 4, 3) := by decide +kernel
theorem d_Mm_treat_108 : decode prog_14_method_63_code 108 = .ok (.putfield 263, 3) := by decide +kernel
theorem d_Mm_treat_111 : decode prog_14_method_63_code 111 = .ok (.aload_n 0, 1) := by decide +kernel
theorem d_Mm_treat_112 : decode prog_14_method_63_code 112 = .ok (.getfield 260, 3) := by decide +kernel
theorem d_Mm_treat_115 : decode prog_14_method_63_code 115 = .ok (.ireturn, 1) := by decide +kernel
theorem d_Mm_treat_94 : decode prog_14_method_63_code 94 = .ok (.aload_n 0, 1) := by decide +kernel
theorem d_Mm_treat_95 : decode prog_14_method_63_code 95 = .ok (.getfield 260, 3) := by decide +kernel
theorem d_Mm_treat_98 : decode prog_14_method_63_code 98 = .ok (.bipush 20, 2) := by decide +kernel
theorem d_Mm_treat_100 : decode prog_14_method_63_code 100 = .ok (.if_icmp .lt 7, 3) := by decide +kernel
theorem d_Mm_treat_107 : decode prog_14_method_63_code 107 = .ok (.iconst 0, 1) := by decide +kernel
theorem d_Mm_treat_62 : decode prog_14_method_63_code 62 = .ok (.iconst 1, 1) := by decide +kernel
theorem d_Mm_treat_63 : decode prog_14_method_63_code 63 = .ok (.goto 4, 3) := by decide +kernel
set_option maxHeartbeats 4000000 in
set_option maxRecDepth 100000 in
theorem C_Mm_treatW (g : zG) (m mp mf mh mn mt mz mc_ mq mgr ml mi mr mm mu mk mx : Nat) (th pt cl wa co_ fi bu ho lh mg wd fpi fal : Int32) (po de : Int64) (ir : Nat → Int32) (gr : Nat → Int64) (am : Int32) (hw : 1 ≤ am ∧ am ≤ 100) : CT g M_Mm_treat [.ref m, .int am] [(m, .inr (12, [.int th, .ref mp, .int pt, .ref mf, .ref mh, .ref mn, .ref mt, .ref mz, .ref mc_, .ref mq, .ref mgr, .int cl, .int wa, .int co_, .int fi, .int bu, .int ho, .ref ml, .ref mi, .ref mr, .int lh, .int mg, .int wd, .int fpi, .int fal, .ref mm, .ref mu, .ref mk, .ref mx, .long po, .long de])), (mi, .inl (0, 4, .inl ir)), (mr, .inl (3, 16, .inr (.inl gr)))] (fun o cs1 => ∃ (v9 th9 lh9 mg9 wd9 : Int32) (ir9 : Nat → Int32) (gr9 : Nat → Int64), o = .inl (some (.int v9)) ∧ cs1 = [(m, .inr (12, [.int th9, .ref mp, .int pt, .ref mf, .ref mh, .ref mn, .ref mt, .ref mz, .ref mc_, .ref mq, .ref mgr, .int cl, .int wa, .int co_, .int fi, .int bu, .int ho, .ref ml, .ref mi, .ref mr, .int lh9, .int mg9, .int wd9, .int fpi, .int fal, .ref mm, .ref mu, .ref mk, .ref mx, .long po, .long de])), (mi, .inl (0, 4, .inl ir9)), (mr, .inl (3, 16, .inr (.inl gr9)))]) 0 0 := by
  refine z_of (by decide) rfl (Nat.le_of_ble_eq_true rfl) (fun w0 => ?_)
  refine r_lvE (lv2 := [(0, .ref m), (1, .int am)]) rfl ?_
  refine r_aload_n d_Mm_treat_0 rfl 0 rfl ?_
  refine r_iconst d_Mm_treat_1 (v := 0) (by decide) ?_
  refine r_put fp_Mm_84 d_Mm_treat_2 (fun h => nomatch h) rfl rfl (q0 := 0) rfl (Nat.le_of_ble_eq_true rfl) (cs' := [(m, .inr (12, [.int 0, .ref mp, .int pt, .ref mf, .ref mh, .ref mn, .ref mt, .ref mz, .ref mc_, .ref mq, .ref mgr, .int cl, .int wa, .int co_, .int fi, .int bu, .int ho, .ref ml, .ref mi, .ref mr, .int lh, .int mg, .int wd, .int fpi, .int fal, .ref mm, .ref mu, .ref mk, .ref mx, .long po, .long de])), (mi, .inl (0, 4, .inl ir)), (mr, .inl (3, 16, .inr (.inl gr)))]) rfl ?_
  refine r_aload_n d_Mm_treat_5 rfl 0 rfl ?_
  refine r_iload_n d_Mm_treat_6 rfl 1 rfl ?_
  refine r_iconst d_Mm_treat_7 (v := 1) (by decide) ?_
  refine r_bipush d_Mm_treat_8 (v := 100) (by decide) ?_
  refine r_callS (As := [.int am, .int 1, .int 100]) (rest := [.ref m]) (csC := []) (is := []) ln_Mm_87 w_st_Mm_in ok_Mm_treat_Mm_in d_Mm_treat_10 (C_Mm_in g am 1 100) rfl rfl (Nat.le_of_ble_eq_true rfl) rfl (by decide) (by omega) (by omega) (fun E cs1 hx => ?_) (fun v cs1 hx => ?_)
  · exact absurd hx.1 (by simp)
  · obtain ⟨e1, rfl⟩ := hx
    rw [if_pos hw] at e1
    cases e1
    refine ⟨rfl, ?_⟩
    refine r_st (st2 := [.int 1, .ref m]) rfl ?_
    refine r_cs (cs2 := [(m, .inr (12, [.int 0, .ref mp, .int pt, .ref mf, .ref mh, .ref mn, .ref mt, .ref mz, .ref mc_, .ref mq, .ref mgr, .int cl, .int wa, .int co_, .int fi, .int bu, .int ho, .ref ml, .ref mi, .ref mr, .int lh, .int mg, .int wd, .int fpi, .int fal, .ref mm, .ref mu, .ref mk, .ref mx, .long po, .long de])), (mi, .inl (0, 4, .inl ir)), (mr, .inl (3, 16, .inr (.inl gr)))]) rfl ?_
    refine r_if_ne (tgt := 20) d_Mm_treat_13 (by decide) (fun c_13 => ?_) (fun c_13 => ?_)
    · refine r_iconst d_Mm_treat_20 (v := 0) (by decide) ?_
      refine r_iconst d_Mm_treat_21 (v := 1) (by decide) ?_
      refine r_callV (As := [.int 0, .int 1]) (rest := []) (csC := [(m, .inr (12, [.int 0, .ref mp, .int pt, .ref mf, .ref mh, .ref mn, .ref mt, .ref mz, .ref mc_, .ref mq, .ref mgr, .int cl, .int wa, .int co_, .int fi, .int bu, .int ho, .ref ml, .ref mi, .ref mr, .int lh, .int mg, .int wd, .int fpi, .int fal, .ref mm, .ref mu, .ref mk, .ref mx, .long po, .long de]))]) (is := [0]) (q0 := 0) rfl rfl ln_Mm_103 w_im_Mm_fails w_se_Mm_fails ok_Mm_treat_Mm_fails d_Mm_treat_22 (C_Mm_fails0 g m mp mf mh mn mt mz mc_ mq mgr ml mi mr mm mu mk mx th pt cl wa co_ fi bu ho lh mg wd fpi fal po de 1) rfl rfl (Nat.le_of_ble_eq_true rfl) rfl (by decide) (by omega) (by omega) (fun E cs1 hx => ?_) (fun v cs1 hx => ?_)
      · exact absurd hx.1 (by simp)
      · obtain ⟨e1, rfl⟩ := hx
        cases e1
        refine ⟨rfl, ?_⟩
        refine r_st (st2 := [.int 0]) rfl ?_
        refine r_cs (cs2 := [(m, .inr (12, [.int 0, .ref mp, .int pt, .ref mf, .ref mh, .ref mn, .ref mt, .ref mz, .ref mc_, .ref mq, .ref mgr, .int cl, .int wa, .int co_, .int fi, .int bu, .int ho, .ref ml, .ref mi, .ref mr, .int lh, .int mg, .int wd, .int fpi, .int fal, .ref mm, .ref mu, .ref mk, .ref mx, .long po, .long de])), (mi, .inl (0, 4, .inl ir)), (mr, .inl (3, 16, .inr (.inl gr)))]) rfl ?_
        refine r_if_ne (tgt := 74) d_Mm_treat_25 (by decide) (fun c_25 => ?_) (fun c_25 => ?_)
        · exact absurd c_25 (by decide)
        · refine r_aload_n d_Mm_treat_28 rfl 0 rfl ?_
          refine r_aload_n d_Mm_treat_29 rfl 0 rfl ?_
          refine r_get fs_Mm_62 d_Mm_treat_30 (q0 := 0) rfl rfl ?_
          refine r_iconst d_Mm_treat_33 (v := 1) (by decide) ?_
          refine r_iald d_Mm_treat_34 (q0 := 1) rfl (fun q => q.elim (by decide) (by decide)) (v := ir 1) rfl ?_
          refine r_if_ne (tgt := 42) d_Mm_treat_35 (by decide) (fun c_35 => ?_) (fun c_35 => ?_)
          · refine r_iconst d_Mm_treat_42 (v := 0) (by decide) ?_
            refine r_iconst d_Mm_treat_43 (v := 2) (by decide) ?_
            refine r_callV (As := [.int 0, .int 2]) (rest := []) (csC := [(m, .inr (12, [.int 0, .ref mp, .int pt, .ref mf, .ref mh, .ref mn, .ref mt, .ref mz, .ref mc_, .ref mq, .ref mgr, .int cl, .int wa, .int co_, .int fi, .int bu, .int ho, .ref ml, .ref mi, .ref mr, .int lh, .int mg, .int wd, .int fpi, .int fal, .ref mm, .ref mu, .ref mk, .ref mx, .long po, .long de]))]) (is := [0]) (q0 := 0) rfl rfl ln_Mm_103 w_im_Mm_fails w_se_Mm_fails ok_Mm_treat_Mm_fails d_Mm_treat_44 (C_Mm_fails0 g m mp mf mh mn mt mz mc_ mq mgr ml mi mr mm mu mk mx th pt cl wa co_ fi bu ho lh mg wd fpi fal po de 2) rfl rfl (Nat.le_of_ble_eq_true rfl) rfl (by decide) (by omega) (by omega) (fun E cs1 hx => ?_) (fun v cs1 hx => ?_)
            · exact absurd hx.1 (by simp)
            · obtain ⟨e1, rfl⟩ := hx
              cases e1
              refine ⟨rfl, ?_⟩
              refine r_st (st2 := [.int 0]) rfl ?_
              refine r_cs (cs2 := [(m, .inr (12, [.int 0, .ref mp, .int pt, .ref mf, .ref mh, .ref mn, .ref mt, .ref mz, .ref mc_, .ref mq, .ref mgr, .int cl, .int wa, .int co_, .int fi, .int bu, .int ho, .ref ml, .ref mi, .ref mr, .int lh, .int mg, .int wd, .int fpi, .int fal, .ref mm, .ref mu, .ref mk, .ref mx, .long po, .long de])), (mi, .inl (0, 4, .inl ir)), (mr, .inl (3, 16, .inr (.inl gr)))]) rfl ?_
              refine r_if_ne (tgt := 74) d_Mm_treat_47 (by decide) (fun c_47 => ?_) (fun c_47 => ?_)
              · exact absurd c_47 (by decide)
              · refine r_aload_n d_Mm_treat_50 rfl 0 rfl ?_
                refine r_aload_n d_Mm_treat_51 rfl 0 rfl ?_
                refine r_get fs_Mm_260 d_Mm_treat_52 (q0 := 0) rfl rfl ?_
                refine r_iload_n d_Mm_treat_55 rfl 1 rfl ?_
                refine r_iadd d_Mm_treat_56 (v := mg + am) rfl ?_
                refine r_bipush d_Mm_treat_57 (v := 100) (by decide) ?_
                refine r_icmp_le (tgt := 66) d_Mm_treat_59 (by decide) (fun c_59 => ?_) (fun c_59 => ?_)
                · refine r_iconst d_Mm_treat_66 (v := 0) (by decide) ?_
                  refine r_iconst d_Mm_treat_67 (v := 3) (by decide) ?_
                  refine r_callV (As := [.int 0, .int 3]) (rest := []) (csC := [(m, .inr (12, [.int 0, .ref mp, .int pt, .ref mf, .ref mh, .ref mn, .ref mt, .ref mz, .ref mc_, .ref mq, .ref mgr, .int cl, .int wa, .int co_, .int fi, .int bu, .int ho, .ref ml, .ref mi, .ref mr, .int lh, .int mg, .int wd, .int fpi, .int fal, .ref mm, .ref mu, .ref mk, .ref mx, .long po, .long de]))]) (is := [0]) (q0 := 0) rfl rfl ln_Mm_103 w_im_Mm_fails w_se_Mm_fails ok_Mm_treat_Mm_fails d_Mm_treat_68 (C_Mm_fails0 g m mp mf mh mn mt mz mc_ mq mgr ml mi mr mm mu mk mx th pt cl wa co_ fi bu ho lh mg wd fpi fal po de 3) rfl rfl (Nat.le_of_ble_eq_true rfl) rfl (by decide) (by omega) (by omega) (fun E cs1 hx => ?_) (fun v cs1 hx => ?_)
                  · exact absurd hx.1 (by simp)
                  · obtain ⟨e1, rfl⟩ := hx
                    cases e1
                    refine ⟨rfl, ?_⟩
                    refine r_st (st2 := [.int 0]) rfl ?_
                    refine r_cs (cs2 := [(m, .inr (12, [.int 0, .ref mp, .int pt, .ref mf, .ref mh, .ref mn, .ref mt, .ref mz, .ref mc_, .ref mq, .ref mgr, .int cl, .int wa, .int co_, .int fi, .int bu, .int ho, .ref ml, .ref mi, .ref mr, .int lh, .int mg, .int wd, .int fpi, .int fal, .ref mm, .ref mu, .ref mk, .ref mx, .long po, .long de])), (mi, .inl (0, 4, .inl ir)), (mr, .inl (3, 16, .inr (.inl gr)))]) rfl ?_
                    refine r_if_eq (tgt := 76) d_Mm_treat_71 (by decide) (fun c_71 => ?_) (fun c_71 => ?_)
                    · refine r_aload_n d_Mm_treat_76 rfl 0 rfl ?_
                      refine r_dup d_Mm_treat_77 rfl ?_
                      refine r_get fs_Mm_260 d_Mm_treat_78 (q0 := 0) rfl rfl ?_
                      refine r_iload_n d_Mm_treat_81 rfl 1 rfl ?_
                      refine r_iadd d_Mm_treat_82 (v := mg + am) rfl ?_
                      refine r_put fp_Mm_260 d_Mm_treat_83 (fun h => nomatch h) rfl rfl (q0 := 0) rfl (Nat.le_of_ble_eq_true rfl) (cs' := [(m, .inr (12, [.int 0, .ref mp, .int pt, .ref mf, .ref mh, .ref mn, .ref mt, .ref mz, .ref mc_, .ref mq, .ref mgr, .int cl, .int wa, .int co_, .int fi, .int bu, .int ho, .ref ml, .ref mi, .ref mr, .int lh, .int (mg + am), .int wd, .int fpi, .int fal, .ref mm, .ref mu, .ref mk, .ref mx, .long po, .long de])), (mi, .inl (0, 4, .inl ir)), (mr, .inl (3, 16, .inr (.inl gr)))]) rfl ?_
                      refine r_aload_n d_Mm_treat_86 rfl 0 rfl ?_
                      refine r_aload_n d_Mm_treat_87 rfl 0 rfl ?_
                      refine r_get fs_Mm_263 d_Mm_treat_88 (q0 := 0) rfl rfl ?_
                      refine r_if_ne (tgt := 103) d_Mm_treat_91 (by decide) (fun c_91 => ?_) (fun c_91 => ?_)
                      · refine r_iconst d_Mm_treat_103 (v := 1) (by decide) ?_
                        refine r_goto (tgt := 108) d_Mm_treat_104 (by decide) ?_
                        refine r_put fp_Mm_263 d_Mm_treat_108 (fun h => nomatch h) (by decide) (by decide) (q0 := 0) rfl (Nat.le_of_ble_eq_true rfl) (cs' := [(m, .inr (12, [.int 0, .ref mp, .int pt, .ref mf, .ref mh, .ref mn, .ref mt, .ref mz, .ref mc_, .ref mq, .ref mgr, .int cl, .int wa, .int co_, .int fi, .int bu, .int ho, .ref ml, .ref mi, .ref mr, .int lh, .int (mg + am), .int 1, .int fpi, .int fal, .ref mm, .ref mu, .ref mk, .ref mx, .long po, .long de])), (mi, .inl (0, 4, .inl ir)), (mr, .inl (3, 16, .inr (.inl gr)))]) rfl ?_
                        refine r_aload_n d_Mm_treat_111 rfl 0 rfl ?_
                        refine r_get fs_Mm_260 d_Mm_treat_112 (q0 := 0) rfl rfl ?_
                        refine r_iret d_Mm_treat_115 rfl rfl ?_
                        exact ⟨_, _, _, _, _, _, _, rfl, rfl⟩
                      · refine r_aload_n d_Mm_treat_94 rfl 0 rfl ?_
                        refine r_get fs_Mm_260 d_Mm_treat_95 (q0 := 0) rfl rfl ?_
                        refine r_bipush d_Mm_treat_98 (v := 20) (by decide) ?_
                        refine r_icmp_lt (tgt := 107) d_Mm_treat_100 (by decide) (fun c_100 => ?_) (fun c_100 => ?_)
                        · refine r_iconst d_Mm_treat_107 (v := 0) (by decide) ?_
                          refine r_put fp_Mm_263 d_Mm_treat_108 (fun h => nomatch h) (by decide) (by decide) (q0 := 0) rfl (Nat.le_of_ble_eq_true rfl) (cs' := [(m, .inr (12, [.int 0, .ref mp, .int pt, .ref mf, .ref mh, .ref mn, .ref mt, .ref mz, .ref mc_, .ref mq, .ref mgr, .int cl, .int wa, .int co_, .int fi, .int bu, .int ho, .ref ml, .ref mi, .ref mr, .int lh, .int (mg + am), .int 0, .int fpi, .int fal, .ref mm, .ref mu, .ref mk, .ref mx, .long po, .long de])), (mi, .inl (0, 4, .inl ir)), (mr, .inl (3, 16, .inr (.inl gr)))]) rfl ?_
                          refine r_aload_n d_Mm_treat_111 rfl 0 rfl ?_
                          refine r_get fs_Mm_260 d_Mm_treat_112 (q0 := 0) rfl rfl ?_
                          refine r_iret d_Mm_treat_115 rfl rfl ?_
                          exact ⟨_, _, _, _, _, _, _, rfl, rfl⟩
                        · refine r_iconst d_Mm_treat_103 (v := 1) (by decide) ?_
                          refine r_goto (tgt := 108) d_Mm_treat_104 (by decide) ?_
                          refine r_put fp_Mm_263 d_Mm_treat_108 (fun h => nomatch h) (by decide) (by decide) (q0 := 0) rfl (Nat.le_of_ble_eq_true rfl) (cs' := [(m, .inr (12, [.int 0, .ref mp, .int pt, .ref mf, .ref mh, .ref mn, .ref mt, .ref mz, .ref mc_, .ref mq, .ref mgr, .int cl, .int wa, .int co_, .int fi, .int bu, .int ho, .ref ml, .ref mi, .ref mr, .int lh, .int (mg + am), .int 1, .int fpi, .int fal, .ref mm, .ref mu, .ref mk, .ref mx, .long po, .long de])), (mi, .inl (0, 4, .inl ir)), (mr, .inl (3, 16, .inr (.inl gr)))]) rfl ?_
                          refine r_aload_n d_Mm_treat_111 rfl 0 rfl ?_
                          refine r_get fs_Mm_260 d_Mm_treat_112 (q0 := 0) rfl rfl ?_
                          refine r_iret d_Mm_treat_115 rfl rfl ?_
                          exact ⟨_, _, _, _, _, _, _, rfl, rfl⟩
                    · exact absurd c_71 (by decide)
                · refine r_iconst d_Mm_treat_62 (v := 1) (by decide) ?_
                  refine r_goto (tgt := 67) d_Mm_treat_63 (by decide) ?_
                  refine r_iconst d_Mm_treat_67 (v := 3) (by decide) ?_
                  refine r_callV (As := [.int 1, .int 3]) (rest := []) (csC := [(m, .inr (12, [.int 0, .ref mp, .int pt, .ref mf, .ref mh, .ref mn, .ref mt, .ref mz, .ref mc_, .ref mq, .ref mgr, .int cl, .int wa, .int co_, .int fi, .int bu, .int ho, .ref ml, .ref mi, .ref mr, .int lh, .int mg, .int wd, .int fpi, .int fal, .ref mm, .ref mu, .ref mk, .ref mx, .long po, .long de]))]) (is := [0]) (q0 := 0) rfl rfl ln_Mm_103 w_im_Mm_fails w_se_Mm_fails ok_Mm_treat_Mm_fails d_Mm_treat_68 (C_Mm_fails3 g m mp mf mh mn mt mz mc_ mq mgr ml mi mr mm mu mk mx th pt cl wa co_ fi bu ho lh mg wd fpi fal po de) rfl rfl (Nat.le_of_ble_eq_true rfl) rfl (by decide) (by omega) (by omega) (fun E cs1 hx => ?_) (fun v cs1 hx => ?_)
                  · exact absurd hx.1 (by simp)
                  · obtain ⟨e1, rfl⟩ := hx
                    cases e1
                    refine ⟨rfl, ?_⟩
                    refine r_st (st2 := [.int 1]) rfl ?_
                    refine r_cs (cs2 := [(m, .inr (12, [.int 3, .ref mp, .int pt, .ref mf, .ref mh, .ref mn, .ref mt, .ref mz, .ref mc_, .ref mq, .ref mgr, .int cl, .int wa, .int co_, .int fi, .int bu, .int ho, .ref ml, .ref mi, .ref mr, .int lh, .int mg, .int wd, .int fpi, .int fal, .ref mm, .ref mu, .ref mk, .ref mx, .long po, .long de])), (mi, .inl (0, 4, .inl ir)), (mr, .inl (3, 16, .inr (.inl gr)))]) rfl ?_
                    refine r_if_eq (tgt := 76) d_Mm_treat_71 (by decide) (fun c_71 => ?_) (fun c_71 => ?_)
                    · exact absurd c_71 (by decide)
                    · refine r_iconst d_Mm_treat_74 (v := 0) (by decide) ?_
                      refine r_iret d_Mm_treat_75 rfl rfl ?_
                      exact ⟨_, _, _, _, _, _, _, rfl, rfl⟩
          · refine r_iconst d_Mm_treat_38 (v := 1) (by decide) ?_
            refine r_goto (tgt := 43) d_Mm_treat_39 (by decide) ?_
            refine r_iconst d_Mm_treat_43 (v := 2) (by decide) ?_
            refine r_callV (As := [.int 1, .int 2]) (rest := []) (csC := [(m, .inr (12, [.int 0, .ref mp, .int pt, .ref mf, .ref mh, .ref mn, .ref mt, .ref mz, .ref mc_, .ref mq, .ref mgr, .int cl, .int wa, .int co_, .int fi, .int bu, .int ho, .ref ml, .ref mi, .ref mr, .int lh, .int mg, .int wd, .int fpi, .int fal, .ref mm, .ref mu, .ref mk, .ref mx, .long po, .long de]))]) (is := [0]) (q0 := 0) rfl rfl ln_Mm_103 w_im_Mm_fails w_se_Mm_fails ok_Mm_treat_Mm_fails d_Mm_treat_44 (C_Mm_fails2 g m mp mf mh mn mt mz mc_ mq mgr ml mi mr mm mu mk mx th pt cl wa co_ fi bu ho lh mg wd fpi fal po de) rfl rfl (Nat.le_of_ble_eq_true rfl) rfl (by decide) (by omega) (by omega) (fun E cs1 hx => ?_) (fun v cs1 hx => ?_)
            · exact absurd hx.1 (by simp)
            · obtain ⟨e1, rfl⟩ := hx
              cases e1
              refine ⟨rfl, ?_⟩
              refine r_st (st2 := [.int 1]) rfl ?_
              refine r_cs (cs2 := [(m, .inr (12, [.int 2, .ref mp, .int pt, .ref mf, .ref mh, .ref mn, .ref mt, .ref mz, .ref mc_, .ref mq, .ref mgr, .int cl, .int wa, .int co_, .int fi, .int bu, .int ho, .ref ml, .ref mi, .ref mr, .int lh, .int mg, .int wd, .int fpi, .int fal, .ref mm, .ref mu, .ref mk, .ref mx, .long po, .long de])), (mi, .inl (0, 4, .inl ir)), (mr, .inl (3, 16, .inr (.inl gr)))]) rfl ?_
              refine r_if_ne (tgt := 74) d_Mm_treat_47 (by decide) (fun c_47 => ?_) (fun c_47 => ?_)
              · refine r_iconst d_Mm_treat_74 (v := 0) (by decide) ?_
                refine r_iret d_Mm_treat_75 rfl rfl ?_
                exact ⟨_, _, _, _, _, _, _, rfl, rfl⟩
              · exact absurd c_47 (by decide)
    · exact absurd c_13 (by decide)
abbrev M_Mm_percent : zM := (⟨"IronpourModel", "percent", "(II)I"⟩, prog_14_method_59_code, 3, (Option.some FieldType.int), 1, 20, [])
theorem d_Mm_percent_0 : decode prog_14_method_59_code 0 = .ok (.aload_n 0, 1) := by decide +kernel
theorem d_Mm_percent_1 : decode prog_14_method_59_code 1 = .ok (.getfield 65, 3) := by decide +kernel
theorem d_Mm_percent_4 : decode prog_14_method_59_code 4 = .ok (.iconst 4, 1) := by decide +kernel
theorem d_Mm_percent_5 : decode prog_14_method_59_code 5 = .ok (.iload_n 1, 1) := by decide +kernel
theorem d_Mm_percent_6 : decode prog_14_method_59_code 6 = .ok (.imul, 1) := by decide +kernel
theorem d_Mm_percent_7 : decode prog_14_method_59_code 7 = .ok (.iload_n 2, 1) := by decide +kernel
theorem d_Mm_percent_8 : decode prog_14_method_59_code 8 = .ok (.iadd, 1) := by decide +kernel
theorem d_Mm_percent_9 : decode prog_14_method_59_code 9 = .ok (.laload, 1) := by decide +kernel
theorem d_Mm_percent_10 : decode prog_14_method_59_code 10 = .ok (.ldc2_w 244, 3) := by decide +kernel
theorem d_Mm_percent_13 : decode prog_14_method_59_code 13 = .ok (.lmul, 1) := by decide +kernel
theorem d_Mm_percent_14 : decode prog_14_method_59_code 14 = .ok (.aload_n 0, 1) := by decide +kernel
theorem d_Mm_percent_15 : decode prog_14_method_59_code 15 = .ok (.getfield 62, 3) := by decide +kernel
theorem d_Mm_percent_18 : decode prog_14_method_59_code 18 = .ok (.iload_n 1, 1) := by decide +kernel
theorem d_Mm_percent_19 : decode prog_14_method_59_code 19 = .ok (.iaload, 1) := by decide +kernel
theorem d_Mm_percent_20 : decode prog_14_method_59_code 20 = .ok (.i2l, 1) := by decide +kernel
theorem d_Mm_percent_21 : decode prog_14_method_59_code 21 = .ok (.ldiv, 1) := by decide +kernel
theorem d_Mm_percent_22 : decode prog_14_method_59_code 22 = .ok (.l2i, 1) := by decide +kernel
theorem d_Mm_percent_23 : decode prog_14_method_59_code 23 = .ok (.ireturn, 1) := by decide +kernel
set_option maxHeartbeats 4000000 in
set_option maxRecDepth 100000 in
theorem C_Mm_percentW (g : zG) (m mp mf mh mn mt mz mc_ mq mgr ml mi mr mm mu mk mx : Nat) (th pt cl wa co_ fi bu ho lh mg wd fpi fal : Int32) (po de : Int64) (ir : Nat → Int32) (gr : Nat → Int64) (pl e : Nat) (hp : pl < 4) (he : e < 4) (h0 : ¬ ir pl = 0) : CT g M_Mm_percent [.ref m, .int (nI pl), .int (nI e)] [(m, .inr (12, [.int th, .ref mp, .int pt, .ref mf, .ref mh, .ref mn, .ref mt, .ref mz, .ref mc_, .ref mq, .ref mgr, .int cl, .int wa, .int co_, .int fi, .int bu, .int ho, .ref ml, .ref mi, .ref mr, .int lh, .int mg, .int wd, .int fpi, .int fal, .ref mm, .ref mu, .ref mk, .ref mx, .long po, .long de])), (mi, .inl (0, 4, .inl ir)), (mr, .inl (3, 16, .inr (.inl gr)))] (fun o cs1 => ∃ v9 : Int32, o = .inl (some (.int v9)) ∧ cs1 = [(m, .inr (12, [.int th, .ref mp, .int pt, .ref mf, .ref mh, .ref mn, .ref mt, .ref mz, .ref mc_, .ref mq, .ref mgr, .int cl, .int wa, .int co_, .int fi, .int bu, .int ho, .ref ml, .ref mi, .ref mr, .int lh, .int mg, .int wd, .int fpi, .int fal, .ref mm, .ref mu, .ref mk, .ref mx, .long po, .long de])), (mi, .inl (0, 4, .inl ir)), (mr, .inl (3, 16, .inr (.inl gr)))]) 0 0 := by
  refine z_of (by decide) rfl (Nat.le_of_ble_eq_true rfl) (fun w0 => ?_)
  refine r_lvE (lv2 := [(0, .ref m), (1, .int (nI pl)), (2, .int (nI e))]) rfl ?_
  refine r_aload_n d_Mm_percent_0 rfl 0 rfl ?_
  refine r_get fs_Mm_65 d_Mm_percent_1 (q0 := 0) rfl rfl ?_
  refine r_iconst d_Mm_percent_4 (v := 4) (by decide) ?_
  refine r_iload_n d_Mm_percent_5 rfl 1 rfl ?_
  refine r_imul d_Mm_percent_6 (v := nI (4 * pl)) (pk_mul _ _) ?_
  refine r_iload_n d_Mm_percent_7 rfl 2 rfl ?_
  refine r_iadd d_Mm_percent_8 (v := nI ((4 * pl) + e)) (nI_add _ _) ?_
  refine r_lald d_Mm_percent_9 (q0 := 2) rfl (vp_in_nI (by omega) (by omega)) (v := gr ((4 * pl) + e)) (by rw [nI_clamp (by omega)]) ?_
  refine r_ldc2 ct_Mm_244 d_Mm_percent_10 ?_
  refine r_lmul d_Mm_percent_13 (v := (gr ((4 * pl) + e)) * 10) rfl ?_
  refine r_aload_n d_Mm_percent_14 rfl 0 rfl ?_
  refine r_get fs_Mm_62 d_Mm_percent_15 (q0 := 0) rfl rfl ?_
  refine r_iload_n d_Mm_percent_18 rfl 1 rfl ?_
  refine r_iald d_Mm_percent_19 (q0 := 1) rfl (vp_in_nI (by omega) (by omega)) (v := ir pl) (by rw [nI_clamp (by omega)]) ?_
  refine r_i2l d_Mm_percent_20 (v := (ir pl).toInt64) rfl ?_
  refine r_ldiv d_Mm_percent_21 (v := ((gr ((4 * pl) + e)) * 10) / ((ir pl).toInt64)) (z_l0 h0) rfl ?_
  refine r_l2i d_Mm_percent_22 (v := (((gr ((4 * pl) + e)) * 10) / ((ir pl).toInt64)).toInt32) rfl ?_
  refine r_iret d_Mm_percent_23 rfl rfl ?_
  exact ⟨_, rfl, rfl⟩
theorem d_Mm_furnace_39 : decode prog_14_method_60_code 39 = .ok (.iconst 0, 1) := by decide +kernel
theorem d_Mm_furnace_51 : decode prog_14_method_60_code 51 = .ok (.aload_n 0, 1) := by decide +kernel
theorem d_Mm_furnace_52 : decode prog_14_method_60_code 52 = .ok (.iconst 0, 1) := by decide +kernel
theorem d_Mm_furnace_53 : decode prog_14_method_60_code 53 = .ok (.iload_n 1, 1) := by decide +kernel
theorem d_Mm_furnace_54 : decode prog_14_method_60_code 54 = .ok (.invokestatic 246, 3) := by decide +kernel
theorem d_Mm_furnace_57 : decode prog_14_method_60_code 57 = .ok (.invokevirtual 250, 3) := by decide +kernel
theorem ok_Mm_furnace_Mm_percent : z_ok M_Mm_furnace M_Mm_percent 2 := ⟨z_mem (i := 1906) (by decide +kernel) (by decide +kernel), rfl, ⟨by decide +kernel, by decide +kernel, by decide +kernel⟩, ⟨by decide, by decide⟩, z_mem (i := 71) (by decide +kernel) (by decide +kernel), rfl⟩
theorem ln_Mm_250 : Cond.methodLink "IronpourModel" 250 M_Mm_percent.1 ∈ z_gw := z_mem (i := 1903) (by decide +kernel) (by decide +kernel)
theorem w_im_Mm_percent : Cond.instanceMethod M_Mm_percent.1 ∈ z_gw := z_mem (i := 1905) (by decide +kernel) (by decide +kernel)
theorem w_se_Mm_percent : Cond.selects M_Mm_percent.1.cls M_Mm_percent.1 M_Mm_percent.1 ∈ z_gw := z_mem (i := 49) (by decide +kernel) (by decide +kernel)
set_option maxHeartbeats 4000000 in
set_option maxRecDepth 100000 in
theorem C_Mm_furnaceW (g : zG) (m mp mf mh mn mt mz mc_ mq mgr ml mi mr mm mu mk mx : Nat) (th pt cl wa co_ fi bu ho lh mg wd fpi fal : Int32) (po de : Int64) (ir : Nat → Int32) (gr : Nat → Int64) (k : Int32) (e : Nat) (he : e < 4) (hk : z_ix 2 k = nI e) (hk2 : ¬ z_ix 2 k < 0) : CT g M_Mm_furnace [.ref m, .int k] [(m, .inr (12, [.int th, .ref mp, .int pt, .ref mf, .ref mh, .ref mn, .ref mt, .ref mz, .ref mc_, .ref mq, .ref mgr, .int cl, .int wa, .int co_, .int fi, .int bu, .int ho, .ref ml, .ref mi, .ref mr, .int lh, .int mg, .int wd, .int fpi, .int fal, .ref mm, .ref mu, .ref mk, .ref mx, .long po, .long de])), (mi, .inl (0, 4, .inl ir)), (mr, .inl (3, 16, .inr (.inl gr)))] (fun o cs1 => ∃ (v9 th9 lh9 mg9 wd9 : Int32) (ir9 : Nat → Int32) (gr9 : Nat → Int64), o = .inl (some (.int v9)) ∧ cs1 = [(m, .inr (12, [.int th9, .ref mp, .int pt, .ref mf, .ref mh, .ref mn, .ref mt, .ref mz, .ref mc_, .ref mq, .ref mgr, .int cl, .int wa, .int co_, .int fi, .int bu, .int ho, .ref ml, .ref mi, .ref mr, .int lh9, .int mg9, .int wd9, .int fpi, .int fal, .ref mm, .ref mu, .ref mk, .ref mx, .long po, .long de])), (mi, .inl (0, 4, .inl ir9)), (mr, .inl (3, 16, .inr (.inl gr9)))]) 0 0 := by
  refine z_of (by decide) rfl (Nat.le_of_ble_eq_true rfl) (fun w0 => ?_)
  refine r_lvE (lv2 := [(0, .ref m), (1, .int k)]) rfl ?_
  refine r_aload_n d_Mm_furnace_0 rfl 0 rfl ?_
  refine r_iconst d_Mm_furnace_1 (v := 0) (by decide) ?_
  refine r_put fp_Mm_84 d_Mm_furnace_2 (fun h => nomatch h) rfl rfl (q0 := 0) rfl (Nat.le_of_ble_eq_true rfl) (cs' := [(m, .inr (12, [.int 0, .ref mp, .int pt, .ref mf, .ref mh, .ref mn, .ref mt, .ref mz, .ref mc_, .ref mq, .ref mgr, .int cl, .int wa, .int co_, .int fi, .int bu, .int ho, .ref ml, .ref mi, .ref mr, .int lh, .int mg, .int wd, .int fpi, .int fal, .ref mm, .ref mu, .ref mk, .ref mx, .long po, .long de])), (mi, .inl (0, 4, .inl ir)), (mr, .inl (3, 16, .inr (.inl gr)))]) rfl ?_
  refine r_aload_n d_Mm_furnace_5 rfl 0 rfl ?_
  refine r_iload_n d_Mm_furnace_6 rfl 1 rfl ?_
  refine r_callS (As := [.int k]) (rest := [.ref m]) (csC := []) (is := []) ln_Mm_246 w_st_Mm_element ok_Mm_furnace_Mm_element d_Mm_furnace_7 (C_Mm_element g k) rfl rfl (Nat.le_of_ble_eq_true rfl) rfl (by decide) (by omega) (by omega) (fun E cs1 hx => ?_) (fun v cs1 hx => ?_)
  · exact absurd hx.1 (by simp)
  · obtain ⟨e1, rfl⟩ := hx
    rw [hk] at e1
    cases e1
    refine ⟨rfl, ?_⟩
    refine r_st (st2 := [.int (nI e), .ref m]) rfl ?_
    refine r_cs (cs2 := [(m, .inr (12, [.int 0, .ref mp, .int pt, .ref mf, .ref mh, .ref mn, .ref mt, .ref mz, .ref mc_, .ref mq, .ref mgr, .int cl, .int wa, .int co_, .int fi, .int bu, .int ho, .ref ml, .ref mi, .ref mr, .int lh, .int mg, .int wd, .int fpi, .int fal, .ref mm, .ref mu, .ref mk, .ref mx, .long po, .long de])), (mi, .inl (0, 4, .inl ir)), (mr, .inl (3, 16, .inr (.inl gr)))]) rfl ?_
    refine r_if_ge (tgt := 17) d_Mm_furnace_10 (by decide) (fun c_10 => ?_) (fun c_10 => ?_)
    · refine r_iconst d_Mm_furnace_17 (v := 0) (by decide) ?_
      refine r_iconst d_Mm_furnace_18 (v := 1) (by decide) ?_
      refine r_callV (As := [.int 0, .int 1]) (rest := []) (csC := [(m, .inr (12, [.int 0, .ref mp, .int pt, .ref mf, .ref mh, .ref mn, .ref mt, .ref mz, .ref mc_, .ref mq, .ref mgr, .int cl, .int wa, .int co_, .int fi, .int bu, .int ho, .ref ml, .ref mi, .ref mr, .int lh, .int mg, .int wd, .int fpi, .int fal, .ref mm, .ref mu, .ref mk, .ref mx, .long po, .long de]))]) (is := [0]) (q0 := 0) rfl rfl ln_Mm_103 w_im_Mm_fails w_se_Mm_fails ok_Mm_furnace_Mm_fails d_Mm_furnace_19 (C_Mm_fails0 g m mp mf mh mn mt mz mc_ mq mgr ml mi mr mm mu mk mx th pt cl wa co_ fi bu ho lh mg wd fpi fal po de 1) rfl rfl (Nat.le_of_ble_eq_true rfl) rfl (by decide) (by omega) (by omega) (fun E cs1 hx => ?_) (fun v cs1 hx => ?_)
      · exact absurd hx.1 (by simp)
      · obtain ⟨e1, rfl⟩ := hx
        cases e1
        refine ⟨rfl, ?_⟩
        refine r_st (st2 := [.int 0]) rfl ?_
        refine r_cs (cs2 := [(m, .inr (12, [.int 0, .ref mp, .int pt, .ref mf, .ref mh, .ref mn, .ref mt, .ref mz, .ref mc_, .ref mq, .ref mgr, .int cl, .int wa, .int co_, .int fi, .int bu, .int ho, .ref ml, .ref mi, .ref mr, .int lh, .int mg, .int wd, .int fpi, .int fal, .ref mm, .ref mu, .ref mk, .ref mx, .long po, .long de])), (mi, .inl (0, 4, .inl ir)), (mr, .inl (3, 16, .inr (.inl gr)))]) rfl ?_
        refine r_if_ne (tgt := 47) d_Mm_furnace_22 (by decide) (fun c_22 => ?_) (fun c_22 => ?_)
        · exact absurd c_22 (by decide)
        · refine r_aload_n d_Mm_furnace_25 rfl 0 rfl ?_
          refine r_aload_n d_Mm_furnace_26 rfl 0 rfl ?_
          refine r_get fs_Mm_62 d_Mm_furnace_27 (q0 := 0) rfl rfl ?_
          refine r_iconst d_Mm_furnace_30 (v := 0) (by decide) ?_
          refine r_iald d_Mm_furnace_31 (q0 := 1) rfl (fun q => q.elim (by decide) (by decide)) (v := ir 0) rfl ?_
          refine r_if_ne (tgt := 39) d_Mm_furnace_32 (by decide) (fun c_32 => ?_) (fun c_32 => ?_)
          · refine r_iconst d_Mm_furnace_39 (v := 0) (by decide) ?_
            refine r_iconst d_Mm_furnace_40 (v := 2) (by decide) ?_
            refine r_callV (As := [.int 0, .int 2]) (rest := []) (csC := [(m, .inr (12, [.int 0, .ref mp, .int pt, .ref mf, .ref mh, .ref mn, .ref mt, .ref mz, .ref mc_, .ref mq, .ref mgr, .int cl, .int wa, .int co_, .int fi, .int bu, .int ho, .ref ml, .ref mi, .ref mr, .int lh, .int mg, .int wd, .int fpi, .int fal, .ref mm, .ref mu, .ref mk, .ref mx, .long po, .long de]))]) (is := [0]) (q0 := 0) rfl rfl ln_Mm_103 w_im_Mm_fails w_se_Mm_fails ok_Mm_furnace_Mm_fails d_Mm_furnace_41 (C_Mm_fails0 g m mp mf mh mn mt mz mc_ mq mgr ml mi mr mm mu mk mx th pt cl wa co_ fi bu ho lh mg wd fpi fal po de 2) rfl rfl (Nat.le_of_ble_eq_true rfl) rfl (by decide) (by omega) (by omega) (fun E cs1 hx => ?_) (fun v cs1 hx => ?_)
            · exact absurd hx.1 (by simp)
            · obtain ⟨e1, rfl⟩ := hx
              cases e1
              refine ⟨rfl, ?_⟩
              refine r_st (st2 := [.int 0]) rfl ?_
              refine r_cs (cs2 := [(m, .inr (12, [.int 0, .ref mp, .int pt, .ref mf, .ref mh, .ref mn, .ref mt, .ref mz, .ref mc_, .ref mq, .ref mgr, .int cl, .int wa, .int co_, .int fi, .int bu, .int ho, .ref ml, .ref mi, .ref mr, .int lh, .int mg, .int wd, .int fpi, .int fal, .ref mm, .ref mu, .ref mk, .ref mx, .long po, .long de])), (mi, .inl (0, 4, .inl ir)), (mr, .inl (3, 16, .inr (.inl gr)))]) rfl ?_
              refine r_if_eq (tgt := 51) d_Mm_furnace_44 (by decide) (fun c_44 => ?_) (fun c_44 => ?_)
              · refine r_aload_n d_Mm_furnace_51 rfl 0 rfl ?_
                refine r_iconst d_Mm_furnace_52 (v := 0) (by decide) ?_
                refine r_iload_n d_Mm_furnace_53 rfl 1 rfl ?_
                refine r_callS (As := [.int k]) (rest := [.int 0, .ref m]) (csC := []) (is := []) ln_Mm_246 w_st_Mm_element ok_Mm_furnace_Mm_element d_Mm_furnace_54 (C_Mm_element g k) rfl rfl (Nat.le_of_ble_eq_true rfl) rfl (by decide) (by omega) (by omega) (fun E cs1 hx => ?_) (fun v cs1 hx => ?_)
                · exact absurd hx.1 (by simp)
                · obtain ⟨e1, rfl⟩ := hx
                  rw [hk] at e1
                  cases e1
                  refine ⟨rfl, ?_⟩
                  refine r_st (st2 := [.int (nI e), .int 0, .ref m]) rfl ?_
                  refine r_cs (cs2 := [(m, .inr (12, [.int 0, .ref mp, .int pt, .ref mf, .ref mh, .ref mn, .ref mt, .ref mz, .ref mc_, .ref mq, .ref mgr, .int cl, .int wa, .int co_, .int fi, .int bu, .int ho, .ref ml, .ref mi, .ref mr, .int lh, .int mg, .int wd, .int fpi, .int fal, .ref mm, .ref mu, .ref mk, .ref mx, .long po, .long de])), (mi, .inl (0, 4, .inl ir)), (mr, .inl (3, 16, .inr (.inl gr)))]) rfl ?_
                  refine r_callV (As := [.int 0, .int (nI e)]) (rest := []) (csC := [(m, .inr (12, [.int 0, .ref mp, .int pt, .ref mf, .ref mh, .ref mn, .ref mt, .ref mz, .ref mc_, .ref mq, .ref mgr, .int cl, .int wa, .int co_, .int fi, .int bu, .int ho, .ref ml, .ref mi, .ref mr, .int lh, .int mg, .int wd, .int fpi, .int fal, .ref mm, .ref mu, .ref mk, .ref mx, .long po, .long de])), (mi, .inl (0, 4, .inl ir)), (mr, .inl (3, 16, .inr (.inl gr)))]) (is := [0, 1, 2]) (q0 := 0) rfl rfl ln_Mm_250 w_im_Mm_percent w_se_Mm_percent ok_Mm_furnace_Mm_percent d_Mm_furnace_57 (C_Mm_percentW g m mp mf mh mn mt mz mc_ mq mgr ml mi mr mm mu mk mx 0 pt cl wa co_ fi bu ho lh mg wd fpi fal po de ir gr 0 e (by decide) he c_32) rfl rfl (Nat.le_of_ble_eq_true rfl) rfl (by decide) (by omega) (by omega) (fun E cs1 hx => ?_) (fun v cs1 hx => ?_)
                  · obtain ⟨v9, e1, -⟩ := hx
                    cases e1
                  · obtain ⟨v9, e1, rfl⟩ := hx
                    cases e1
                    refine ⟨rfl, ?_⟩
                    refine r_st (st2 := [.int v9]) rfl ?_
                    refine r_cs (cs2 := [(m, .inr (12, [.int 0, .ref mp, .int pt, .ref mf, .ref mh, .ref mn, .ref mt, .ref mz, .ref mc_, .ref mq, .ref mgr, .int cl, .int wa, .int co_, .int fi, .int bu, .int ho, .ref ml, .ref mi, .ref mr, .int lh, .int mg, .int wd, .int fpi, .int fal, .ref mm, .ref mu, .ref mk, .ref mx, .long po, .long de])), (mi, .inl (0, 4, .inl ir)), (mr, .inl (3, 16, .inr (.inl gr)))]) rfl ?_
                    refine r_iret d_Mm_furnace_60 rfl rfl ?_
                    exact ⟨_, _, _, _, _, _, _, rfl, rfl⟩
              · exact absurd c_44 (by decide)
          · refine r_iconst d_Mm_furnace_35 (v := 1) (by decide) ?_
            refine r_goto (tgt := 40) d_Mm_furnace_36 (by decide) ?_
            refine r_iconst d_Mm_furnace_40 (v := 2) (by decide) ?_
            refine r_callV (As := [.int 1, .int 2]) (rest := []) (csC := [(m, .inr (12, [.int 0, .ref mp, .int pt, .ref mf, .ref mh, .ref mn, .ref mt, .ref mz, .ref mc_, .ref mq, .ref mgr, .int cl, .int wa, .int co_, .int fi, .int bu, .int ho, .ref ml, .ref mi, .ref mr, .int lh, .int mg, .int wd, .int fpi, .int fal, .ref mm, .ref mu, .ref mk, .ref mx, .long po, .long de]))]) (is := [0]) (q0 := 0) rfl rfl ln_Mm_103 w_im_Mm_fails w_se_Mm_fails ok_Mm_furnace_Mm_fails d_Mm_furnace_41 (C_Mm_fails2 g m mp mf mh mn mt mz mc_ mq mgr ml mi mr mm mu mk mx th pt cl wa co_ fi bu ho lh mg wd fpi fal po de) rfl rfl (Nat.le_of_ble_eq_true rfl) rfl (by decide) (by omega) (by omega) (fun E cs1 hx => ?_) (fun v cs1 hx => ?_)
            · exact absurd hx.1 (by simp)
            · obtain ⟨e1, rfl⟩ := hx
              cases e1
              refine ⟨rfl, ?_⟩
              refine r_st (st2 := [.int 1]) rfl ?_
              refine r_cs (cs2 := [(m, .inr (12, [.int 2, .ref mp, .int pt, .ref mf, .ref mh, .ref mn, .ref mt, .ref mz, .ref mc_, .ref mq, .ref mgr, .int cl, .int wa, .int co_, .int fi, .int bu, .int ho, .ref ml, .ref mi, .ref mr, .int lh, .int mg, .int wd, .int fpi, .int fal, .ref mm, .ref mu, .ref mk, .ref mx, .long po, .long de])), (mi, .inl (0, 4, .inl ir)), (mr, .inl (3, 16, .inr (.inl gr)))]) rfl ?_
              refine r_if_eq (tgt := 51) d_Mm_furnace_44 (by decide) (fun c_44 => ?_) (fun c_44 => ?_)
              · exact absurd c_44 (by decide)
              · refine r_iconst d_Mm_furnace_47 (v := 0) (by decide) ?_
                refine r_goto (tgt := 60) d_Mm_furnace_48 (by decide) ?_
                refine r_iret d_Mm_furnace_60 rfl rfl ?_
                exact ⟨_, _, _, _, _, _, _, rfl, rfl⟩
    · exact absurd (Int32.not_le.mp c_10) (nI_nneg (by omega))
theorem d_Mm_poolHas_50 : decode prog_14_method_69_code 50 = .ok (.iconst 0, 1) := by decide +kernel
theorem d_Mm_poolHas_60 : decode prog_14_method_69_code 60 = .ok (.aload_n 0, 1) := by decide +kernel
theorem d_Mm_poolHas_61 : decode prog_14_method_69_code 61 = .ok (.iload_n 1, 1) := by decide +kernel
theorem d_Mm_poolHas_62 : decode prog_14_method_69_code 62 = .ok (.invokestatic 269, 3) := by decide +kernel
theorem d_Mm_poolHas_65 : decode prog_14_method_69_code 65 = .ok (.iload_n 2, 1) := by decide +kernel
theorem d_Mm_poolHas_66 : decode prog_14_method_69_code 66 = .ok (.invokestatic 246, 3) := by decide +kernel
theorem d_Mm_poolHas_69 : decode prog_14_method_69_code 69 = .ok (.invokevirtual 250, 3) := by decide +kernel
theorem ok_Mm_poolHas_Mm_percent : z_ok M_Mm_poolHas M_Mm_percent 2 := ⟨z_mem (i := 1906) (by decide +kernel) (by decide +kernel), rfl, ⟨by decide +kernel, by decide +kernel, by decide +kernel⟩, ⟨by decide, by decide⟩, z_mem (i := 71) (by decide +kernel) (by decide +kernel), rfl⟩
theorem d_Mm_poolHas_72 : decode prog_14_method_69_code 72 = .ok (.ireturn, 1) := by decide +kernel
set_option maxHeartbeats 4000000 in
set_option maxRecDepth 100000 in
theorem C_Mm_poolHas103W (g : zG) (m mp mf mh mn mt mz mc_ mq mgr ml mi mr mm mu mk mx : Nat) (th pt cl wa co_ fi bu ho lh mg wd fpi fal : Int32) (po de : Int64) (ir : Nat → Int32) (gr : Nat → Int64) (k : Int32) (e : Nat) (he : e < 4) (hk : z_ix 2 k = nI e) (hk2 : ¬ z_ix 2 k < 0) : CT g M_Mm_poolHas [.ref m, .int 103, .int k] [(m, .inr (12, [.int th, .ref mp, .int pt, .ref mf, .ref mh, .ref mn, .ref mt, .ref mz, .ref mc_, .ref mq, .ref mgr, .int cl, .int wa, .int co_, .int fi, .int bu, .int ho, .ref ml, .ref mi, .ref mr, .int lh, .int mg, .int wd, .int fpi, .int fal, .ref mm, .ref mu, .ref mk, .ref mx, .long po, .long de])), (mi, .inl (0, 4, .inl ir)), (mr, .inl (3, 16, .inr (.inl gr)))] (fun o cs1 => ∃ (v9 th9 lh9 mg9 wd9 : Int32) (ir9 : Nat → Int32) (gr9 : Nat → Int64), o = .inl (some (.int v9)) ∧ cs1 = [(m, .inr (12, [.int th9, .ref mp, .int pt, .ref mf, .ref mh, .ref mn, .ref mt, .ref mz, .ref mc_, .ref mq, .ref mgr, .int cl, .int wa, .int co_, .int fi, .int bu, .int ho, .ref ml, .ref mi, .ref mr, .int lh9, .int mg9, .int wd9, .int fpi, .int fal, .ref mm, .ref mu, .ref mk, .ref mx, .long po, .long de])), (mi, .inl (0, 4, .inl ir9)), (mr, .inl (3, 16, .inr (.inl gr9)))]) 0 0 := by
  refine z_of (by decide) rfl (Nat.le_of_ble_eq_true rfl) (fun w0 => ?_)
  refine r_lvE (lv2 := [(0, .ref m), (1, .int 103), (2, .int k)]) rfl ?_
  refine r_aload_n d_Mm_poolHas_0 rfl 0 rfl ?_
  refine r_iconst d_Mm_poolHas_1 (v := 0) (by decide) ?_
  refine r_put fp_Mm_84 d_Mm_poolHas_2 (fun h => nomatch h) rfl rfl (q0 := 0) rfl (Nat.le_of_ble_eq_true rfl) (cs' := [(m, .inr (12, [.int 0, .ref mp, .int pt, .ref mf, .ref mh, .ref mn, .ref mt, .ref mz, .ref mc_, .ref mq, .ref mgr, .int cl, .int wa, .int co_, .int fi, .int bu, .int ho, .ref ml, .ref mi, .ref mr, .int lh, .int mg, .int wd, .int fpi, .int fal, .ref mm, .ref mu, .ref mk, .ref mx, .long po, .long de])), (mi, .inl (0, 4, .inl ir)), (mr, .inl (3, 16, .inr (.inl gr)))]) rfl ?_
  refine r_aload_n d_Mm_poolHas_5 rfl 0 rfl ?_
  refine r_iload_n d_Mm_poolHas_6 rfl 1 rfl ?_
  refine r_callS (As := [.int 103]) (rest := [.ref m]) (csC := []) (is := []) ln_Mm_269 w_st_Mm_place ok_Mm_poolHas_Mm_place d_Mm_poolHas_7 (C_Mm_placeG g) rfl rfl (Nat.le_of_ble_eq_true rfl) rfl (by decide) (by omega) (by omega) (fun E cs1 hx => ?_) (fun v cs1 hx => ?_)
  · exact absurd hx.1 (by simp)
  · obtain ⟨e1, rfl⟩ := hx
    cases e1
    refine ⟨rfl, ?_⟩
    refine r_st (st2 := [.int 2, .ref m]) rfl ?_
    refine r_cs (cs2 := [(m, .inr (12, [.int 0, .ref mp, .int pt, .ref mf, .ref mh, .ref mn, .ref mt, .ref mz, .ref mc_, .ref mq, .ref mgr, .int cl, .int wa, .int co_, .int fi, .int bu, .int ho, .ref ml, .ref mi, .ref mr, .int lh, .int mg, .int wd, .int fpi, .int fal, .ref mm, .ref mu, .ref mk, .ref mx, .long po, .long de])), (mi, .inl (0, 4, .inl ir)), (mr, .inl (3, 16, .inr (.inl gr)))]) rfl ?_
    refine r_iconst d_Mm_poolHas_10 (v := (-1)) (by decide) ?_
    refine r_icmp_eq (tgt := 21) d_Mm_poolHas_11 (by decide) (fun c_11 => ?_) (fun c_11 => ?_)
    · exact absurd c_11 (by decide)
    · refine r_iload_n d_Mm_poolHas_14 rfl 2 rfl ?_
      refine r_callS (As := [.int k]) (rest := [.ref m]) (csC := []) (is := []) ln_Mm_246 w_st_Mm_element ok_Mm_poolHas_Mm_element d_Mm_poolHas_15 (C_Mm_element g k) rfl rfl (Nat.le_of_ble_eq_true rfl) rfl (by decide) (by omega) (by omega) (fun E cs1 hx => ?_) (fun v cs1 hx => ?_)
      · exact absurd hx.1 (by simp)
      · obtain ⟨e1, rfl⟩ := hx
        rw [hk] at e1
        cases e1
        refine ⟨rfl, ?_⟩
        refine r_st (st2 := [.int (nI e), .ref m]) rfl ?_
        refine r_cs (cs2 := [(m, .inr (12, [.int 0, .ref mp, .int pt, .ref mf, .ref mh, .ref mn, .ref mt, .ref mz, .ref mc_, .ref mq, .ref mgr, .int cl, .int wa, .int co_, .int fi, .int bu, .int ho, .ref ml, .ref mi, .ref mr, .int lh, .int mg, .int wd, .int fpi, .int fal, .ref mm, .ref mu, .ref mk, .ref mx, .long po, .long de])), (mi, .inl (0, 4, .inl ir)), (mr, .inl (3, 16, .inr (.inl gr)))]) rfl ?_
        refine r_if_ge (tgt := 25) d_Mm_poolHas_18 (by decide) (fun c_18 => ?_) (fun c_18 => ?_)
        · refine r_iconst d_Mm_poolHas_25 (v := 0) (by decide) ?_
          refine r_iconst d_Mm_poolHas_26 (v := 1) (by decide) ?_
          refine r_callV (As := [.int 0, .int 1]) (rest := []) (csC := [(m, .inr (12, [.int 0, .ref mp, .int pt, .ref mf, .ref mh, .ref mn, .ref mt, .ref mz, .ref mc_, .ref mq, .ref mgr, .int cl, .int wa, .int co_, .int fi, .int bu, .int ho, .ref ml, .ref mi, .ref mr, .int lh, .int mg, .int wd, .int fpi, .int fal, .ref mm, .ref mu, .ref mk, .ref mx, .long po, .long de]))]) (is := [0]) (q0 := 0) rfl rfl ln_Mm_103 w_im_Mm_fails w_se_Mm_fails ok_Mm_poolHas_Mm_fails d_Mm_poolHas_27 (C_Mm_fails0 g m mp mf mh mn mt mz mc_ mq mgr ml mi mr mm mu mk mx th pt cl wa co_ fi bu ho lh mg wd fpi fal po de 1) rfl rfl (Nat.le_of_ble_eq_true rfl) rfl (by decide) (by omega) (by omega) (fun E cs1 hx => ?_) (fun v cs1 hx => ?_)
          · exact absurd hx.1 (by simp)
          · obtain ⟨e1, rfl⟩ := hx
            cases e1
            refine ⟨rfl, ?_⟩
            refine r_st (st2 := [.int 0]) rfl ?_
            refine r_cs (cs2 := [(m, .inr (12, [.int 0, .ref mp, .int pt, .ref mf, .ref mh, .ref mn, .ref mt, .ref mz, .ref mc_, .ref mq, .ref mgr, .int cl, .int wa, .int co_, .int fi, .int bu, .int ho, .ref ml, .ref mi, .ref mr, .int lh, .int mg, .int wd, .int fpi, .int fal, .ref mm, .ref mu, .ref mk, .ref mx, .long po, .long de])), (mi, .inl (0, 4, .inl ir)), (mr, .inl (3, 16, .inr (.inl gr)))]) rfl ?_
            refine r_if_ne (tgt := 58) d_Mm_poolHas_30 (by decide) (fun c_30 => ?_) (fun c_30 => ?_)
            · exact absurd c_30 (by decide)
            · refine r_aload_n d_Mm_poolHas_33 rfl 0 rfl ?_
              refine r_aload_n d_Mm_poolHas_34 rfl 0 rfl ?_
              refine r_get fs_Mm_62 d_Mm_poolHas_35 (q0 := 0) rfl rfl ?_
              refine r_iload_n d_Mm_poolHas_38 rfl 1 rfl ?_
              refine r_callS (As := [.int 103]) (rest := [.ref mi, .ref m]) (csC := []) (is := []) ln_Mm_269 w_st_Mm_place ok_Mm_poolHas_Mm_place d_Mm_poolHas_39 (C_Mm_placeG g) rfl rfl (Nat.le_of_ble_eq_true rfl) rfl (by decide) (by omega) (by omega) (fun E cs1 hx => ?_) (fun v cs1 hx => ?_)
              · exact absurd hx.1 (by simp)
              · obtain ⟨e1, rfl⟩ := hx
                cases e1
                refine ⟨rfl, ?_⟩
                refine r_st (st2 := [.int 2, .ref mi, .ref m]) rfl ?_
                refine r_cs (cs2 := [(m, .inr (12, [.int 0, .ref mp, .int pt, .ref mf, .ref mh, .ref mn, .ref mt, .ref mz, .ref mc_, .ref mq, .ref mgr, .int cl, .int wa, .int co_, .int fi, .int bu, .int ho, .ref ml, .ref mi, .ref mr, .int lh, .int mg, .int wd, .int fpi, .int fal, .ref mm, .ref mu, .ref mk, .ref mx, .long po, .long de])), (mi, .inl (0, 4, .inl ir)), (mr, .inl (3, 16, .inr (.inl gr)))]) rfl ?_
                refine r_iald d_Mm_poolHas_42 (q0 := 1) rfl (fun q => q.elim (by decide) (by decide)) (v := ir 2) rfl ?_
                refine r_if_ne (tgt := 50) d_Mm_poolHas_43 (by decide) (fun c_43 => ?_) (fun c_43 => ?_)
                · refine r_iconst d_Mm_poolHas_50 (v := 0) (by decide) ?_
                  refine r_iconst d_Mm_poolHas_51 (v := 2) (by decide) ?_
                  refine r_callV (As := [.int 0, .int 2]) (rest := []) (csC := [(m, .inr (12, [.int 0, .ref mp, .int pt, .ref mf, .ref mh, .ref mn, .ref mt, .ref mz, .ref mc_, .ref mq, .ref mgr, .int cl, .int wa, .int co_, .int fi, .int bu, .int ho, .ref ml, .ref mi, .ref mr, .int lh, .int mg, .int wd, .int fpi, .int fal, .ref mm, .ref mu, .ref mk, .ref mx, .long po, .long de]))]) (is := [0]) (q0 := 0) rfl rfl ln_Mm_103 w_im_Mm_fails w_se_Mm_fails ok_Mm_poolHas_Mm_fails d_Mm_poolHas_52 (C_Mm_fails0 g m mp mf mh mn mt mz mc_ mq mgr ml mi mr mm mu mk mx th pt cl wa co_ fi bu ho lh mg wd fpi fal po de 2) rfl rfl (Nat.le_of_ble_eq_true rfl) rfl (by decide) (by omega) (by omega) (fun E cs1 hx => ?_) (fun v cs1 hx => ?_)
                  · exact absurd hx.1 (by simp)
                  · obtain ⟨e1, rfl⟩ := hx
                    cases e1
                    refine ⟨rfl, ?_⟩
                    refine r_st (st2 := [.int 0]) rfl ?_
                    refine r_cs (cs2 := [(m, .inr (12, [.int 0, .ref mp, .int pt, .ref mf, .ref mh, .ref mn, .ref mt, .ref mz, .ref mc_, .ref mq, .ref mgr, .int cl, .int wa, .int co_, .int fi, .int bu, .int ho, .ref ml, .ref mi, .ref mr, .int lh, .int mg, .int wd, .int fpi, .int fal, .ref mm, .ref mu, .ref mk, .ref mx, .long po, .long de])), (mi, .inl (0, 4, .inl ir)), (mr, .inl (3, 16, .inr (.inl gr)))]) rfl ?_
                    refine r_if_eq (tgt := 60) d_Mm_poolHas_55 (by decide) (fun c_55 => ?_) (fun c_55 => ?_)
                    · refine r_aload_n d_Mm_poolHas_60 rfl 0 rfl ?_
                      refine r_iload_n d_Mm_poolHas_61 rfl 1 rfl ?_
                      refine r_callS (As := [.int 103]) (rest := [.ref m]) (csC := []) (is := []) ln_Mm_269 w_st_Mm_place ok_Mm_poolHas_Mm_place d_Mm_poolHas_62 (C_Mm_placeG g) rfl rfl (Nat.le_of_ble_eq_true rfl) rfl (by decide) (by omega) (by omega) (fun E cs1 hx => ?_) (fun v cs1 hx => ?_)
                      · exact absurd hx.1 (by simp)
                      · obtain ⟨e1, rfl⟩ := hx
                        cases e1
                        refine ⟨rfl, ?_⟩
                        refine r_st (st2 := [.int 2, .ref m]) rfl ?_
                        refine r_cs (cs2 := [(m, .inr (12, [.int 0, .ref mp, .int pt, .ref mf, .ref mh, .ref mn, .ref mt, .ref mz, .ref mc_, .ref mq, .ref mgr, .int cl, .int wa, .int co_, .int fi, .int bu, .int ho, .ref ml, .ref mi, .ref mr, .int lh, .int mg, .int wd, .int fpi, .int fal, .ref mm, .ref mu, .ref mk, .ref mx, .long po, .long de])), (mi, .inl (0, 4, .inl ir)), (mr, .inl (3, 16, .inr (.inl gr)))]) rfl ?_
                        refine r_iload_n d_Mm_poolHas_65 rfl 2 rfl ?_
                        refine r_callS (As := [.int k]) (rest := [.int 2, .ref m]) (csC := []) (is := []) ln_Mm_246 w_st_Mm_element ok_Mm_poolHas_Mm_element d_Mm_poolHas_66 (C_Mm_element g k) rfl rfl (Nat.le_of_ble_eq_true rfl) rfl (by decide) (by omega) (by omega) (fun E cs1 hx => ?_) (fun v cs1 hx => ?_)
                        · exact absurd hx.1 (by simp)
                        · obtain ⟨e1, rfl⟩ := hx
                          rw [hk] at e1
                          cases e1
                          refine ⟨rfl, ?_⟩
                          refine r_st (st2 := [.int (nI e), .int 2, .ref m]) rfl ?_
                          refine r_cs (cs2 := [(m, .inr (12, [.int 0, .ref mp, .int pt, .ref mf, .ref mh, .ref mn, .ref mt, .ref mz, .ref mc_, .ref mq, .ref mgr, .int cl, .int wa, .int co_, .int fi, .int bu, .int ho, .ref ml, .ref mi, .ref mr, .int lh, .int mg, .int wd, .int fpi, .int fal, .ref mm, .ref mu, .ref mk, .ref mx, .long po, .long de])), (mi, .inl (0, 4, .inl ir)), (mr, .inl (3, 16, .inr (.inl gr)))]) rfl ?_
                          refine r_callV (As := [.int 2, .int (nI e)]) (rest := []) (csC := [(m, .inr (12, [.int 0, .ref mp, .int pt, .ref mf, .ref mh, .ref mn, .ref mt, .ref mz, .ref mc_, .ref mq, .ref mgr, .int cl, .int wa, .int co_, .int fi, .int bu, .int ho, .ref ml, .ref mi, .ref mr, .int lh, .int mg, .int wd, .int fpi, .int fal, .ref mm, .ref mu, .ref mk, .ref mx, .long po, .long de])), (mi, .inl (0, 4, .inl ir)), (mr, .inl (3, 16, .inr (.inl gr)))]) (is := [0, 1, 2]) (q0 := 0) rfl rfl ln_Mm_250 w_im_Mm_percent w_se_Mm_percent ok_Mm_poolHas_Mm_percent d_Mm_poolHas_69 (C_Mm_percentW g m mp mf mh mn mt mz mc_ mq mgr ml mi mr mm mu mk mx 0 pt cl wa co_ fi bu ho lh mg wd fpi fal po de ir gr 2 e (by decide) he c_43) rfl rfl (Nat.le_of_ble_eq_true rfl) rfl (by decide) (by omega) (by omega) (fun E cs1 hx => ?_) (fun v cs1 hx => ?_)
                          · obtain ⟨v9, e1, -⟩ := hx
                            cases e1
                          · obtain ⟨v9, e1, rfl⟩ := hx
                            cases e1
                            refine ⟨rfl, ?_⟩
                            refine r_st (st2 := [.int v9]) rfl ?_
                            refine r_cs (cs2 := [(m, .inr (12, [.int 0, .ref mp, .int pt, .ref mf, .ref mh, .ref mn, .ref mt, .ref mz, .ref mc_, .ref mq, .ref mgr, .int cl, .int wa, .int co_, .int fi, .int bu, .int ho, .ref ml, .ref mi, .ref mr, .int lh, .int mg, .int wd, .int fpi, .int fal, .ref mm, .ref mu, .ref mk, .ref mx, .long po, .long de])), (mi, .inl (0, 4, .inl ir)), (mr, .inl (3, 16, .inr (.inl gr)))]) rfl ?_
                            refine r_iret d_Mm_poolHas_72 rfl rfl ?_
                            exact ⟨_, _, _, _, _, _, _, rfl, rfl⟩
                    · exact absurd c_55 (by decide)
                · refine r_iconst d_Mm_poolHas_46 (v := 1) (by decide) ?_
                  refine r_goto (tgt := 51) d_Mm_poolHas_47 (by decide) ?_
                  refine r_iconst d_Mm_poolHas_51 (v := 2) (by decide) ?_
                  refine r_callV (As := [.int 1, .int 2]) (rest := []) (csC := [(m, .inr (12, [.int 0, .ref mp, .int pt, .ref mf, .ref mh, .ref mn, .ref mt, .ref mz, .ref mc_, .ref mq, .ref mgr, .int cl, .int wa, .int co_, .int fi, .int bu, .int ho, .ref ml, .ref mi, .ref mr, .int lh, .int mg, .int wd, .int fpi, .int fal, .ref mm, .ref mu, .ref mk, .ref mx, .long po, .long de]))]) (is := [0]) (q0 := 0) rfl rfl ln_Mm_103 w_im_Mm_fails w_se_Mm_fails ok_Mm_poolHas_Mm_fails d_Mm_poolHas_52 (C_Mm_fails2 g m mp mf mh mn mt mz mc_ mq mgr ml mi mr mm mu mk mx th pt cl wa co_ fi bu ho lh mg wd fpi fal po de) rfl rfl (Nat.le_of_ble_eq_true rfl) rfl (by decide) (by omega) (by omega) (fun E cs1 hx => ?_) (fun v cs1 hx => ?_)
                  · exact absurd hx.1 (by simp)
                  · obtain ⟨e1, rfl⟩ := hx
                    cases e1
                    refine ⟨rfl, ?_⟩
                    refine r_st (st2 := [.int 1]) rfl ?_
                    refine r_cs (cs2 := [(m, .inr (12, [.int 2, .ref mp, .int pt, .ref mf, .ref mh, .ref mn, .ref mt, .ref mz, .ref mc_, .ref mq, .ref mgr, .int cl, .int wa, .int co_, .int fi, .int bu, .int ho, .ref ml, .ref mi, .ref mr, .int lh, .int mg, .int wd, .int fpi, .int fal, .ref mm, .ref mu, .ref mk, .ref mx, .long po, .long de])), (mi, .inl (0, 4, .inl ir)), (mr, .inl (3, 16, .inr (.inl gr)))]) rfl ?_
                    refine r_if_eq (tgt := 60) d_Mm_poolHas_55 (by decide) (fun c_55 => ?_) (fun c_55 => ?_)
                    · exact absurd c_55 (by decide)
                    · refine r_iconst d_Mm_poolHas_58 (v := 0) (by decide) ?_
                      refine r_iret d_Mm_poolHas_59 rfl rfl ?_
                      exact ⟨_, _, _, _, _, _, _, rfl, rfl⟩
        · exact absurd (Int32.not_le.mp c_18) (nI_nneg (by omega))
set_option maxHeartbeats 4000000 in
set_option maxRecDepth 100000 in
theorem C_Mm_poolHas100W (g : zG) (m mp mf mh mn mt mz mc_ mq mgr ml mi mr mm mu mk mx : Nat) (th pt cl wa co_ fi bu ho lh mg wd fpi fal : Int32) (po de : Int64) (ir : Nat → Int32) (gr : Nat → Int64) (k : Int32) (e : Nat) (he : e < 4) (hk : z_ix 2 k = nI e) (hk2 : ¬ z_ix 2 k < 0) : CT g M_Mm_poolHas [.ref m, .int 100, .int k] [(m, .inr (12, [.int th, .ref mp, .int pt, .ref mf, .ref mh, .ref mn, .ref mt, .ref mz, .ref mc_, .ref mq, .ref mgr, .int cl, .int wa, .int co_, .int fi, .int bu, .int ho, .ref ml, .ref mi, .ref mr, .int lh, .int mg, .int wd, .int fpi, .int fal, .ref mm, .ref mu, .ref mk, .ref mx, .long po, .long de])), (mi, .inl (0, 4, .inl ir)), (mr, .inl (3, 16, .inr (.inl gr)))] (fun o cs1 => ∃ (v9 th9 lh9 mg9 wd9 : Int32) (ir9 : Nat → Int32) (gr9 : Nat → Int64), o = .inl (some (.int v9)) ∧ cs1 = [(m, .inr (12, [.int th9, .ref mp, .int pt, .ref mf, .ref mh, .ref mn, .ref mt, .ref mz, .ref mc_, .ref mq, .ref mgr, .int cl, .int wa, .int co_, .int fi, .int bu, .int ho, .ref ml, .ref mi, .ref mr, .int lh9, .int mg9, .int wd9, .int fpi, .int fal, .ref mm, .ref mu, .ref mk, .ref mx, .long po, .long de])), (mi, .inl (0, 4, .inl ir9)), (mr, .inl (3, 16, .inr (.inl gr9)))]) 0 0 := by
  refine z_of (by decide) rfl (Nat.le_of_ble_eq_true rfl) (fun w0 => ?_)
  refine r_lvE (lv2 := [(0, .ref m), (1, .int 100), (2, .int k)]) rfl ?_
  refine r_aload_n d_Mm_poolHas_0 rfl 0 rfl ?_
  refine r_iconst d_Mm_poolHas_1 (v := 0) (by decide) ?_
  refine r_put fp_Mm_84 d_Mm_poolHas_2 (fun h => nomatch h) rfl rfl (q0 := 0) rfl (Nat.le_of_ble_eq_true rfl) (cs' := [(m, .inr (12, [.int 0, .ref mp, .int pt, .ref mf, .ref mh, .ref mn, .ref mt, .ref mz, .ref mc_, .ref mq, .ref mgr, .int cl, .int wa, .int co_, .int fi, .int bu, .int ho, .ref ml, .ref mi, .ref mr, .int lh, .int mg, .int wd, .int fpi, .int fal, .ref mm, .ref mu, .ref mk, .ref mx, .long po, .long de])), (mi, .inl (0, 4, .inl ir)), (mr, .inl (3, 16, .inr (.inl gr)))]) rfl ?_
  refine r_aload_n d_Mm_poolHas_5 rfl 0 rfl ?_
  refine r_iload_n d_Mm_poolHas_6 rfl 1 rfl ?_
  refine r_callS (As := [.int 100]) (rest := [.ref m]) (csC := []) (is := []) ln_Mm_269 w_st_Mm_place ok_Mm_poolHas_Mm_place d_Mm_poolHas_7 (C_Mm_placeD g) rfl rfl (Nat.le_of_ble_eq_true rfl) rfl (by decide) (by omega) (by omega) (fun E cs1 hx => ?_) (fun v cs1 hx => ?_)
  · exact absurd hx.1 (by simp)
  · obtain ⟨e1, rfl⟩ := hx
    cases e1
    refine ⟨rfl, ?_⟩
    refine r_st (st2 := [.int 3, .ref m]) rfl ?_
    refine r_cs (cs2 := [(m, .inr (12, [.int 0, .ref mp, .int pt, .ref mf, .ref mh, .ref mn, .ref mt, .ref mz, .ref mc_, .ref mq, .ref mgr, .int cl, .int wa, .int co_, .int fi, .int bu, .int ho, .ref ml, .ref mi, .ref mr, .int lh, .int mg, .int wd, .int fpi, .int fal, .ref mm, .ref mu, .ref mk, .ref mx, .long po, .long de])), (mi, .inl (0, 4, .inl ir)), (mr, .inl (3, 16, .inr (.inl gr)))]) rfl ?_
    refine r_iconst d_Mm_poolHas_10 (v := (-1)) (by decide) ?_
    refine r_icmp_eq (tgt := 21) d_Mm_poolHas_11 (by decide) (fun c_11 => ?_) (fun c_11 => ?_)
    · exact absurd c_11 (by decide)
    · refine r_iload_n d_Mm_poolHas_14 rfl 2 rfl ?_
      refine r_callS (As := [.int k]) (rest := [.ref m]) (csC := []) (is := []) ln_Mm_246 w_st_Mm_element ok_Mm_poolHas_Mm_element d_Mm_poolHas_15 (C_Mm_element g k) rfl rfl (Nat.le_of_ble_eq_true rfl) rfl (by decide) (by omega) (by omega) (fun E cs1 hx => ?_) (fun v cs1 hx => ?_)
      · exact absurd hx.1 (by simp)
      · obtain ⟨e1, rfl⟩ := hx
        rw [hk] at e1
        cases e1
        refine ⟨rfl, ?_⟩
        refine r_st (st2 := [.int (nI e), .ref m]) rfl ?_
        refine r_cs (cs2 := [(m, .inr (12, [.int 0, .ref mp, .int pt, .ref mf, .ref mh, .ref mn, .ref mt, .ref mz, .ref mc_, .ref mq, .ref mgr, .int cl, .int wa, .int co_, .int fi, .int bu, .int ho, .ref ml, .ref mi, .ref mr, .int lh, .int mg, .int wd, .int fpi, .int fal, .ref mm, .ref mu, .ref mk, .ref mx, .long po, .long de])), (mi, .inl (0, 4, .inl ir)), (mr, .inl (3, 16, .inr (.inl gr)))]) rfl ?_
        refine r_if_ge (tgt := 25) d_Mm_poolHas_18 (by decide) (fun c_18 => ?_) (fun c_18 => ?_)
        · refine r_iconst d_Mm_poolHas_25 (v := 0) (by decide) ?_
          refine r_iconst d_Mm_poolHas_26 (v := 1) (by decide) ?_
          refine r_callV (As := [.int 0, .int 1]) (rest := []) (csC := [(m, .inr (12, [.int 0, .ref mp, .int pt, .ref mf, .ref mh, .ref mn, .ref mt, .ref mz, .ref mc_, .ref mq, .ref mgr, .int cl, .int wa, .int co_, .int fi, .int bu, .int ho, .ref ml, .ref mi, .ref mr, .int lh, .int mg, .int wd, .int fpi, .int fal, .ref mm, .ref mu, .ref mk, .ref mx, .long po, .long de]))]) (is := [0]) (q0 := 0) rfl rfl ln_Mm_103 w_im_Mm_fails w_se_Mm_fails ok_Mm_poolHas_Mm_fails d_Mm_poolHas_27 (C_Mm_fails0 g m mp mf mh mn mt mz mc_ mq mgr ml mi mr mm mu mk mx th pt cl wa co_ fi bu ho lh mg wd fpi fal po de 1) rfl rfl (Nat.le_of_ble_eq_true rfl) rfl (by decide) (by omega) (by omega) (fun E cs1 hx => ?_) (fun v cs1 hx => ?_)
          · exact absurd hx.1 (by simp)
          · obtain ⟨e1, rfl⟩ := hx
            cases e1
            refine ⟨rfl, ?_⟩
            refine r_st (st2 := [.int 0]) rfl ?_
            refine r_cs (cs2 := [(m, .inr (12, [.int 0, .ref mp, .int pt, .ref mf, .ref mh, .ref mn, .ref mt, .ref mz, .ref mc_, .ref mq, .ref mgr, .int cl, .int wa, .int co_, .int fi, .int bu, .int ho, .ref ml, .ref mi, .ref mr, .int lh, .int mg, .int wd, .int fpi, .int fal, .ref mm, .ref mu, .ref mk, .ref mx, .long po, .long de])), (mi, .inl (0, 4, .inl ir)), (mr, .inl (3, 16, .inr (.inl gr)))]) rfl ?_
            refine r_if_ne (tgt := 58) d_Mm_poolHas_30 (by decide) (fun c_30 => ?_) (fun c_30 => ?_)
            · exact absurd c_30 (by decide)
            · refine r_aload_n d_Mm_poolHas_33 rfl 0 rfl ?_
              refine r_aload_n d_Mm_poolHas_34 rfl 0 rfl ?_
              refine r_get fs_Mm_62 d_Mm_poolHas_35 (q0 := 0) rfl rfl ?_
              refine r_iload_n d_Mm_poolHas_38 rfl 1 rfl ?_
              refine r_callS (As := [.int 100]) (rest := [.ref mi, .ref m]) (csC := []) (is := []) ln_Mm_269 w_st_Mm_place ok_Mm_poolHas_Mm_place d_Mm_poolHas_39 (C_Mm_placeD g) rfl rfl (Nat.le_of_ble_eq_true rfl) rfl (by decide) (by omega) (by omega) (fun E cs1 hx => ?_) (fun v cs1 hx => ?_)
              · exact absurd hx.1 (by simp)
              · obtain ⟨e1, rfl⟩ := hx
                cases e1
                refine ⟨rfl, ?_⟩
                refine r_st (st2 := [.int 3, .ref mi, .ref m]) rfl ?_
                refine r_cs (cs2 := [(m, .inr (12, [.int 0, .ref mp, .int pt, .ref mf, .ref mh, .ref mn, .ref mt, .ref mz, .ref mc_, .ref mq, .ref mgr, .int cl, .int wa, .int co_, .int fi, .int bu, .int ho, .ref ml, .ref mi, .ref mr, .int lh, .int mg, .int wd, .int fpi, .int fal, .ref mm, .ref mu, .ref mk, .ref mx, .long po, .long de])), (mi, .inl (0, 4, .inl ir)), (mr, .inl (3, 16, .inr (.inl gr)))]) rfl ?_
                refine r_iald d_Mm_poolHas_42 (q0 := 1) rfl (fun q => q.elim (by decide) (by decide)) (v := ir 3) rfl ?_
                refine r_if_ne (tgt := 50) d_Mm_poolHas_43 (by decide) (fun c_43 => ?_) (fun c_43 => ?_)
                · refine r_iconst d_Mm_poolHas_50 (v := 0) (by decide) ?_
                  refine r_iconst d_Mm_poolHas_51 (v := 2) (by decide) ?_
                  refine r_callV (As := [.int 0, .int 2]) (rest := []) (csC := [(m, .inr (12, [.int 0, .ref mp, .int pt, .ref mf, .ref mh, .ref mn, .ref mt, .ref mz, .ref mc_, .ref mq, .ref mgr, .int cl, .int wa, .int co_, .int fi, .int bu, .int ho, .ref ml, .ref mi, .ref mr, .int lh, .int mg, .int wd, .int fpi, .int fal, .ref mm, .ref mu, .ref mk, .ref mx, .long po, .long de]))]) (is := [0]) (q0 := 0) rfl rfl ln_Mm_103 w_im_Mm_fails w_se_Mm_fails ok_Mm_poolHas_Mm_fails d_Mm_poolHas_52 (C_Mm_fails0 g m mp mf mh mn mt mz mc_ mq mgr ml mi mr mm mu mk mx th pt cl wa co_ fi bu ho lh mg wd fpi fal po de 2) rfl rfl (Nat.le_of_ble_eq_true rfl) rfl (by decide) (by omega) (by omega) (fun E cs1 hx => ?_) (fun v cs1 hx => ?_)
                  · exact absurd hx.1 (by simp)
                  · obtain ⟨e1, rfl⟩ := hx
                    cases e1
                    refine ⟨rfl, ?_⟩
                    refine r_st (st2 := [.int 0]) rfl ?_
                    refine r_cs (cs2 := [(m, .inr (12, [.int 0, .ref mp, .int pt, .ref mf, .ref mh, .ref mn, .ref mt, .ref mz, .ref mc_, .ref mq, .ref mgr, .int cl, .int wa, .int co_, .int fi, .int bu, .int ho, .ref ml, .ref mi, .ref mr, .int lh, .int mg, .int wd, .int fpi, .int fal, .ref mm, .ref mu, .ref mk, .ref mx, .long po, .long de])), (mi, .inl (0, 4, .inl ir)), (mr, .inl (3, 16, .inr (.inl gr)))]) rfl ?_
                    refine r_if_eq (tgt := 60) d_Mm_poolHas_55 (by decide) (fun c_55 => ?_) (fun c_55 => ?_)
                    · refine r_aload_n d_Mm_poolHas_60 rfl 0 rfl ?_
                      refine r_iload_n d_Mm_poolHas_61 rfl 1 rfl ?_
                      refine r_callS (As := [.int 100]) (rest := [.ref m]) (csC := []) (is := []) ln_Mm_269 w_st_Mm_place ok_Mm_poolHas_Mm_place d_Mm_poolHas_62 (C_Mm_placeD g) rfl rfl (Nat.le_of_ble_eq_true rfl) rfl (by decide) (by omega) (by omega) (fun E cs1 hx => ?_) (fun v cs1 hx => ?_)
                      · exact absurd hx.1 (by simp)
                      · obtain ⟨e1, rfl⟩ := hx
                        cases e1
                        refine ⟨rfl, ?_⟩
                        refine r_st (st2 := [.int 3, .ref m]) rfl ?_
                        refine r_cs (cs2 := [(m, .inr (12, [.int 0, .ref mp, .int pt, .ref mf, .ref mh, .ref mn, .ref mt, .ref mz, .ref mc_, .ref mq, .ref mgr, .int cl, .int wa, .int co_, .int fi, .int bu, .int ho, .ref ml, .ref mi, .ref mr, .int lh, .int mg, .int wd, .int fpi, .int fal, .ref mm, .ref mu, .ref mk, .ref mx, .long po, .long de])), (mi, .inl (0, 4, .inl ir)), (mr, .inl (3, 16, .inr (.inl gr)))]) rfl ?_
                        refine r_iload_n d_Mm_poolHas_65 rfl 2 rfl ?_
                        refine r_callS (As := [.int k]) (rest := [.int 3, .ref m]) (csC := []) (is := []) ln_Mm_246 w_st_Mm_element ok_Mm_poolHas_Mm_element d_Mm_poolHas_66 (C_Mm_element g k) rfl rfl (Nat.le_of_ble_eq_true rfl) rfl (by decide) (by omega) (by omega) (fun E cs1 hx => ?_) (fun v cs1 hx => ?_)
                        · exact absurd hx.1 (by simp)
                        · obtain ⟨e1, rfl⟩ := hx
                          rw [hk] at e1
                          cases e1
                          refine ⟨rfl, ?_⟩
                          refine r_st (st2 := [.int (nI e), .int 3, .ref m]) rfl ?_
                          refine r_cs (cs2 := [(m, .inr (12, [.int 0, .ref mp, .int pt, .ref mf, .ref mh, .ref mn, .ref mt, .ref mz, .ref mc_, .ref mq, .ref mgr, .int cl, .int wa, .int co_, .int fi, .int bu, .int ho, .ref ml, .ref mi, .ref mr, .int lh, .int mg, .int wd, .int fpi, .int fal, .ref mm, .ref mu, .ref mk, .ref mx, .long po, .long de])), (mi, .inl (0, 4, .inl ir)), (mr, .inl (3, 16, .inr (.inl gr)))]) rfl ?_
                          refine r_callV (As := [.int 3, .int (nI e)]) (rest := []) (csC := [(m, .inr (12, [.int 0, .ref mp, .int pt, .ref mf, .ref mh, .ref mn, .ref mt, .ref mz, .ref mc_, .ref mq, .ref mgr, .int cl, .int wa, .int co_, .int fi, .int bu, .int ho, .ref ml, .ref mi, .ref mr, .int lh, .int mg, .int wd, .int fpi, .int fal, .ref mm, .ref mu, .ref mk, .ref mx, .long po, .long de])), (mi, .inl (0, 4, .inl ir)), (mr, .inl (3, 16, .inr (.inl gr)))]) (is := [0, 1, 2]) (q0 := 0) rfl rfl ln_Mm_250 w_im_Mm_percent w_se_Mm_percent ok_Mm_poolHas_Mm_percent d_Mm_poolHas_69 (C_Mm_percentW g m mp mf mh mn mt mz mc_ mq mgr ml mi mr mm mu mk mx 0 pt cl wa co_ fi bu ho lh mg wd fpi fal po de ir gr 3 e (by decide) he c_43) rfl rfl (Nat.le_of_ble_eq_true rfl) rfl (by decide) (by omega) (by omega) (fun E cs1 hx => ?_) (fun v cs1 hx => ?_)
                          · obtain ⟨v9, e1, -⟩ := hx
                            cases e1
                          · obtain ⟨v9, e1, rfl⟩ := hx
                            cases e1
                            refine ⟨rfl, ?_⟩
                            refine r_st (st2 := [.int v9]) rfl ?_
                            refine r_cs (cs2 := [(m, .inr (12, [.int 0, .ref mp, .int pt, .ref mf, .ref mh, .ref mn, .ref mt, .ref mz, .ref mc_, .ref mq, .ref mgr, .int cl, .int wa, .int co_, .int fi, .int bu, .int ho, .ref ml, .ref mi, .ref mr, .int lh, .int mg, .int wd, .int fpi, .int fal, .ref mm, .ref mu, .ref mk, .ref mx, .long po, .long de])), (mi, .inl (0, 4, .inl ir)), (mr, .inl (3, 16, .inr (.inl gr)))]) rfl ?_
                            refine r_iret d_Mm_poolHas_72 rfl rfl ?_
                            exact ⟨_, _, _, _, _, _, _, rfl, rfl⟩
                    · exact absurd c_55 (by decide)
                · refine r_iconst d_Mm_poolHas_46 (v := 1) (by decide) ?_
                  refine r_goto (tgt := 51) d_Mm_poolHas_47 (by decide) ?_
                  refine r_iconst d_Mm_poolHas_51 (v := 2) (by decide) ?_
                  refine r_callV (As := [.int 1, .int 2]) (rest := []) (csC := [(m, .inr (12, [.int 0, .ref mp, .int pt, .ref mf, .ref mh, .ref mn, .ref mt, .ref mz, .ref mc_, .ref mq, .ref mgr, .int cl, .int wa, .int co_, .int fi, .int bu, .int ho, .ref ml, .ref mi, .ref mr, .int lh, .int mg, .int wd, .int fpi, .int fal, .ref mm, .ref mu, .ref mk, .ref mx, .long po, .long de]))]) (is := [0]) (q0 := 0) rfl rfl ln_Mm_103 w_im_Mm_fails w_se_Mm_fails ok_Mm_poolHas_Mm_fails d_Mm_poolHas_52 (C_Mm_fails2 g m mp mf mh mn mt mz mc_ mq mgr ml mi mr mm mu mk mx th pt cl wa co_ fi bu ho lh mg wd fpi fal po de) rfl rfl (Nat.le_of_ble_eq_true rfl) rfl (by decide) (by omega) (by omega) (fun E cs1 hx => ?_) (fun v cs1 hx => ?_)
                  · exact absurd hx.1 (by simp)
                  · obtain ⟨e1, rfl⟩ := hx
                    cases e1
                    refine ⟨rfl, ?_⟩
                    refine r_st (st2 := [.int 1]) rfl ?_
                    refine r_cs (cs2 := [(m, .inr (12, [.int 2, .ref mp, .int pt, .ref mf, .ref mh, .ref mn, .ref mt, .ref mz, .ref mc_, .ref mq, .ref mgr, .int cl, .int wa, .int co_, .int fi, .int bu, .int ho, .ref ml, .ref mi, .ref mr, .int lh, .int mg, .int wd, .int fpi, .int fal, .ref mm, .ref mu, .ref mk, .ref mx, .long po, .long de])), (mi, .inl (0, 4, .inl ir)), (mr, .inl (3, 16, .inr (.inl gr)))]) rfl ?_
                    refine r_if_eq (tgt := 60) d_Mm_poolHas_55 (by decide) (fun c_55 => ?_) (fun c_55 => ?_)
                    · exact absurd c_55 (by decide)
                    · refine r_iconst d_Mm_poolHas_58 (v := 0) (by decide) ?_
                      refine r_iret d_Mm_poolHas_59 rfl rfl ?_
                      exact ⟨_, _, _, _, _, _, _, rfl, rfl⟩
        · exact absurd (Int32.not_le.mp c_18) (nI_nneg (by omega))
theorem d_Mm_ladle_43 : decode prog_14_method_65_code 43 = .ok (.iload_n 1, 1) := by decide +kernel
theorem d_Mm_ladle_44 : decode prog_14_method_65_code 44 = .ok (.bipush 119, 2) := by decide +kernel
theorem d_Mm_ladle_46 : decode prog_14_method_65_code 46 = .ok (.if_icmp .ne 12, 3) := by decide +kernel
theorem d_Mm_ladle_58 : decode prog_14_method_65_code 58 = .ok (.iload_n 1, 1) := by decide +kernel
theorem d_Mm_ladle_59 : decode prog_14_method_65_code 59 = .ok (.bipush 104, 2) := by decide +kernel
theorem d_Mm_ladle_61 : decode prog_14_method_65_code 61 = .ok (.if_icmp .ne 10, 3) := by decide +kernel
theorem d_Mm_ladle_71 : decode prog_14_method_65_code 71 = .ok (.aload_n 0, 1) := by decide +kernel
theorem d_Mm_ladle_72 : decode prog_14_method_65_code 72 = .ok (.getfield 260, 3) := by decide +kernel
theorem d_Mm_ladle_64 : decode prog_14_method_65_code 64 = .ok (.aload_n 0, 1) := by decide +kernel
theorem d_Mm_ladle_65 : decode prog_14_method_65_code 65 = .ok (.getfield 257, 3) := by decide +kernel
theorem fs_Mm_257 : z_fs "IronpourModel" 257 12 20 := ⟨R_Mm, "IronpourModel", F_Mm, 31, rfl, u_Mm, by decide, Or.inl ⟨z_mem (i := 1600) (by decide +kernel) (by decide +kernel), Or.inl rfl⟩⟩
theorem d_Mm_ladle_68 : decode prog_14_method_65_code 68 = .ok (.goto 7, 3) := by decide +kernel
theorem d_Mm_ladle_49 : decode prog_14_method_65_code 49 = .ok (.aload_n 0, 1) := by decide +kernel
theorem d_Mm_ladle_50 : decode prog_14_method_65_code 50 = .ok (.getfield 62, 3) := by decide +kernel
theorem d_Mm_ladle_53 : decode prog_14_method_65_code 53 = .ok (.iconst 1, 1) := by decide +kernel
theorem d_Mm_ladle_54 : decode prog_14_method_65_code 54 = .ok (.iaload, 1) := by decide +kernel
theorem d_Mm_ladle_55 : decode prog_14_method_65_code 55 = .ok (.goto 20, 3) := by decide +kernel
set_option maxHeartbeats 4000000 in
set_option maxRecDepth 100000 in
theorem C_Mm_ladleW (g : zG) (m mp mf mh mn mt mz mc_ mq mgr ml mi mr mm mu mk mx : Nat) (th pt cl wa co_ fi bu ho lh mg wd fpi fal : Int32) (po de : Int64) (ir : Nat → Int32) (gr : Nat → Int64) (w : Int32) (hw : ¬ z_ix 3 w < 0) : CT g M_Mm_ladle [.ref m, .int w] [(m, .inr (12, [.int th, .ref mp, .int pt, .ref mf, .ref mh, .ref mn, .ref mt, .ref mz, .ref mc_, .ref mq, .ref mgr, .int cl, .int wa, .int co_, .int fi, .int bu, .int ho, .ref ml, .ref mi, .ref mr, .int lh, .int mg, .int wd, .int fpi, .int fal, .ref mm, .ref mu, .ref mk, .ref mx, .long po, .long de])), (mi, .inl (0, 4, .inl ir)), (mr, .inl (3, 16, .inr (.inl gr)))] (fun o cs1 => ∃ (v9 th9 lh9 mg9 wd9 : Int32) (ir9 : Nat → Int32) (gr9 : Nat → Int64), o = .inl (some (.int v9)) ∧ cs1 = [(m, .inr (12, [.int th9, .ref mp, .int pt, .ref mf, .ref mh, .ref mn, .ref mt, .ref mz, .ref mc_, .ref mq, .ref mgr, .int cl, .int wa, .int co_, .int fi, .int bu, .int ho, .ref ml, .ref mi, .ref mr, .int lh9, .int mg9, .int wd9, .int fpi, .int fal, .ref mm, .ref mu, .ref mk, .ref mx, .long po, .long de])), (mi, .inl (0, 4, .inl ir9)), (mr, .inl (3, 16, .inr (.inl gr9)))]) 0 0 := by
  refine z_of (by decide) rfl (Nat.le_of_ble_eq_true rfl) (fun w0 => ?_)
  refine r_lvE (lv2 := [(0, .ref m), (1, .int w)]) rfl ?_
  refine r_aload_n d_Mm_ladle_0 rfl 0 rfl ?_
  refine r_iconst d_Mm_ladle_1 (v := 0) (by decide) ?_
  refine r_put fp_Mm_84 d_Mm_ladle_2 (fun h => nomatch h) rfl rfl (q0 := 0) rfl (Nat.le_of_ble_eq_true rfl) (cs' := [(m, .inr (12, [.int 0, .ref mp, .int pt, .ref mf, .ref mh, .ref mn, .ref mt, .ref mz, .ref mc_, .ref mq, .ref mgr, .int cl, .int wa, .int co_, .int fi, .int bu, .int ho, .ref ml, .ref mi, .ref mr, .int lh, .int mg, .int wd, .int fpi, .int fal, .ref mm, .ref mu, .ref mk, .ref mx, .long po, .long de])), (mi, .inl (0, 4, .inl ir)), (mr, .inl (3, 16, .inr (.inl gr)))]) rfl ?_
  refine r_aload_n d_Mm_ladle_5 rfl 0 rfl ?_
  refine r_ldcWS (own := "IronpourModel") (i := 3) (by decide) d_Mm_ladle_6 ?_
  refine r_iload_n d_Mm_ladle_9 rfl 1 rfl ?_
  refine r_callVS (As := [.int w]) (rest := [.ref m]) (csC := []) (is := []) (i := 3) (by first | assumption | decide) rfl ln_Mm_97 w_im_String_indexOf_0 w_se_String_indexOf_0 ok_Mm_ladle_String_indexOf_0 d_Mm_ladle_10 (C_St_indexOf g 3 (by decide) w) rfl rfl (Nat.le_of_ble_eq_true rfl) rfl (by decide) (by omega) (by omega) (fun E cs1 hx => ?_) (fun v cs1 hx => ?_)
  · exact absurd hx.1 (by simp)
  · obtain ⟨e1, rfl⟩ := hx
    cases e1
    refine ⟨rfl, ?_⟩
    refine r_st (st2 := [.int (z_ix 3 w), .ref m]) rfl ?_
    refine r_cs (cs2 := [(m, .inr (12, [.int 0, .ref mp, .int pt, .ref mf, .ref mh, .ref mn, .ref mt, .ref mz, .ref mc_, .ref mq, .ref mgr, .int cl, .int wa, .int co_, .int fi, .int bu, .int ho, .ref ml, .ref mi, .ref mr, .int lh, .int mg, .int wd, .int fpi, .int fal, .ref mm, .ref mu, .ref mk, .ref mx, .long po, .long de])), (mi, .inl (0, 4, .inl ir)), (mr, .inl (3, 16, .inr (.inl gr)))]) rfl ?_
    refine r_if_ge (tgt := 20) d_Mm_ladle_13 (by decide) (fun c_13 => ?_) (fun c_13 => ?_)
    · refine r_iconst d_Mm_ladle_20 (v := 0) (by decide) ?_
      refine r_iconst d_Mm_ladle_21 (v := 1) (by decide) ?_
      refine r_callV (As := [.int 0, .int 1]) (rest := []) (csC := [(m, .inr (12, [.int 0, .ref mp, .int pt, .ref mf, .ref mh, .ref mn, .ref mt, .ref mz, .ref mc_, .ref mq, .ref mgr, .int cl, .int wa, .int co_, .int fi, .int bu, .int ho, .ref ml, .ref mi, .ref mr, .int lh, .int mg, .int wd, .int fpi, .int fal, .ref mm, .ref mu, .ref mk, .ref mx, .long po, .long de]))]) (is := [0]) (q0 := 0) rfl rfl ln_Mm_103 w_im_Mm_fails w_se_Mm_fails ok_Mm_ladle_Mm_fails d_Mm_ladle_22 (C_Mm_fails0 g m mp mf mh mn mt mz mc_ mq mgr ml mi mr mm mu mk mx th pt cl wa co_ fi bu ho lh mg wd fpi fal po de 1) rfl rfl (Nat.le_of_ble_eq_true rfl) rfl (by decide) (by omega) (by omega) (fun E cs1 hx => ?_) (fun v cs1 hx => ?_)
      · exact absurd hx.1 (by simp)
      · obtain ⟨e1, rfl⟩ := hx
        cases e1
        refine ⟨rfl, ?_⟩
        refine r_st (st2 := [.int 0]) rfl ?_
        refine r_cs (cs2 := [(m, .inr (12, [.int 0, .ref mp, .int pt, .ref mf, .ref mh, .ref mn, .ref mt, .ref mz, .ref mc_, .ref mq, .ref mgr, .int cl, .int wa, .int co_, .int fi, .int bu, .int ho, .ref ml, .ref mi, .ref mr, .int lh, .int mg, .int wd, .int fpi, .int fal, .ref mm, .ref mu, .ref mk, .ref mx, .long po, .long de])), (mi, .inl (0, 4, .inl ir)), (mr, .inl (3, 16, .inr (.inl gr)))]) rfl ?_
        refine r_if_eq (tgt := 30) d_Mm_ladle_25 (by decide) (fun c_25 => ?_) (fun c_25 => ?_)
        · refine r_aload_n d_Mm_ladle_30 rfl 0 rfl ?_
          refine r_get fs_Mm_62 d_Mm_ladle_31 (q0 := 0) rfl rfl ?_
          refine r_iconst d_Mm_ladle_34 (v := 1) (by decide) ?_
          refine r_iald d_Mm_ladle_35 (q0 := 1) rfl (fun q => q.elim (by decide) (by decide)) (v := ir 1) rfl ?_
          refine r_if_ne (tgt := 43) d_Mm_ladle_36 (by decide) (fun c_36 => ?_) (fun c_36 => ?_)
          · refine r_iload_n d_Mm_ladle_43 rfl 1 rfl ?_
            refine r_bipush d_Mm_ladle_44 (v := 119) (by decide) ?_
            refine r_icmp_ne (tgt := 58) d_Mm_ladle_46 (by decide) (fun c_46 => ?_) (fun c_46 => ?_)
            · refine r_iload_n d_Mm_ladle_58 rfl 1 rfl ?_
              refine r_bipush d_Mm_ladle_59 (v := 104) (by decide) ?_
              refine r_icmp_ne (tgt := 71) d_Mm_ladle_61 (by decide) (fun c_61 => ?_) (fun c_61 => ?_)
              · refine r_aload_n d_Mm_ladle_71 rfl 0 rfl ?_
                refine r_get fs_Mm_260 d_Mm_ladle_72 (q0 := 0) rfl rfl ?_
                refine r_iret d_Mm_ladle_75 rfl rfl ?_
                exact ⟨_, _, _, _, _, _, _, rfl, rfl⟩
              · refine r_aload_n d_Mm_ladle_64 rfl 0 rfl ?_
                refine r_get fs_Mm_257 d_Mm_ladle_65 (q0 := 0) rfl rfl ?_
                refine r_goto (tgt := 75) d_Mm_ladle_68 (by decide) ?_
                refine r_iret d_Mm_ladle_75 rfl rfl ?_
                exact ⟨_, _, _, _, _, _, _, rfl, rfl⟩
            · refine r_aload_n d_Mm_ladle_49 rfl 0 rfl ?_
              refine r_get fs_Mm_62 d_Mm_ladle_50 (q0 := 0) rfl rfl ?_
              refine r_iconst d_Mm_ladle_53 (v := 1) (by decide) ?_
              refine r_iald d_Mm_ladle_54 (q0 := 1) rfl (fun q => q.elim (by decide) (by decide)) (v := ir 1) rfl ?_
              refine r_goto (tgt := 75) d_Mm_ladle_55 (by decide) ?_
              refine r_iret d_Mm_ladle_75 rfl rfl ?_
              exact ⟨_, _, _, _, _, _, _, rfl, rfl⟩
          · refine r_iconst d_Mm_ladle_39 (v := 0) (by decide) ?_
            refine r_goto (tgt := 75) d_Mm_ladle_40 (by decide) ?_
            refine r_iret d_Mm_ladle_75 rfl rfl ?_
            exact ⟨_, _, _, _, _, _, _, rfl, rfl⟩
        · exact absurd c_25 (by decide)
    · exact absurd (Int32.not_le.mp c_13) hw
theorem d_Mm_cheapest_41 : decode prog_14_method_72_code 41 = .ok (.iconst 0, 1) := by decide +kernel
theorem d_Mm_cheapest_51 : decode prog_14_method_72_code 51 = .ok (.iload_n 1, 1) := by decide +kernel
theorem d_Mm_cheapest_52 : decode prog_14_method_72_code 52 = .ok (.bipush 112, 2) := by decide +kernel
theorem d_Mm_cheapest_54 : decode prog_14_method_72_code 54 = .ok (.if_icmp .ne 10, 3) := by decide +kernel
theorem d_Mm_cheapest_64 : decode prog_14_method_72_code 64 = .ok (.iload_n 1, 1) := by decide +kernel
theorem d_Mm_cheapest_65 : decode prog_14_method_72_code 65 = .ok (.bipush 102, 2) := by decide +kernel
theorem d_Mm_cheapest_67 : decode prog_14_method_72_code 67 = .ok (.if_icmp .ne 10, 3) := by decide +kernel
theorem d_Mm_cheapest_77 : decode prog_14_method_72_code 77 = .ok (.bipush 100, 2) := by decide +kernel
theorem d_Mm_cheapest_79 : decode prog_14_method_72_code 79 = .ok (.aload_n 0, 1) := by decide +kernel
theorem d_Mm_cheapest_80 : decode prog_14_method_72_code 80 = .ok (.getfield 69, 3) := by decide +kernel
theorem d_Mm_cheapest_83 : decode prog_14_method_72_code 83 = .ok (.isub, 1) := by decide +kernel
theorem d_Mm_cheapest_84 : decode prog_14_method_72_code 84 = .ok (.aload_n 0, 1) := by decide +kernel
theorem d_Mm_cheapest_85 : decode prog_14_method_72_code 85 = .ok (.getfield 276, 3) := by decide +kernel
theorem fs_Mm_276 : z_fs "IronpourModel" 276 12 24 := ⟨R_Mm, "IronpourModel", F_Mm, 31, rfl, u_Mm, by decide, Or.inl ⟨z_mem (i := 1604) (by decide +kernel) (by decide +kernel), Or.inl rfl⟩⟩
theorem d_Mm_cheapest_88 : decode prog_14_method_72_code 88 = .ok (.isub, 1) := by decide +kernel
theorem d_Mm_cheapest_89 : decode prog_14_method_72_code 89 = .ok (.ireturn, 1) := by decide +kernel
theorem d_Mm_cheapest_70 : decode prog_14_method_72_code 70 = .ok (.aload_n 0, 1) := by decide +kernel
theorem d_Mm_cheapest_71 : decode prog_14_method_72_code 71 = .ok (.getfield 276, 3) := by decide +kernel
theorem d_Mm_cheapest_74 : decode prog_14_method_72_code 74 = .ok (.goto 15, 3) := by decide +kernel
theorem d_Mm_cheapest_57 : decode prog_14_method_72_code 57 = .ok (.aload_n 0, 1) := by decide +kernel
theorem d_Mm_cheapest_58 : decode prog_14_method_72_code 58 = .ok (.getfield 69, 3) := by decide +kernel
theorem d_Mm_cheapest_61 : decode prog_14_method_72_code 61 = .ok (.goto 28, 3) := by decide +kernel
