set_option maxHeartbeats 4000000 in
set_option maxRecDepth 100000 in
theorem C_Ip_tapN (g : zG) (a pa ta sa gs co fu la gy du re wm ac : Nat) (lab labg fub fubg fut1 fut2 fut3 : Nat) (gr gb : Nat → Int64) (he mg wd ir ib : Int32) (io : Int64) (m : Int32) (hw : (1 ≤ m ∧ m ≤ 500)) (he0 : ir = 0) (hg : ¬ ib < m) (h0 : ¬ ib ≤ 0) : CT g M_Ip_tap [.ref a, .int m] [(a, .inr (11, [.ref pa, .ref ta, .ref sa, .ref gs, .ref co, .ref fu, .ref la, .ref gy, .ref du, .ref re, .ref wm, .ref ac])), (la, .inr (5, [.ref lab, .int he, .int mg, .int wd])), (lab, .inr (6, [.ref labg, .int ir])), (labg, .inl (3, 4, .inr (.inl gr))), (fu, .inr (3, [.ref fub, .ref fut1, .ref fut2, .ref fut3, .long io])), (fub, .inr (6, [.ref fubg, .int ib])), (fubg, .inl (3, 4, .inr (.inl gb)))] (fun o cs1 => o = .inl (some (.int (ib - m))) ∧ cs1 = [(a, .inr (11, [.ref pa, .ref ta, .ref sa, .ref gs, .ref co, .ref fu, .ref la, .ref gy, .ref du, .ref re, .ref wm, .ref ac])), (la, .inr (5, [.ref lab, .int 1450, .int 0, .int 0])), (lab, .inr (6, [.ref labg, .int (ir + m)])), (labg, .inl (3, 4, .inr (.inl (mvT gb m ib gr 4)))), (fu, .inr (3, [.ref fub, .ref fut1, .ref fut2, .ref fut3, .long io])), (fub, .inr (6, [.ref fubg, .int (ib - m)])), (fubg, .inl (3, 4, .inr (.inl (mvS gb m ib 4))))]) 1 6 := by
  refine z_of (by decide) rfl (Nat.le_of_ble_eq_true rfl) (fun w0 => ?_)
  refine r_lvE (lv2 := [(0, .ref a), (1, .int m)]) rfl ?_
  refine r_iload_n d_Ip_tap_0 rfl 1 rfl ?_
  refine r_iconst d_Ip_tap_1 (v := 1) (by decide) ?_
  refine r_sipush d_Ip_tap_2 (v := 500) (by decide) ?_
  refine r_callS (As := [.int m, .int 1, .int 500]) (rest := []) (csC := []) (is := []) ln_Ip_203 w_st_Ip_isWithin ok_Ip_tap_Ip_isWithin d_Ip_tap_5 (C_Ip_isWithin g m 1 500) rfl rfl (Nat.le_of_ble_eq_true rfl) rfl (by decide) (by omega) (by omega) (fun E cs1 hx => ?_) (fun v cs1 hx => ?_)
  · exact absurd hx.1 (by simp)
  · obtain ⟨e1, rfl⟩ := hx
    cases e1
    refine ⟨rfl, ?_⟩
    refine r_st (st2 := [.int (if 1 ≤ m ∧ m ≤ 500 then 1 else 0)]) rfl ?_
    refine r_cs (cs2 := [(a, .inr (11, [.ref pa, .ref ta, .ref sa, .ref gs, .ref co, .ref fu, .ref la, .ref gy, .ref du, .ref re, .ref wm, .ref ac])), (la, .inr (5, [.ref lab, .int he, .int mg, .int wd])), (lab, .inr (6, [.ref labg, .int ir])), (labg, .inl (3, 4, .inr (.inl gr))), (fu, .inr (3, [.ref fub, .ref fut1, .ref fut2, .ref fut3, .long io])), (fub, .inr (6, [.ref fubg, .int ib])), (fubg, .inl (3, 4, .inr (.inl gb)))]) rfl ?_
    refine r_if_ne (tgt := 22) d_Ip_tap_8 (by decide) (fun c_8 => ?_) (fun c_8 => ?_)
    · refine r_aload_n d_Ip_tap_22 rfl 0 rfl ?_
      refine r_get fs_Ip_50 d_Ip_tap_23 (q0 := 0) rfl rfl ?_
      refine r_callV (As := []) (rest := []) (csC := [(la, .inr (5, [.ref lab, .int he, .int mg, .int wd])), (lab, .inr (6, [.ref labg, .int ir])), (labg, .inl (3, 4, .inr (.inl gr)))]) (is := [1, 2, 3]) (q0 := 1) rfl rfl ln_Ip_314 w_im_La_isEmpty w_se_La_isEmpty ok_Ip_tap_La_isEmpty d_Ip_tap_26 (C_La_isEmpty g la lab labg gr he mg wd ir) rfl rfl (Nat.le_of_ble_eq_true rfl) rfl (by decide) (by omega) (by omega) (fun E cs1 hx => ?_) (fun v cs1 hx => ?_)
      · exact absurd hx.1 (by simp)
      · obtain ⟨e1, rfl⟩ := hx
        cases e1
        refine ⟨rfl, ?_⟩
        refine r_st (st2 := [.int (if ir = 0 then 1 else 0)]) rfl ?_
        refine r_cs (cs2 := [(a, .inr (11, [.ref pa, .ref ta, .ref sa, .ref gs, .ref co, .ref fu, .ref la, .ref gy, .ref du, .ref re, .ref wm, .ref ac])), (la, .inr (5, [.ref lab, .int he, .int mg, .int wd])), (lab, .inr (6, [.ref labg, .int ir])), (labg, .inl (3, 4, .inr (.inl gr))), (fu, .inr (3, [.ref fub, .ref fut1, .ref fut2, .ref fut3, .long io])), (fub, .inr (6, [.ref fubg, .int ib])), (fubg, .inl (3, 4, .inr (.inl gb)))]) rfl ?_
        refine r_if_ne (tgt := 43) d_Ip_tap_29 (by decide) (fun c_29 => ?_) (fun c_29 => ?_)
        · refine r_aload_n d_Ip_tap_43 rfl 0 rfl ?_
          refine r_get fs_Ip_43 d_Ip_tap_44 (q0 := 0) rfl rfl ?_
          refine r_get fs_Ip_277 d_Ip_tap_47 (q0 := 4) rfl rfl ?_
          refine r_get fs_Ip_269 d_Ip_tap_50 (q0 := 5) rfl rfl ?_
          refine r_iload_n d_Ip_tap_53 rfl 1 rfl ?_
          refine r_icmp_ge (tgt := 68) d_Ip_tap_54 (by decide) (fun c_54 => ?_) (fun c_54 => ?_)
          · refine r_aload_n d_Ip_tap_68 rfl 0 rfl ?_
            refine r_get fs_Ip_50 d_Ip_tap_69 (q0 := 0) rfl rfl ?_
            refine r_aload_n d_Ip_tap_72 rfl 0 rfl ?_
            refine r_get fs_Ip_43 d_Ip_tap_73 (q0 := 0) rfl rfl ?_
            refine r_get fs_Ip_277 d_Ip_tap_76 (q0 := 4) rfl rfl ?_
            refine r_iload_n d_Ip_tap_79 rfl 1 rfl ?_
            refine r_callV (As := [.ref fub, .int m]) (rest := []) (csC := [(la, .inr (5, [.ref lab, .int he, .int mg, .int wd])), (lab, .inr (6, [.ref labg, .int ir])), (labg, .inl (3, 4, .inr (.inl gr))), (fub, .inr (6, [.ref fubg, .int ib])), (fubg, .inl (3, 4, .inr (.inl gb)))]) (is := [1, 2, 3, 5, 6]) (q0 := 1) rfl rfl ln_Ip_321 w_im_La_fillFrom w_se_La_fillFrom ok_Ip_tap_La_fillFrom d_Ip_tap_80 (C_La_fillFrom g la lab labg gr he mg wd ir fub fubg gb ib m h0) rfl rfl (Nat.le_of_ble_eq_true rfl) rfl (by decide) (by omega) (by omega) (fun E cs1 hx => ?_) (fun v cs1 hx => ?_)
            · exact absurd hx.1 (by simp)
            · obtain ⟨e1, rfl⟩ := hx
              cases e1
              refine ⟨rfl, ?_⟩
              refine r_st (st2 := []) rfl ?_
              refine r_cs (cs2 := [(a, .inr (11, [.ref pa, .ref ta, .ref sa, .ref gs, .ref co, .ref fu, .ref la, .ref gy, .ref du, .ref re, .ref wm, .ref ac])), (la, .inr (5, [.ref lab, .int 1450, .int 0, .int 0])), (lab, .inr (6, [.ref labg, .int (ir + m)])), (labg, .inl (3, 4, .inr (.inl (mvT gb m ib gr 4)))), (fu, .inr (3, [.ref fub, .ref fut1, .ref fut2, .ref fut3, .long io])), (fub, .inr (6, [.ref fubg, .int (ib - m)])), (fubg, .inl (3, 4, .inr (.inl (mvS gb m ib 4))))]) rfl ?_
              refine r_aload_n d_Ip_tap_83 rfl 0 rfl ?_
              refine r_get fs_Ip_43 d_Ip_tap_84 (q0 := 0) rfl rfl ?_
              refine r_get fs_Ip_277 d_Ip_tap_87 (q0 := 4) rfl rfl ?_
              refine r_get fs_Ip_269 d_Ip_tap_90 (q0 := 5) rfl rfl ?_
              refine r_iret d_Ip_tap_93 rfl rfl ?_
              exact ⟨rfl, rfl⟩
          · exact absurd (Int32.not_le.mp c_54) hg
        · exact absurd he0 (z_b0 c_29)
    · exact absurd hw (z_b0 c_8)

