set_option maxHeartbeats 4000000 in
set_option maxRecDepth 100000 in
theorem C_Mm_holdE (g : zG) (m mp mf mh mn mt mz mc_ mq mgr ml mi mr mm mu mk mx : Nat) (th pt cl wa co_ fi bu ho lh mg wd fpi fal : Int32) (po de : Int64) (h : Int32) (hw : ¬ (1 ≤ h ∧ h ≤ 120)) : CT g M_Mm_hold [.ref m, .int h] [(m, .inr (12, [.int th, .ref mp, .int pt, .ref mf, .ref mh, .ref mn, .ref mt, .ref mz, .ref mc_, .ref mq, .ref mgr, .int cl, .int wa, .int co_, .int fi, .int bu, .int ho, .ref ml, .ref mi, .ref mr, .int lh, .int mg, .int wd, .int fpi, .int fal, .ref mm, .ref mu, .ref mk, .ref mx, .long po, .long de]))] (fun o cs1 => o = .inl (some (.int 0)) ∧ cs1 = [(m, .inr (12, [.int 1, .ref mp, .int pt, .ref mf, .ref mh, .ref mn, .ref mt, .ref mz, .ref mc_, .ref mq, .ref mgr, .int cl, .int wa, .int co_, .int fi, .int bu, .int ho, .ref ml, .ref mi, .ref mr, .int lh, .int mg, .int wd, .int fpi, .int fal, .ref mm, .ref mu, .ref mk, .ref mx, .long po, .long de]))]) 0 0 := by
  refine z_of (by decide) rfl (Nat.le_of_ble_eq_true rfl) (fun w0 => ?_)
  refine r_lvE (lv2 := [(0, .ref m), (1, .int h)]) rfl ?_
  refine r_aload_n d_Mm_hold_0 rfl 0 rfl ?_
  refine r_iconst d_Mm_hold_1 (v := 0) (by decide) ?_
  refine r_put fp_Mm_84 d_Mm_hold_2 (fun h => nomatch h) rfl rfl (q0 := 0) rfl (Nat.le_of_ble_eq_true rfl) (cs' := [(m, .inr (12, [.int 0, .ref mp, .int pt, .ref mf, .ref mh, .ref mn, .ref mt, .ref mz, .ref mc_, .ref mq, .ref mgr, .int cl, .int wa, .int co_, .int fi, .int bu, .int ho, .ref ml, .ref mi, .ref mr, .int lh, .int mg, .int wd, .int fpi, .int fal, .ref mm, .ref mu, .ref mk, .ref mx, .long po, .long de]))]) rfl ?_
  refine r_aload_n d_Mm_hold_5 rfl 0 rfl ?_
  refine r_iload_n d_Mm_hold_6 rfl 1 rfl ?_
  refine r_iconst d_Mm_hold_7 (v := 1) (by decide) ?_
  refine r_bipush d_Mm_hold_8 (v := 120) (by decide) ?_
  refine r_callS (As := [.int h, .int 1, .int 120]) (rest := [.ref m]) (csC := []) (is := []) ln_Mm_87 w_st_Mm_in ok_Mm_hold_Mm_in d_Mm_hold_10 (C_Mm_in g h 1 120) rfl rfl (Nat.le_of_ble_eq_true rfl) rfl (by decide) (by omega) (by omega) (fun E cs1 hx => ?_) (fun v cs1 hx => ?_)
  · exact absurd hx.1 (by simp)
  · obtain ⟨e1, rfl⟩ := hx
    rw [if_neg hw] at e1
    cases e1
    refine ⟨rfl, ?_⟩
    refine r_st (st2 := [.int 0, .ref m]) rfl ?_
    refine r_cs (cs2 := [(m, .inr (12, [.int 0, .ref mp, .int pt, .ref mf, .ref mh, .ref mn, .ref mt, .ref mz, .ref mc_, .ref mq, .ref mgr, .int cl, .int wa, .int co_, .int fi, .int bu, .int ho, .ref ml, .ref mi, .ref mr, .int lh, .int mg, .int wd, .int fpi, .int fal, .ref mm, .ref mu, .ref mk, .ref mx, .long po, .long de]))]) rfl ?_
    refine r_if_ne (tgt := 20) d_Mm_hold_13 (by decide) (fun c_13 => ?_) (fun c_13 => ?_)
    · exact absurd c_13 (by decide)
    · refine r_iconst d_Mm_hold_16 (v := 1) (by decide) ?_
      refine r_goto (tgt := 21) d_Mm_hold_17 (by decide) ?_
      refine r_iconst d_Mm_hold_21 (v := 1) (by decide) ?_
      refine r_callV (As := [.int 1, .int 1]) (rest := []) (csC := [(m, .inr (12, [.int 0, .ref mp, .int pt, .ref mf, .ref mh, .ref mn, .ref mt, .ref mz, .ref mc_, .ref mq, .ref mgr, .int cl, .int wa, .int co_, .int fi, .int bu, .int ho, .ref ml, .ref mi, .ref mr, .int lh, .int mg, .int wd, .int fpi, .int fal, .ref mm, .ref mu, .ref mk, .ref mx, .long po, .long de]))]) (is := [0]) (q0 := 0) rfl rfl ln_Mm_103 w_im_Mm_fails w_se_Mm_fails ok_Mm_hold_Mm_fails d_Mm_hold_22 (C_Mm_fails1 g m mp mf mh mn mt mz mc_ mq mgr ml mi mr mm mu mk mx th pt cl wa co_ fi bu ho lh mg wd fpi fal po de) rfl rfl (Nat.le_of_ble_eq_true rfl) rfl (by decide) (by omega) (by omega) (fun E cs1 hx => ?_) (fun v cs1 hx => ?_)
      · exact absurd hx.1 (by simp)
      · obtain ⟨e1, rfl⟩ := hx
        cases e1
        refine ⟨rfl, ?_⟩
        refine r_st (st2 := [.int 1]) rfl ?_
        refine r_cs (cs2 := [(m, .inr (12, [.int 1, .ref mp, .int pt, .ref mf, .ref mh, .ref mn, .ref mt, .ref mz, .ref mc_, .ref mq, .ref mgr, .int cl, .int wa, .int co_, .int fi, .int bu, .int ho, .ref ml, .ref mi, .ref mr, .int lh, .int mg, .int wd, .int fpi, .int fal, .ref mm, .ref mu, .ref mk, .ref mx, .long po, .long de]))]) rfl ?_
        refine r_if_eq (tgt := 30) d_Mm_hold_25 (by decide) (fun c_25 => ?_) (fun c_25 => ?_)
        · exact absurd c_25 (by decide)
        · refine r_iconst d_Mm_hold_28 (v := 0) (by decide) ?_
          refine r_iret d_Mm_hold_29 rfl rfl ?_
          exact ⟨rfl, rfl⟩
theorem d_Mm_hold_32 : decode prog_14_method_61_code 32 = .ok (.iload_n 2, 1) := zo_28 (zd_b zq_prog_14_method_61_code_1 0 rfl rfl rfl)
theorem d_Mm_hold_33 : decode prog_14_method_61_code 33 = .ok (.iload_n 1, 1) := zo_27 (zd_b zq_prog_14_method_61_code_1 1 rfl rfl rfl)
theorem d_Mm_hold_34 : decode prog_14_method_61_code 34 = .ok (.if_icmp .ge 66, 3) := zo_162 (d := 0) (e := 66) (zd_b zq_prog_14_method_61_code_1 2 rfl rfl rfl) (zd_b zq_prog_14_method_61_code_1 3 rfl rfl rfl) (zd_b zq_prog_14_method_61_code_1 4 rfl rfl rfl) (by decide +kernel)
theorem d_Mm_hold_100 : decode prog_14_method_61_code 100 = .ok (.aload_n 0, 1) := zo_42 (zd_b zq_prog_14_method_61_code_3 4 rfl rfl rfl)
theorem d_Mm_hold_101 : decode prog_14_method_61_code 101 = .ok (.getfield 65, 3) := zo_180 (d := 0) (e := 65) (zd_b zq_prog_14_method_61_code_3 5 rfl rfl rfl) (zd_b zq_prog_14_method_61_code_3 6 rfl rfl rfl) (zd_b zq_prog_14_method_61_code_3 7 rfl rfl rfl)
theorem d_Mm_hold_104 : decode prog_14_method_61_code 104 = .ok (.iconst 0, 1) := zo_3 (zd_b zq_prog_14_method_61_code_3 8 rfl rfl rfl)
theorem d_Mm_hold_105 : decode prog_14_method_61_code 105 = .ok (.laload, 1) := zo_47 (zd_b zq_prog_14_method_61_code_3 9 rfl rfl rfl)
theorem d_Mm_hold_106 : decode prog_14_method_61_code 106 = .ok (.l2i, 1) := zo_136 (zd_b zq_prog_14_method_61_code_3 10 rfl rfl rfl)
theorem d_Mm_hold_107 : decode prog_14_method_61_code 107 = .ok (.ireturn, 1) := zo_172 (zd_b zq_prog_14_method_61_code_3 11 rfl rfl rfl)
theorem d_Mm_hold_37 : decode prog_14_method_61_code 37 = .ok (.aload_n 0, 1) := zo_42 (zd_b zq_prog_14_method_61_code_1 5 rfl rfl rfl)
theorem d_Mm_hold_38 : decode prog_14_method_61_code 38 = .ok (.getfield 65, 3) := zo_180 (d := 0) (e := 65) (zd_b zq_prog_14_method_61_code_1 6 rfl rfl rfl) (zd_b zq_prog_14_method_61_code_1 7 rfl rfl rfl) (zd_b zq_prog_14_method_61_code_1 8 rfl rfl rfl)
theorem d_Mm_hold_41 : decode prog_14_method_61_code 41 = .ok (.iconst 0, 1) := zo_3 (zd_b zq_prog_14_method_61_code_1 9 rfl rfl rfl)
theorem d_Mm_hold_42 : decode prog_14_method_61_code 42 = .ok (.dup2, 1) := zo_92 (zd_b zq_prog_14_method_61_code_1 10 rfl rfl rfl)
theorem d_Mm_hold_43 : decode prog_14_method_61_code 43 = .ok (.laload, 1) := zo_47 (zd_b zq_prog_14_method_61_code_1 11 rfl rfl rfl)
theorem d_Mm_hold_44 : decode prog_14_method_61_code 44 = .ok (.aload_n 0, 1) := zo_42 (zd_b zq_prog_14_method_61_code_1 12 rfl rfl rfl)
theorem d_Mm_hold_45 : decode prog_14_method_61_code 45 = .ok (.getfield 65, 3) := zo_180 (d := 0) (e := 65) (zd_b zq_prog_14_method_61_code_1 13 rfl rfl rfl) (zd_b zq_prog_14_method_61_code_1 14 rfl rfl rfl) (zd_b zq_prog_14_method_61_code_1 15 rfl rfl rfl)
theorem d_Mm_hold_48 : decode prog_14_method_61_code 48 = .ok (.iconst 0, 1) := zo_3 (zd_b zq_prog_14_method_61_code_1 16 rfl rfl rfl)
theorem d_Mm_hold_49 : decode prog_14_method_61_code 49 = .ok (.laload, 1) := zo_47 (zd_b zq_prog_14_method_61_code_1 17 rfl rfl rfl)
theorem d_Mm_hold_50 : decode prog_14_method_61_code 50 = .ok (.ldc2_w 253, 3) := zo_20 (d := 0) (e := 253) (zd_b zq_prog_14_method_61_code_1 18 rfl rfl rfl) (zd_b zq_prog_14_method_61_code_1 19 rfl rfl rfl) (zd_b zq_prog_14_method_61_code_1 20 rfl rfl rfl)
theorem ct_Mm_253 : Cond.constantLong "IronpourModel" 253 2000 ∈ z_gw := z_mj8 (i := 174) rfl (by decide +kernel)
theorem d_Mm_hold_53 : decode prog_14_method_61_code 53 = .ok (.ldiv, 1) := zo_109 (zd_b zq_prog_14_method_61_code_1 21 rfl rfl rfl)
theorem d_Mm_hold_54 : decode prog_14_method_61_code 54 = .ok (.lsub, 1) := zo_101 (zd_b zq_prog_14_method_61_code_1 22 rfl rfl rfl)
theorem d_Mm_hold_55 : decode prog_14_method_61_code 55 = .ok (.lastore, 1) := zo_80 (zd_b zq_prog_14_method_61_code_1 23 rfl rfl rfl)
theorem d_Mm_hold_56 : decode prog_14_method_61_code 56 = .ok (.aload_n 0, 1) := zo_42 (zd_b zq_prog_14_method_61_code_1 24 rfl rfl rfl)
theorem d_Mm_hold_57 : decode prog_14_method_61_code 57 = .ok (.getfield 65, 3) := zo_180 (d := 0) (e := 65) (zd_b zq_prog_14_method_61_code_1 25 rfl rfl rfl) (zd_b zq_prog_14_method_61_code_1 26 rfl rfl rfl) (zd_b zq_prog_14_method_61_code_1 27 rfl rfl rfl)
theorem d_Mm_hold_60 : decode prog_14_method_61_code 60 = .ok (.iconst 1, 1) := zo_4 (zd_b zq_prog_14_method_61_code_1 28 rfl rfl rfl)
theorem d_Mm_hold_61 : decode prog_14_method_61_code 61 = .ok (.dup2, 1) := zo_92 (zd_b zq_prog_14_method_61_code_1 29 rfl rfl rfl)
theorem d_Mm_hold_62 : decode prog_14_method_61_code 62 = .ok (.laload, 1) := zo_47 (zd_b zq_prog_14_method_61_code_1 30 rfl rfl rfl)
theorem d_Mm_hold_63 : decode prog_14_method_61_code 63 = .ok (.aload_n 0, 1) := zo_42 (zd_b zq_prog_14_method_61_code_1 31 rfl rfl rfl)
theorem d_Mm_hold_64 : decode prog_14_method_61_code 64 = .ok (.getfield 65, 3) := zo_180 (d := 0) (e := 65) (zd_b zq_prog_14_method_61_code_2 0 rfl rfl rfl) (zd_b zq_prog_14_method_61_code_2 1 rfl rfl rfl) (zd_b zq_prog_14_method_61_code_2 2 rfl rfl rfl)
theorem d_Mm_hold_67 : decode prog_14_method_61_code 67 = .ok (.iconst 1, 1) := zo_4 (zd_b zq_prog_14_method_61_code_2 3 rfl rfl rfl)
theorem d_Mm_hold_68 : decode prog_14_method_61_code 68 = .ok (.laload, 1) := zo_47 (zd_b zq_prog_14_method_61_code_2 4 rfl rfl rfl)
theorem d_Mm_hold_69 : decode prog_14_method_61_code 69 = .ok (.ldc2_w 255, 3) := zo_20 (d := 0) (e := 255) (zd_b zq_prog_14_method_61_code_2 5 rfl rfl rfl) (zd_b zq_prog_14_method_61_code_2 6 rfl rfl rfl) (zd_b zq_prog_14_method_61_code_2 7 rfl rfl rfl)
theorem ct_Mm_255 : Cond.constantLong "IronpourModel" 255 4000 ∈ z_gw := z_mj8 (i := 175) rfl (by decide +kernel)
theorem d_Mm_hold_72 : decode prog_14_method_61_code 72 = .ok (.ldiv, 1) := zo_109 (zd_b zq_prog_14_method_61_code_2 8 rfl rfl rfl)
theorem d_Mm_hold_73 : decode prog_14_method_61_code 73 = .ok (.lsub, 1) := zo_101 (zd_b zq_prog_14_method_61_code_2 9 rfl rfl rfl)
theorem d_Mm_hold_74 : decode prog_14_method_61_code 74 = .ok (.lastore, 1) := zo_80 (zd_b zq_prog_14_method_61_code_2 10 rfl rfl rfl)
theorem d_Mm_hold_75 : decode prog_14_method_61_code 75 = .ok (.aload_n 0, 1) := zo_42 (zd_b zq_prog_14_method_61_code_2 11 rfl rfl rfl)
theorem d_Mm_hold_76 : decode prog_14_method_61_code 76 = .ok (.getfield 65, 3) := zo_180 (d := 0) (e := 65) (zd_b zq_prog_14_method_61_code_2 12 rfl rfl rfl) (zd_b zq_prog_14_method_61_code_2 13 rfl rfl rfl) (zd_b zq_prog_14_method_61_code_2 14 rfl rfl rfl)
theorem d_Mm_hold_79 : decode prog_14_method_61_code 79 = .ok (.iconst 2, 1) := zo_5 (zd_b zq_prog_14_method_61_code_2 15 rfl rfl rfl)
theorem d_Mm_hold_80 : decode prog_14_method_61_code 80 = .ok (.dup2, 1) := zo_92 (zd_b zq_prog_14_method_61_code_2 16 rfl rfl rfl)
theorem d_Mm_hold_81 : decode prog_14_method_61_code 81 = .ok (.laload, 1) := zo_47 (zd_b zq_prog_14_method_61_code_2 17 rfl rfl rfl)
theorem d_Mm_hold_82 : decode prog_14_method_61_code 82 = .ok (.aload_n 0, 1) := zo_42 (zd_b zq_prog_14_method_61_code_2 18 rfl rfl rfl)
theorem d_Mm_hold_83 : decode prog_14_method_61_code 83 = .ok (.getfield 65, 3) := zo_180 (d := 0) (e := 65) (zd_b zq_prog_14_method_61_code_2 19 rfl rfl rfl) (zd_b zq_prog_14_method_61_code_2 20 rfl rfl rfl) (zd_b zq_prog_14_method_61_code_2 21 rfl rfl rfl)
theorem d_Mm_hold_86 : decode prog_14_method_61_code 86 = .ok (.iconst 2, 1) := zo_5 (zd_b zq_prog_14_method_61_code_2 22 rfl rfl rfl)
theorem d_Mm_hold_87 : decode prog_14_method_61_code 87 = .ok (.laload, 1) := zo_47 (zd_b zq_prog_14_method_61_code_2 23 rfl rfl rfl)
theorem d_Mm_hold_88 : decode prog_14_method_61_code 88 = .ok (.ldc2_w 255, 3) := zo_20 (d := 0) (e := 255) (zd_b zq_prog_14_method_61_code_2 24 rfl rfl rfl) (zd_b zq_prog_14_method_61_code_2 25 rfl rfl rfl) (zd_b zq_prog_14_method_61_code_2 26 rfl rfl rfl)
theorem d_Mm_hold_91 : decode prog_14_method_61_code 91 = .ok (.ldiv, 1) := zo_109 (zd_b zq_prog_14_method_61_code_2 27 rfl rfl rfl)
theorem d_Mm_hold_92 : decode prog_14_method_61_code 92 = .ok (.lsub, 1) := zo_101 (zd_b zq_prog_14_method_61_code_2 28 rfl rfl rfl)
theorem d_Mm_hold_93 : decode prog_14_method_61_code 93 = .ok (.lastore, 1) := zo_80 (zd_b zq_prog_14_method_61_code_2 29 rfl rfl rfl)
theorem d_Mm_hold_94 : decode prog_14_method_61_code 94 = .ok (.iinc 2 1, 3) := by decide +kernel
theorem d_Mm_hold_97 : decode prog_14_method_61_code 97 = .ok (.goto (-65), 3) := zo_167 (d := 255) (e := 191) (zd_b zq_prog_14_method_61_code_3 1 rfl rfl rfl) (zd_b zq_prog_14_method_61_code_3 2 rfl rfl rfl) (zd_b zq_prog_14_method_61_code_3 3 rfl rfl rfl) (by decide +kernel)
theorem d_Mm_hold_20 : decode prog_14_method_61_code 20 = .ok (.iconst 0, 1) := zo_3 (zd_b zq_prog_14_method_61_code_0 20 rfl rfl rfl)
theorem d_Mm_hold_30 : decode prog_14_method_61_code 30 = .ok (.iconst 0, 1) := zo_3 (zd_b zq_prog_14_method_61_code_0 30 rfl rfl rfl)
theorem d_Mm_hold_31 : decode prog_14_method_61_code 31 = .ok (.istore_n 2, 1) := zo_61 (zd_b zq_prog_14_method_61_code_0 31 rfl rfl rfl)
set_option maxHeartbeats 4000000 in
set_option maxRecDepth 100000 in
theorem L_Mm_holdN_32 (g : zG) (m mp mf mh mn mt mz mc_ mq mgr ml mi mr mm mu mk mx : Nat) (th pt cl wa co_ fi bu ho lh mg wd fpi fal : Int32) (po de : Int64) (gr : Nat → Int64) (h : Nat) (hh9 : h < 1000) (hw : (1 ≤ nI h ∧ nI h ≤ 120)) (w0 : zW) (n : Nat) : ∀ (d i : Nat), i ≤ h → h < i + d → DV g M_Mm_hold (fun o cs1 => o = .inl (some (.int ((hdR gr h 0).toInt32))) ∧ cs1 = [(m, .inr (12, [.int 0, .ref mp, .int pt, .ref mf, .ref mh, .ref mn, .ref mt, .ref mz, .ref mc_, .ref mq, .ref mgr, .int cl, .int wa, .int co_, .int fi, .int bu, .int ho, .ref ml, .ref mi, .ref mr, .int lh, .int mg, .int wd, .int fpi, .int fal, .ref mm, .ref mu, .ref mk, .ref mx, .long po, .long de])), (mr, .inl (3, 16, .inr (.inl (hdR gr h))))]) w0 n 32 [(2, .int (nI i)), (1, .int (nI h)), (0, .ref m)] [] [(m, .inr (12, [.int 0, .ref mp, .int pt, .ref mf, .ref mh, .ref mn, .ref mt, .ref mz, .ref mc_, .ref mq, .ref mgr, .int cl, .int wa, .int co_, .int fi, .int bu, .int ho, .ref ml, .ref mi, .ref mr, .int lh, .int mg, .int wd, .int fpi, .int fal, .ref mm, .ref mu, .ref mk, .ref mx, .long po, .long de])), (mr, .inl (3, 16, .inr (.inl (hdR gr i))))] 0 0 := by
  intro d
  induction d with
  | zero => intro i h1 h2 ; exact absurd h2 (by omega)
  | succ d ih =>
    intro i h1 h2 
    refine r_iload_n d_Mm_hold_32 rfl 0 rfl ?_
    refine r_iload_n d_Mm_hold_33 rfl 1 rfl ?_
    refine r_icmp_ge (tgt := 100) d_Mm_hold_34 (by decide) (fun c_34 => ?_) (fun c_34 => ?_)
    · have hn := z_le (by omega) (by omega) c_34
      have hv : i = h := by omega
      rw [hv]
      refine r_aload_n d_Mm_hold_100 rfl 2 rfl ?_
      refine r_get fs_Mm_65 d_Mm_hold_101 (q0 := 0) rfl rfl ?_
      refine r_iconst d_Mm_hold_104 (v := 0) (by decide) ?_
      refine r_lald d_Mm_hold_105 (q0 := 1) rfl (fun q => q.elim (by decide) (by decide)) (v := (hdR gr h) 0) rfl ?_
      refine r_l2i d_Mm_hold_106 (v := (hdR gr h 0).toInt32) rfl ?_
      refine r_iret d_Mm_hold_107 rfl rfl ?_
      exact ⟨rfl, rfl⟩
    · have hn := z_nle (by omega) (by omega) c_34
      refine r_aload_n d_Mm_hold_37 rfl 2 rfl ?_
      refine r_get fs_Mm_65 d_Mm_hold_38 (q0 := 0) rfl rfl ?_
      refine r_iconst d_Mm_hold_41 (v := 0) (by decide) ?_
      refine r_dup2_11 d_Mm_hold_42 rfl rfl ?_
      refine r_lald d_Mm_hold_43 (q0 := 1) rfl (fun q => q.elim (by decide) (by decide)) (v := (hdR gr i) 0) rfl ?_
      refine r_aload_n d_Mm_hold_44 rfl 2 rfl ?_
      refine r_get fs_Mm_65 d_Mm_hold_45 (q0 := 0) rfl rfl ?_
      refine r_iconst d_Mm_hold_48 (v := 0) (by decide) ?_
      refine r_lald d_Mm_hold_49 (q0 := 1) rfl (fun q => q.elim (by decide) (by decide)) (v := (hdR gr i) 0) rfl ?_
      refine r_ldc2 ct_Mm_253 d_Mm_hold_50 ?_
      refine r_ldiv d_Mm_hold_53 (v := ((hdR gr i) 0) / 2000) (by decide) rfl ?_
      refine r_lsub d_Mm_hold_54 (v := ((hdR gr i) 0) - (((hdR gr i) 0) / 2000)) rfl ?_
      refine r_last d_Mm_hold_55 (q0 := 1) rfl (fun q => q.elim (by decide) (by decide)) (f' := (hdE (hdR gr i) 0 2000)) rfl (cs' := [(m, .inr (12, [.int 0, .ref mp, .int pt, .ref mf, .ref mh, .ref mn, .ref mt, .ref mz, .ref mc_, .ref mq, .ref mgr, .int cl, .int wa, .int co_, .int fi, .int bu, .int ho, .ref ml, .ref mi, .ref mr, .int lh, .int mg, .int wd, .int fpi, .int fal, .ref mm, .ref mu, .ref mk, .ref mx, .long po, .long de])), (mr, .inl (3, 16, .inr (.inl (hdE (hdR gr i) 0 2000))))]) rfl ?_
      refine r_aload_n d_Mm_hold_56 rfl 2 rfl ?_
      refine r_get fs_Mm_65 d_Mm_hold_57 (q0 := 0) rfl rfl ?_
      refine r_iconst d_Mm_hold_60 (v := 1) (by decide) ?_
      refine r_dup2_11 d_Mm_hold_61 rfl rfl ?_
      refine r_lald d_Mm_hold_62 (q0 := 1) rfl (fun q => q.elim (by decide) (by decide)) (v := (hdE (hdR gr i) 0 2000) 1) rfl ?_
      refine r_aload_n d_Mm_hold_63 rfl 2 rfl ?_
      refine r_get fs_Mm_65 d_Mm_hold_64 (q0 := 0) rfl rfl ?_
      refine r_iconst d_Mm_hold_67 (v := 1) (by decide) ?_
      refine r_lald d_Mm_hold_68 (q0 := 1) rfl (fun q => q.elim (by decide) (by decide)) (v := (hdE (hdR gr i) 0 2000) 1) rfl ?_
      refine r_ldc2 ct_Mm_255 d_Mm_hold_69 ?_
      refine r_ldiv d_Mm_hold_72 (v := ((hdE (hdR gr i) 0 2000) 1) / 4000) (by decide) rfl ?_
      refine r_lsub d_Mm_hold_73 (v := ((hdE (hdR gr i) 0 2000) 1) - (((hdE (hdR gr i) 0 2000) 1) / 4000)) rfl ?_
      refine r_last d_Mm_hold_74 (q0 := 1) rfl (fun q => q.elim (by decide) (by decide)) (f' := (hdE (hdE (hdR gr i) 0 2000) 1 4000)) rfl (cs' := [(m, .inr (12, [.int 0, .ref mp, .int pt, .ref mf, .ref mh, .ref mn, .ref mt, .ref mz, .ref mc_, .ref mq, .ref mgr, .int cl, .int wa, .int co_, .int fi, .int bu, .int ho, .ref ml, .ref mi, .ref mr, .int lh, .int mg, .int wd, .int fpi, .int fal, .ref mm, .ref mu, .ref mk, .ref mx, .long po, .long de])), (mr, .inl (3, 16, .inr (.inl (hdE (hdE (hdR gr i) 0 2000) 1 4000))))]) rfl ?_
      refine r_aload_n d_Mm_hold_75 rfl 2 rfl ?_
      refine r_get fs_Mm_65 d_Mm_hold_76 (q0 := 0) rfl rfl ?_
      refine r_iconst d_Mm_hold_79 (v := 2) (by decide) ?_
      refine r_dup2_11 d_Mm_hold_80 rfl rfl ?_
      refine r_lald d_Mm_hold_81 (q0 := 1) rfl (fun q => q.elim (by decide) (by decide)) (v := (hdE (hdE (hdR gr i) 0 2000) 1 4000) 2) rfl ?_
      refine r_aload_n d_Mm_hold_82 rfl 2 rfl ?_
      refine r_get fs_Mm_65 d_Mm_hold_83 (q0 := 0) rfl rfl ?_
      refine r_iconst d_Mm_hold_86 (v := 2) (by decide) ?_
      refine r_lald d_Mm_hold_87 (q0 := 1) rfl (fun q => q.elim (by decide) (by decide)) (v := (hdE (hdE (hdR gr i) 0 2000) 1 4000) 2) rfl ?_
      refine r_ldc2 ct_Mm_255 d_Mm_hold_88 ?_
      refine r_ldiv d_Mm_hold_91 (v := ((hdE (hdE (hdR gr i) 0 2000) 1 4000) 2) / 4000) (by decide) rfl ?_
      refine r_lsub d_Mm_hold_92 (v := ((hdE (hdE (hdR gr i) 0 2000) 1 4000) 2) - (((hdE (hdE (hdR gr i) 0 2000) 1 4000) 2) / 4000)) rfl ?_
      refine r_last d_Mm_hold_93 (q0 := 1) rfl (fun q => q.elim (by decide) (by decide)) (f' := hdR gr (i + 1)) rfl (cs' := [(m, .inr (12, [.int 0, .ref mp, .int pt, .ref mf, .ref mh, .ref mn, .ref mt, .ref mz, .ref mc_, .ref mq, .ref mgr, .int cl, .int wa, .int co_, .int fi, .int bu, .int ho, .ref ml, .ref mi, .ref mr, .int lh, .int mg, .int wd, .int fpi, .int fal, .ref mm, .ref mu, .ref mk, .ref mx, .long po, .long de])), (mr, .inl (3, 16, .inr (.inl (hdR gr (i + 1)))))]) rfl ?_
      refine r_iinc (lv' := [(2, .int (nI (i + 1))), (1, .int (nI h)), (0, .ref m)]) (v := nI (i + 1)) d_Mm_hold_94 (j := 0) rfl (nI_add _ _) (by decide) rfl ?_
      refine r_goto (tgt := 32) d_Mm_hold_97 (by decide) ?_
      refine r_lvE (lv2 := [(2, .int (nI (i + 1))), (1, .int (nI h)), (0, .ref m)]) (rfl) ?_
      refine r_cs (cs2 := [(m, .inr (12, [.int 0, .ref mp, .int pt, .ref mf, .ref mh, .ref mn, .ref mt, .ref mz, .ref mc_, .ref mq, .ref mgr, .int cl, .int wa, .int co_, .int fi, .int bu, .int ho, .ref ml, .ref mi, .ref mr, .int lh, .int mg, .int wd, .int fpi, .int fal, .ref mm, .ref mu, .ref mk, .ref mx, .long po, .long de])), (mr, .inl (3, 16, .inr (.inl (hdR gr (i + 1)))))]) (rfl) ?_
      exact ih (i + 1) (by omega) (by omega)
