abbrev M_Mm_hasCasting : zM := (⟨"IronpourModel", "hasCasting", "()Z"⟩, prog_14_method_73_code, 3, (Option.some FieldType.boolean), 1, 20, [])
theorem d_Mm_hasCasting_4 : decode prog_14_method_73_code 4 = .ok (.iload_n 2, 1) := by decide +kernel
theorem d_Mm_hasCasting_5 : decode prog_14_method_73_code 5 = .ok (.bipush 108, 2) := by decide +kernel
theorem d_Mm_hasCasting_7 : decode prog_14_method_73_code 7 = .ok (.if_icmp .ge 30, 3) := by decide +kernel
theorem d_Mm_hasCasting_37 : decode prog_14_method_73_code 37 = .ok (.iload_n 1, 1) := by decide +kernel
theorem d_Mm_hasCasting_38 : decode prog_14_method_73_code 38 = .ok (.ireturn, 1) := by decide +kernel
theorem d_Mm_hasCasting_10 : decode prog_14_method_73_code 10 = .ok (.iload_n 1, 1) := by decide +kernel
theorem d_Mm_hasCasting_11 : decode prog_14_method_73_code 11 = .ok (.ifCond .ne 14, 3) := by decide +kernel
theorem d_Mm_hasCasting_25 : decode prog_14_method_73_code 25 = .ok (.iconst 1, 1) := by decide +kernel
theorem d_Mm_hasCasting_26 : decode prog_14_method_73_code 26 = .ok (.goto 4, 3) := by decide +kernel
theorem d_Mm_hasCasting_30 : decode prog_14_method_73_code 30 = .ok (.istore_n 1, 1) := by decide +kernel
theorem d_Mm_hasCasting_31 : decode prog_14_method_73_code 31 = .ok (.iinc 2 1, 3) := by decide +kernel
theorem d_Mm_hasCasting_34 : decode prog_14_method_73_code 34 = .ok (.goto (-30), 3) := by decide +kernel
theorem d_Mm_hasCasting_14 : decode prog_14_method_73_code 14 = .ok (.aload_n 0, 1) := by decide +kernel
theorem d_Mm_hasCasting_15 : decode prog_14_method_73_code 15 = .ok (.getfield 7, 3) := by decide +kernel
theorem d_Mm_hasCasting_18 : decode prog_14_method_73_code 18 = .ok (.iload_n 2, 1) := by decide +kernel
theorem d_Mm_hasCasting_19 : decode prog_14_method_73_code 19 = .ok (.caload, 1) := by decide +kernel
theorem d_Mm_hasCasting_20 : decode prog_14_method_73_code 20 = .ok (.bipush 99, 2) := by decide +kernel
theorem d_Mm_hasCasting_22 : decode prog_14_method_73_code 22 = .ok (.if_icmp .ne 7, 3) := by decide +kernel
theorem d_Mm_hasCasting_29 : decode prog_14_method_73_code 29 = .ok (.iconst 0, 1) := by decide +kernel
theorem d_Mm_hasCasting_0 : decode prog_14_method_73_code 0 = .ok (.iconst 0, 1) := by decide +kernel
theorem d_Mm_hasCasting_1 : decode prog_14_method_73_code 1 = .ok (.istore_n 1, 1) := by decide +kernel
theorem d_Mm_hasCasting_2 : decode prog_14_method_73_code 2 = .ok (.iconst 0, 1) := by decide +kernel
theorem d_Mm_hasCasting_3 : decode prog_14_method_73_code 3 = .ok (.istore_n 2, 1) := by decide +kernel
set_option maxHeartbeats 4000000 in
set_option maxRecDepth 100000 in
theorem L_Mm_hasCastingW_4 (g : zG) (m mp mf mh mn mt mz mc_ mq mgr ml mi mr mm mu mk mx : Nat) (th pt cl wa co_ fi bu ho lh mg wd fpi fal : Int32) (po de : Int64) (f : Nat → Int32) (w0 : zW) (n : Nat) : ∀ (d i : Nat) (lf : Int32), i ≤ 108 → 108 < i + d → (lf = 0 ∨ lf = 1) → DV g M_Mm_hasCasting (fun o cs1 => ∃ (v9 : Int32), (v9 = 0 ∨ v9 = 1) ∧ o = .inl (some (.int v9)) ∧ cs1 = [(m, .inr (12, [.int th, .ref mp, .int pt, .ref mf, .ref mh, .ref mn, .ref mt, .ref mz, .ref mc_, .ref mq, .ref mgr, .int cl, .int wa, .int co_, .int fi, .int bu, .int ho, .ref ml, .ref mi, .ref mr, .int lh, .int mg, .int wd, .int fpi, .int fal, .ref mm, .ref mu, .ref mk, .ref mx, .long po, .long de])), (mp, .inl (1, 108, .inl f))]) w0 n 4 [(2, .int (nI i)), (1, .int lf), (0, .ref m)] [] [(m, .inr (12, [.int th, .ref mp, .int pt, .ref mf, .ref mh, .ref mn, .ref mt, .ref mz, .ref mc_, .ref mq, .ref mgr, .int cl, .int wa, .int co_, .int fi, .int bu, .int ho, .ref ml, .ref mi, .ref mr, .int lh, .int mg, .int wd, .int fpi, .int fal, .ref mm, .ref mu, .ref mk, .ref mx, .long po, .long de])), (mp, .inl (1, 108, .inl f))] 0 0 := by
  intro d
  induction d with
  | zero => intro i lf h1 h2 v1; exact absurd h2 (by omega)
  | succ d ih =>
    intro i lf h1 h2 v1
    refine r_iload_n d_Mm_hasCasting_4 rfl 0 rfl ?_
    refine r_bipush d_Mm_hasCasting_5 (v := 108) (by decide) ?_
    refine r_icmp_ge (tgt := 37) d_Mm_hasCasting_7 (by decide) (fun c_7 => ?_) (fun c_7 => ?_)
    · have hn := z_le (a := 108) (by omega) (by decide) c_7
      obtain rfl : i = 108 := by omega
      refine r_iload_n d_Mm_hasCasting_37 rfl 1 rfl ?_
      refine r_iret d_Mm_hasCasting_38 rfl (z_nar01 v1) ?_
      exact ⟨_, v1, rfl, rfl⟩
    · have hn := z_nle (a := 108) (by omega) (by decide) c_7
      refine r_iload_n d_Mm_hasCasting_10 rfl 1 rfl ?_
      refine r_if_ne (tgt := 25) d_Mm_hasCasting_11 (by decide) (fun c_11 => ?_) (fun c_11 => ?_)
      · refine r_iconst d_Mm_hasCasting_25 (v := 1) (by decide) ?_
        refine r_goto (tgt := 30) d_Mm_hasCasting_26 (by decide) ?_
        refine r_istore_n (lv' := [(1, .int 1), (2, .int (nI i)), (0, .ref m)]) d_Mm_hasCasting_30 rfl (by decide) rfl ?_
        refine r_iinc (lv' := [(2, .int (nI (i + 1))), (1, .int 1), (0, .ref m)]) (v := nI (i + 1)) d_Mm_hasCasting_31 (j := 1) rfl (nI_add _ _) (by decide) rfl ?_
        refine r_goto (tgt := 4) d_Mm_hasCasting_34 (by decide) ?_
        exact ih (i + 1) _ (by omega) (by omega) (Or.inr rfl)
      · refine r_aload_n d_Mm_hasCasting_14 rfl 2 rfl ?_
        refine r_get fs_Mm_7 d_Mm_hasCasting_15 (q0 := 0) rfl rfl ?_
        refine r_iload_n d_Mm_hasCasting_18 rfl 0 rfl ?_
        refine r_cald d_Mm_hasCasting_19 (q0 := 1) rfl (vp_in_nI (by omega) (by omega)) (v := f i) (by rw [nI_clamp (by omega)]) ?_
        refine r_bipush d_Mm_hasCasting_20 (v := 99) (by decide) ?_
        refine r_icmp_ne (tgt := 29) d_Mm_hasCasting_22 (by decide) (fun c_22 => ?_) (fun c_22 => ?_)
        · refine r_iconst d_Mm_hasCasting_29 (v := 0) (by decide) ?_
          refine r_istore_n (lv' := [(1, .int 0), (2, .int (nI i)), (0, .ref m)]) d_Mm_hasCasting_30 rfl (by decide) rfl ?_
          refine r_iinc (lv' := [(2, .int (nI (i + 1))), (1, .int 0), (0, .ref m)]) (v := nI (i + 1)) d_Mm_hasCasting_31 (j := 1) rfl (nI_add _ _) (by decide) rfl ?_
          refine r_goto (tgt := 4) d_Mm_hasCasting_34 (by decide) ?_
          exact ih (i + 1) _ (by omega) (by omega) (Or.inl rfl)
        · refine r_iconst d_Mm_hasCasting_25 (v := 1) (by decide) ?_
          refine r_goto (tgt := 30) d_Mm_hasCasting_26 (by decide) ?_
          refine r_istore_n (lv' := [(1, .int 1), (2, .int (nI i)), (0, .ref m)]) d_Mm_hasCasting_30 rfl (by decide) rfl ?_
          refine r_iinc (lv' := [(2, .int (nI (i + 1))), (1, .int 1), (0, .ref m)]) (v := nI (i + 1)) d_Mm_hasCasting_31 (j := 1) rfl (nI_add _ _) (by decide) rfl ?_
          refine r_goto (tgt := 4) d_Mm_hasCasting_34 (by decide) ?_
          exact ih (i + 1) _ (by omega) (by omega) (Or.inr rfl)
set_option maxHeartbeats 4000000 in
set_option maxRecDepth 100000 in
theorem C_Mm_hasCastingW (g : zG) (m mp mf mh mn mt mz mc_ mq mgr ml mi mr mm mu mk mx : Nat) (th pt cl wa co_ fi bu ho lh mg wd fpi fal : Int32) (po de : Int64) (f : Nat → Int32) : CT g M_Mm_hasCasting [.ref m] [(m, .inr (12, [.int th, .ref mp, .int pt, .ref mf, .ref mh, .ref mn, .ref mt, .ref mz, .ref mc_, .ref mq, .ref mgr, .int cl, .int wa, .int co_, .int fi, .int bu, .int ho, .ref ml, .ref mi, .ref mr, .int lh, .int mg, .int wd, .int fpi, .int fal, .ref mm, .ref mu, .ref mk, .ref mx, .long po, .long de])), (mp, .inl (1, 108, .inl f))] (fun o cs1 => ∃ (v9 : Int32), (v9 = 0 ∨ v9 = 1) ∧ o = .inl (some (.int v9)) ∧ cs1 = [(m, .inr (12, [.int th, .ref mp, .int pt, .ref mf, .ref mh, .ref mn, .ref mt, .ref mz, .ref mc_, .ref mq, .ref mgr, .int cl, .int wa, .int co_, .int fi, .int bu, .int ho, .ref ml, .ref mi, .ref mr, .int lh, .int mg, .int wd, .int fpi, .int fal, .ref mm, .ref mu, .ref mk, .ref mx, .long po, .long de])), (mp, .inl (1, 108, .inl f))]) 0 0 := by
  refine z_of (by decide) rfl (Nat.le_of_ble_eq_true rfl) (fun w0 => ?_)
  refine r_lvE (lv2 := [(0, .ref m)]) rfl ?_
  refine r_iconst d_Mm_hasCasting_0 (v := 0) (by decide) ?_
  refine r_istore_n (lv' := [(1, .int 0), (0, .ref m)]) d_Mm_hasCasting_1 rfl (by decide) rfl ?_
  refine r_iconst d_Mm_hasCasting_2 (v := 0) (by decide) ?_
  refine r_istore_n (lv' := [(2, .int 0), (1, .int 0), (0, .ref m)]) d_Mm_hasCasting_3 rfl (by decide) rfl ?_
  exact L_Mm_hasCastingW_4 g m mp mf mh mn mt mz mc_ mq mgr ml mi mr mm mu mk mx th pt cl wa co_ fi bu ho lh mg wd fpi fal po de f w0 _  (108 + 1) 0 _ (Nat.zero_le _) (by omega) (Or.inl rfl)
abbrev M_Mm_isCold : zM := (⟨"IronpourModel", "isCold", "([CZ)Z"⟩, prog_14_method_76_code, 6, (Option.some FieldType.boolean), 2, 40, [])
theorem d_Mm_isCold_5 : decode prog_14_method_76_code 5 = .ok (.iload 4, 2) := by decide +kernel
theorem d_Mm_isCold_7 : decode prog_14_method_76_code 7 = .ok (.bipush 108, 2) := by decide +kernel
theorem d_Mm_isCold_9 : decode prog_14_method_76_code 9 = .ok (.if_icmp .ge 72, 3) := by decide +kernel
theorem d_Mm_isCold_81 : decode prog_14_method_76_code 81 = .ok (.iload_n 3, 1) := by decide +kernel
theorem d_Mm_isCold_82 : decode prog_14_method_76_code 82 = .ok (.ireturn, 1) := by decide +kernel
theorem d_Mm_isCold_12 : decode prog_14_method_76_code 12 = .ok (.aload_n 0, 1) := by decide +kernel
theorem d_Mm_isCold_13 : decode prog_14_method_76_code 13 = .ok (.getfield 17, 3) := by decide +kernel
theorem d_Mm_isCold_16 : decode prog_14_method_76_code 16 = .ok (.iload 4, 2) := by decide +kernel
theorem d_Mm_isCold_18 : decode prog_14_method_76_code 18 = .ok (.iaload, 1) := by decide +kernel
theorem d_Mm_isCold_19 : decode prog_14_method_76_code 19 = .ok (.iconst (-1), 1) := by decide +kernel
theorem d_Mm_isCold_20 : decode prog_14_method_76_code 20 = .ok (.if_icmp .eq 23, 3) := by decide +kernel
theorem d_Mm_isCold_43 : decode prog_14_method_76_code 43 = .ok (.iconst 1, 1) := by decide +kernel
theorem d_Mm_isCold_44 : decode prog_14_method_76_code 44 = .ok (.goto 4, 3) := by decide +kernel
theorem d_Mm_isCold_48 : decode prog_14_method_76_code 48 = .ok (.istore 5, 2) := by decide +kernel
theorem d_Mm_isCold_50 : decode prog_14_method_76_code 50 = .ok (.iload_n 3, 1) := by decide +kernel
theorem d_Mm_isCold_51 : decode prog_14_method_76_code 51 = .ok (.ifCond .ne 18, 3) := by decide +kernel
theorem d_Mm_isCold_69 : decode prog_14_method_76_code 69 = .ok (.iconst 1, 1) := by decide +kernel
theorem d_Mm_isCold_70 : decode prog_14_method_76_code 70 = .ok (.goto 4, 3) := by decide +kernel
theorem d_Mm_isCold_74 : decode prog_14_method_76_code 74 = .ok (.istore_n 3, 1) := by decide +kernel
theorem d_Mm_isCold_75 : decode prog_14_method_76_code 75 = .ok (.iinc 4 1, 3) := by decide +kernel
theorem d_Mm_isCold_78 : decode prog_14_method_76_code 78 = .ok (.goto (-73), 3) := by decide +kernel
theorem d_Mm_isCold_54 : decode prog_14_method_76_code 54 = .ok (.aload_n 1, 1) := by decide +kernel
theorem d_Mm_isCold_55 : decode prog_14_method_76_code 55 = .ok (.iload 4, 2) := by decide +kernel
theorem d_Mm_isCold_57 : decode prog_14_method_76_code 57 = .ok (.caload, 1) := by decide +kernel
theorem d_Mm_isCold_58 : decode prog_14_method_76_code 58 = .ok (.invokestatic 107, 3) := by decide +kernel
theorem ok_Mm_isCold_Mm_isMetal : z_ok M_Mm_isCold M_Mm_isMetal 1 := ⟨z_mem (i := 1711) (by decide +kernel) (by decide +kernel), rfl, ⟨by decide +kernel, by decide +kernel, by decide +kernel⟩, ⟨by decide, by decide⟩, z_mem (i := 71) (by decide +kernel) (by decide +kernel), rfl⟩
theorem d_Mm_isCold_61 : decode prog_14_method_76_code 61 = .ok (.ifCond .eq 12, 3) := by decide +kernel
theorem d_Mm_isCold_73 : decode prog_14_method_76_code 73 = .ok (.iconst 0, 1) := by decide +kernel
theorem d_Mm_isCold_64 : decode prog_14_method_76_code 64 = .ok (.iload 5, 2) := by decide +kernel
theorem d_Mm_isCold_66 : decode prog_14_method_76_code 66 = .ok (.ifCond .eq 7, 3) := by decide +kernel
theorem d_Mm_isCold_23 : decode prog_14_method_76_code 23 = .ok (.aload_n 0, 1) := by decide +kernel
theorem d_Mm_isCold_24 : decode prog_14_method_76_code 24 = .ok (.getfield 257, 3) := by decide +kernel
theorem d_Mm_isCold_27 : decode prog_14_method_76_code 27 = .ok (.iconst 2, 1) := by decide +kernel
theorem d_Mm_isCold_28 : decode prog_14_method_76_code 28 = .ok (.aload_n 0, 1) := by decide +kernel
theorem d_Mm_isCold_29 : decode prog_14_method_76_code 29 = .ok (.getfield 17, 3) := by decide +kernel
theorem d_Mm_isCold_32 : decode prog_14_method_76_code 32 = .ok (.iload 4, 2) := by decide +kernel
theorem d_Mm_isCold_34 : decode prog_14_method_76_code 34 = .ok (.iaload, 1) := by decide +kernel
theorem d_Mm_isCold_35 : decode prog_14_method_76_code 35 = .ok (.imul, 1) := by decide +kernel
theorem d_Mm_isCold_36 : decode prog_14_method_76_code 36 = .ok (.isub, 1) := by decide +kernel
theorem d_Mm_isCold_37 : decode prog_14_method_76_code 37 = .ok (.sipush 1200, 3) := by decide +kernel
theorem d_Mm_isCold_40 : decode prog_14_method_76_code 40 = .ok (.if_icmp .ge 7, 3) := by decide +kernel
theorem d_Mm_isCold_47 : decode prog_14_method_76_code 47 = .ok (.iconst 0, 1) := by decide +kernel
theorem d_Mm_isCold_0 : decode prog_14_method_76_code 0 = .ok (.iload_n 2, 1) := by decide +kernel
theorem d_Mm_isCold_1 : decode prog_14_method_76_code 1 = .ok (.istore_n 3, 1) := by decide +kernel
theorem d_Mm_isCold_2 : decode prog_14_method_76_code 2 = .ok (.iconst 0, 1) := by decide +kernel
theorem d_Mm_isCold_3 : decode prog_14_method_76_code 3 = .ok (.istore 4, 2) := by decide +kernel
set_option maxHeartbeats 4000000 in
set_option maxRecDepth 100000 in
theorem L_Mm_isColdW_5 (g : zG) (m mp mf mh mn mt mz mc_ mq mgr ml mi mr mm mu mk mx : Nat) (th pt cl wa co_ fi bu ho lh mg wd fpi fal : Int32) (po de : Int64) (b : Nat) (f : Nat → Int32) (fl : Nat → Int32) (s : Int32) (hs : s = 0 ∨ s = 1) (w0 : zW) (n : Nat) : ∀ (d i : Nat) (lf : Int32), i ≤ 108 → 108 < i + d → (lf = 0 ∨ lf = 1) → DV g M_Mm_isCold (fun o cs1 => ∃ (v9 : Int32), (v9 = 0 ∨ v9 = 1) ∧ o = .inl (some (.int v9)) ∧ cs1 = [(m, .inr (12, [.int th, .ref mp, .int pt, .ref mf, .ref mh, .ref mn, .ref mt, .ref mz, .ref mc_, .ref mq, .ref mgr, .int cl, .int wa, .int co_, .int fi, .int bu, .int ho, .ref ml, .ref mi, .ref mr, .int lh, .int mg, .int wd, .int fpi, .int fal, .ref mm, .ref mu, .ref mk, .ref mx, .long po, .long de])), (b, .inl (1, 108, .inl f)), (mf, .inl (0, 108, .inl fl))]) w0 n 5 [(4, .int (nI i)), (3, .int lf), (0, .ref m), (1, .ref b), (2, .int s)] [] [(m, .inr (12, [.int th, .ref mp, .int pt, .ref mf, .ref mh, .ref mn, .ref mt, .ref mz, .ref mc_, .ref mq, .ref mgr, .int cl, .int wa, .int co_, .int fi, .int bu, .int ho, .ref ml, .ref mi, .ref mr, .int lh, .int mg, .int wd, .int fpi, .int fal, .ref mm, .ref mu, .ref mk, .ref mx, .long po, .long de])), (b, .inl (1, 108, .inl f)), (mf, .inl (0, 108, .inl fl))] 0 0 := by
  intro d
  induction d with
  | zero => intro i lf h1 h2 v1; exact absurd h2 (by omega)
  | succ d ih =>
    intro i lf h1 h2 v1
    refine r_iload d_Mm_isCold_5 0 rfl ?_
    refine r_bipush d_Mm_isCold_7 (v := 108) (by decide) ?_
    refine r_icmp_ge (tgt := 81) d_Mm_isCold_9 (by decide) (fun c_9 => ?_) (fun c_9 => ?_)
    · have hn := z_le (a := 108) (by omega) (by decide) c_9
      obtain rfl : i = 108 := by omega
      refine r_iload_n d_Mm_isCold_81 rfl 1 rfl ?_
      refine r_iret d_Mm_isCold_82 rfl (z_nar01 v1) ?_
      exact ⟨_, v1, rfl, rfl⟩
    · have hn := z_nle (a := 108) (by omega) (by decide) c_9
      refine r_aload_n d_Mm_isCold_12 rfl 2 rfl ?_
      refine r_get fs_Mm_17 d_Mm_isCold_13 (q0 := 0) rfl rfl ?_
      refine r_iload d_Mm_isCold_16 0 rfl ?_
      refine r_iald d_Mm_isCold_18 (q0 := 2) rfl (vp_in_nI (by omega) (by omega)) (v := fl i) (by rw [nI_clamp (by omega)]) ?_
      refine r_iconst d_Mm_isCold_19 (v := (-1)) (by decide) ?_
      refine r_icmp_eq (tgt := 43) d_Mm_isCold_20 (by decide) (fun c_20 => ?_) (fun c_20 => ?_)
      · refine r_iconst d_Mm_isCold_43 (v := 1) (by decide) ?_
        refine r_goto (tgt := 48) d_Mm_isCold_44 (by decide) ?_
        refine r_istore (lv' := [(5, .int 1), (4, .int (nI i)), (3, .int lf), (0, .ref m), (1, .ref b), (2, .int s)]) d_Mm_isCold_48 (by decide) rfl ?_
        refine r_iload_n d_Mm_isCold_50 rfl 2 rfl ?_
        refine r_if_ne (tgt := 69) d_Mm_isCold_51 (by decide) (fun c_51 => ?_) (fun c_51 => ?_)
        · refine r_iconst d_Mm_isCold_69 (v := 1) (by decide) ?_
          refine r_goto (tgt := 74) d_Mm_isCold_70 (by decide) ?_
          refine r_istore_n (lv' := [(3, .int 1), (5, .int 1), (4, .int (nI i)), (0, .ref m), (1, .ref b), (2, .int s)]) d_Mm_isCold_74 rfl (by decide) rfl ?_
          refine r_iinc (lv' := [(4, .int (nI (i + 1))), (3, .int 1), (5, .int 1), (0, .ref m), (1, .ref b), (2, .int s)]) (v := nI (i + 1)) d_Mm_isCold_75 (j := 2) rfl (nI_add _ _) (by decide) rfl ?_
          refine r_goto (tgt := 5) d_Mm_isCold_78 (by decide) ?_
          refine r_lv (lv' := [(4, .int (nI (i + 1))), (3, .int 1), (0, .ref m), (1, .ref b), (2, .int s)]) [0, 1, 3, 4, 5] rfl ?_
          exact ih (i + 1) _ (by omega) (by omega) (Or.inr rfl)
        · refine r_aload_n d_Mm_isCold_54 rfl 4 rfl ?_
          refine r_iload d_Mm_isCold_55 1 rfl ?_
          refine r_cald d_Mm_isCold_57 (q0 := 1) rfl (vp_in_nI (by omega) (by omega)) (v := f i) (by rw [nI_clamp (by omega)]) ?_
          refine r_callS (As := [.int (f i)]) (rest := []) (csC := []) (is := []) ln_Mm_107 w_st_Mm_isMetal ok_Mm_isCold_Mm_isMetal d_Mm_isCold_58 (C_Mm_isMetal g (f i)) rfl rfl (Nat.le_of_ble_eq_true rfl) rfl (by decide) (by omega) (by omega) (fun E cs1 hx => ?_) (fun v cs1 hx => ?_)
          · exact absurd hx.1 (by simp)
          · obtain ⟨e1, rfl⟩ := hx
            cases e1
            refine ⟨rfl, ?_⟩
            refine r_st (st2 := [.int (z_bi (tmB (f i)))]) rfl ?_
            refine r_cs (cs2 := [(m, .inr (12, [.int th, .ref mp, .int pt, .ref mf, .ref mh, .ref mn, .ref mt, .ref mz, .ref mc_, .ref mq, .ref mgr, .int cl, .int wa, .int co_, .int fi, .int bu, .int ho, .ref ml, .ref mi, .ref mr, .int lh, .int mg, .int wd, .int fpi, .int fal, .ref mm, .ref mu, .ref mk, .ref mx, .long po, .long de])), (b, .inl (1, 108, .inl f)), (mf, .inl (0, 108, .inl fl))]) rfl ?_
            refine r_if_eq (tgt := 73) d_Mm_isCold_61 (by decide) (fun c_61 => ?_) (fun c_61 => ?_)
            · refine r_iconst d_Mm_isCold_73 (v := 0) (by decide) ?_
              refine r_istore_n (lv' := [(3, .int 0), (5, .int 1), (4, .int (nI i)), (0, .ref m), (1, .ref b), (2, .int s)]) d_Mm_isCold_74 rfl (by decide) rfl ?_
              refine r_iinc (lv' := [(4, .int (nI (i + 1))), (3, .int 0), (5, .int 1), (0, .ref m), (1, .ref b), (2, .int s)]) (v := nI (i + 1)) d_Mm_isCold_75 (j := 2) rfl (nI_add _ _) (by decide) rfl ?_
              refine r_goto (tgt := 5) d_Mm_isCold_78 (by decide) ?_
              refine r_lv (lv' := [(4, .int (nI (i + 1))), (3, .int 0), (0, .ref m), (1, .ref b), (2, .int s)]) [0, 1, 3, 4, 5] rfl ?_
              exact ih (i + 1) _ (by omega) (by omega) (Or.inl rfl)
            · refine r_iload d_Mm_isCold_64 0 rfl ?_
              refine r_if_eq (tgt := 73) d_Mm_isCold_66 (by decide) (fun c_66 => ?_) (fun c_66 => ?_)
              · exact absurd c_66 (by decide)
              · refine r_iconst d_Mm_isCold_69 (v := 1) (by decide) ?_
                refine r_goto (tgt := 74) d_Mm_isCold_70 (by decide) ?_
                refine r_istore_n (lv' := [(3, .int 1), (5, .int 1), (4, .int (nI i)), (0, .ref m), (1, .ref b), (2, .int s)]) d_Mm_isCold_74 rfl (by decide) rfl ?_
                refine r_iinc (lv' := [(4, .int (nI (i + 1))), (3, .int 1), (5, .int 1), (0, .ref m), (1, .ref b), (2, .int s)]) (v := nI (i + 1)) d_Mm_isCold_75 (j := 2) rfl (nI_add _ _) (by decide) rfl ?_
                refine r_goto (tgt := 5) d_Mm_isCold_78 (by decide) ?_
                refine r_lv (lv' := [(4, .int (nI (i + 1))), (3, .int 1), (0, .ref m), (1, .ref b), (2, .int s)]) [0, 1, 3, 4, 5] rfl ?_
                exact ih (i + 1) _ (by omega) (by omega) (Or.inr rfl)
      · refine r_aload_n d_Mm_isCold_23 rfl 2 rfl ?_
        refine r_get fs_Mm_257 d_Mm_isCold_24 (q0 := 0) rfl rfl ?_
        refine r_iconst d_Mm_isCold_27 (v := 2) (by decide) ?_
        refine r_aload_n d_Mm_isCold_28 rfl 2 rfl ?_
        refine r_get fs_Mm_17 d_Mm_isCold_29 (q0 := 0) rfl rfl ?_
        refine r_iload d_Mm_isCold_32 0 rfl ?_
        refine r_iald d_Mm_isCold_34 (q0 := 2) rfl (vp_in_nI (by omega) (by omega)) (v := fl i) (by rw [nI_clamp (by omega)]) ?_
        refine r_imul d_Mm_isCold_35 (v := 2 * (fl i)) rfl ?_
        refine r_isub d_Mm_isCold_36 (v := lh - (2 * (fl i))) rfl ?_
        refine r_sipush d_Mm_isCold_37 (v := 1200) (by decide) ?_
        refine r_icmp_ge (tgt := 47) d_Mm_isCold_40 (by decide) (fun c_40 => ?_) (fun c_40 => ?_)
        · refine r_iconst d_Mm_isCold_47 (v := 0) (by decide) ?_
          refine r_istore (lv' := [(5, .int 0), (4, .int (nI i)), (3, .int lf), (0, .ref m), (1, .ref b), (2, .int s)]) d_Mm_isCold_48 (by decide) rfl ?_
          refine r_iload_n d_Mm_isCold_50 rfl 2 rfl ?_
          refine r_if_ne (tgt := 69) d_Mm_isCold_51 (by decide) (fun c_51 => ?_) (fun c_51 => ?_)
          · refine r_iconst d_Mm_isCold_69 (v := 1) (by decide) ?_
            refine r_goto (tgt := 74) d_Mm_isCold_70 (by decide) ?_
            refine r_istore_n (lv' := [(3, .int 1), (5, .int 0), (4, .int (nI i)), (0, .ref m), (1, .ref b), (2, .int s)]) d_Mm_isCold_74 rfl (by decide) rfl ?_
            refine r_iinc (lv' := [(4, .int (nI (i + 1))), (3, .int 1), (5, .int 0), (0, .ref m), (1, .ref b), (2, .int s)]) (v := nI (i + 1)) d_Mm_isCold_75 (j := 2) rfl (nI_add _ _) (by decide) rfl ?_
            refine r_goto (tgt := 5) d_Mm_isCold_78 (by decide) ?_
            refine r_lv (lv' := [(4, .int (nI (i + 1))), (3, .int 1), (0, .ref m), (1, .ref b), (2, .int s)]) [0, 1, 3, 4, 5] rfl ?_
            exact ih (i + 1) _ (by omega) (by omega) (Or.inr rfl)
          · refine r_aload_n d_Mm_isCold_54 rfl 4 rfl ?_
            refine r_iload d_Mm_isCold_55 1 rfl ?_
            refine r_cald d_Mm_isCold_57 (q0 := 1) rfl (vp_in_nI (by omega) (by omega)) (v := f i) (by rw [nI_clamp (by omega)]) ?_
            refine r_callS (As := [.int (f i)]) (rest := []) (csC := []) (is := []) ln_Mm_107 w_st_Mm_isMetal ok_Mm_isCold_Mm_isMetal d_Mm_isCold_58 (C_Mm_isMetal g (f i)) rfl rfl (Nat.le_of_ble_eq_true rfl) rfl (by decide) (by omega) (by omega) (fun E cs1 hx => ?_) (fun v cs1 hx => ?_)
            · exact absurd hx.1 (by simp)
            · obtain ⟨e1, rfl⟩ := hx
              cases e1
              refine ⟨rfl, ?_⟩
              refine r_st (st2 := [.int (z_bi (tmB (f i)))]) rfl ?_
              refine r_cs (cs2 := [(m, .inr (12, [.int th, .ref mp, .int pt, .ref mf, .ref mh, .ref mn, .ref mt, .ref mz, .ref mc_, .ref mq, .ref mgr, .int cl, .int wa, .int co_, .int fi, .int bu, .int ho, .ref ml, .ref mi, .ref mr, .int lh, .int mg, .int wd, .int fpi, .int fal, .ref mm, .ref mu, .ref mk, .ref mx, .long po, .long de])), (b, .inl (1, 108, .inl f)), (mf, .inl (0, 108, .inl fl))]) rfl ?_
              refine r_if_eq (tgt := 73) d_Mm_isCold_61 (by decide) (fun c_61 => ?_) (fun c_61 => ?_)
              · refine r_iconst d_Mm_isCold_73 (v := 0) (by decide) ?_
                refine r_istore_n (lv' := [(3, .int 0), (5, .int 0), (4, .int (nI i)), (0, .ref m), (1, .ref b), (2, .int s)]) d_Mm_isCold_74 rfl (by decide) rfl ?_
                refine r_iinc (lv' := [(4, .int (nI (i + 1))), (3, .int 0), (5, .int 0), (0, .ref m), (1, .ref b), (2, .int s)]) (v := nI (i + 1)) d_Mm_isCold_75 (j := 2) rfl (nI_add _ _) (by decide) rfl ?_
                refine r_goto (tgt := 5) d_Mm_isCold_78 (by decide) ?_
                refine r_lv (lv' := [(4, .int (nI (i + 1))), (3, .int 0), (0, .ref m), (1, .ref b), (2, .int s)]) [0, 1, 3, 4, 5] rfl ?_
                exact ih (i + 1) _ (by omega) (by omega) (Or.inl rfl)
              · refine r_iload d_Mm_isCold_64 0 rfl ?_
                refine r_if_eq (tgt := 73) d_Mm_isCold_66 (by decide) (fun c_66 => ?_) (fun c_66 => ?_)
                · refine r_iconst d_Mm_isCold_73 (v := 0) (by decide) ?_
                  refine r_istore_n (lv' := [(3, .int 0), (5, .int 0), (4, .int (nI i)), (0, .ref m), (1, .ref b), (2, .int s)]) d_Mm_isCold_74 rfl (by decide) rfl ?_
                  refine r_iinc (lv' := [(4, .int (nI (i + 1))), (3, .int 0), (5, .int 0), (0, .ref m), (1, .ref b), (2, .int s)]) (v := nI (i + 1)) d_Mm_isCold_75 (j := 2) rfl (nI_add _ _) (by decide) rfl ?_
                  refine r_goto (tgt := 5) d_Mm_isCold_78 (by decide) ?_
                  refine r_lv (lv' := [(4, .int (nI (i + 1))), (3, .int 0), (0, .ref m), (1, .ref b), (2, .int s)]) [0, 1, 3, 4, 5] rfl ?_
                  exact ih (i + 1) _ (by omega) (by omega) (Or.inl rfl)
                · exact absurd c_66 (by decide)
        · refine r_iconst d_Mm_isCold_43 (v := 1) (by decide) ?_
          refine r_goto (tgt := 48) d_Mm_isCold_44 (by decide) ?_
          refine r_istore (lv' := [(5, .int 1), (4, .int (nI i)), (3, .int lf), (0, .ref m), (1, .ref b), (2, .int s)]) d_Mm_isCold_48 (by decide) rfl ?_
          refine r_iload_n d_Mm_isCold_50 rfl 2 rfl ?_
          refine r_if_ne (tgt := 69) d_Mm_isCold_51 (by decide) (fun c_51 => ?_) (fun c_51 => ?_)
          · refine r_iconst d_Mm_isCold_69 (v := 1) (by decide) ?_
            refine r_goto (tgt := 74) d_Mm_isCold_70 (by decide) ?_
            refine r_istore_n (lv' := [(3, .int 1), (5, .int 1), (4, .int (nI i)), (0, .ref m), (1, .ref b), (2, .int s)]) d_Mm_isCold_74 rfl (by decide) rfl ?_
            refine r_iinc (lv' := [(4, .int (nI (i + 1))), (3, .int 1), (5, .int 1), (0, .ref m), (1, .ref b), (2, .int s)]) (v := nI (i + 1)) d_Mm_isCold_75 (j := 2) rfl (nI_add _ _) (by decide) rfl ?_
            refine r_goto (tgt := 5) d_Mm_isCold_78 (by decide) ?_
            refine r_lv (lv' := [(4, .int (nI (i + 1))), (3, .int 1), (0, .ref m), (1, .ref b), (2, .int s)]) [0, 1, 3, 4, 5] rfl ?_
            exact ih (i + 1) _ (by omega) (by omega) (Or.inr rfl)
          · refine r_aload_n d_Mm_isCold_54 rfl 4 rfl ?_
            refine r_iload d_Mm_isCold_55 1 rfl ?_
            refine r_cald d_Mm_isCold_57 (q0 := 1) rfl (vp_in_nI (by omega) (by omega)) (v := f i) (by rw [nI_clamp (by omega)]) ?_
            refine r_callS (As := [.int (f i)]) (rest := []) (csC := []) (is := []) ln_Mm_107 w_st_Mm_isMetal ok_Mm_isCold_Mm_isMetal d_Mm_isCold_58 (C_Mm_isMetal g (f i)) rfl rfl (Nat.le_of_ble_eq_true rfl) rfl (by decide) (by omega) (by omega) (fun E cs1 hx => ?_) (fun v cs1 hx => ?_)
            · exact absurd hx.1 (by simp)
            · obtain ⟨e1, rfl⟩ := hx
              cases e1
              refine ⟨rfl, ?_⟩
              refine r_st (st2 := [.int (z_bi (tmB (f i)))]) rfl ?_
              refine r_cs (cs2 := [(m, .inr (12, [.int th, .ref mp, .int pt, .ref mf, .ref mh, .ref mn, .ref mt, .ref mz, .ref mc_, .ref mq, .ref mgr, .int cl, .int wa, .int co_, .int fi, .int bu, .int ho, .ref ml, .ref mi, .ref mr, .int lh, .int mg, .int wd, .int fpi, .int fal, .ref mm, .ref mu, .ref mk, .ref mx, .long po, .long de])), (b, .inl (1, 108, .inl f)), (mf, .inl (0, 108, .inl fl))]) rfl ?_
              refine r_if_eq (tgt := 73) d_Mm_isCold_61 (by decide) (fun c_61 => ?_) (fun c_61 => ?_)
              · refine r_iconst d_Mm_isCold_73 (v := 0) (by decide) ?_
                refine r_istore_n (lv' := [(3, .int 0), (5, .int 1), (4, .int (nI i)), (0, .ref m), (1, .ref b), (2, .int s)]) d_Mm_isCold_74 rfl (by decide) rfl ?_
                refine r_iinc (lv' := [(4, .int (nI (i + 1))), (3, .int 0), (5, .int 1), (0, .ref m), (1, .ref b), (2, .int s)]) (v := nI (i + 1)) d_Mm_isCold_75 (j := 2) rfl (nI_add _ _) (by decide) rfl ?_
                refine r_goto (tgt := 5) d_Mm_isCold_78 (by decide) ?_
                refine r_lv (lv' := [(4, .int (nI (i + 1))), (3, .int 0), (0, .ref m), (1, .ref b), (2, .int s)]) [0, 1, 3, 4, 5] rfl ?_
                exact ih (i + 1) _ (by omega) (by omega) (Or.inl rfl)
              · refine r_iload d_Mm_isCold_64 0 rfl ?_
                refine r_if_eq (tgt := 73) d_Mm_isCold_66 (by decide) (fun c_66 => ?_) (fun c_66 => ?_)
                · exact absurd c_66 (by decide)
                · refine r_iconst d_Mm_isCold_69 (v := 1) (by decide) ?_
                  refine r_goto (tgt := 74) d_Mm_isCold_70 (by decide) ?_
                  refine r_istore_n (lv' := [(3, .int 1), (5, .int 1), (4, .int (nI i)), (0, .ref m), (1, .ref b), (2, .int s)]) d_Mm_isCold_74 rfl (by decide) rfl ?_
                  refine r_iinc (lv' := [(4, .int (nI (i + 1))), (3, .int 1), (5, .int 1), (0, .ref m), (1, .ref b), (2, .int s)]) (v := nI (i + 1)) d_Mm_isCold_75 (j := 2) rfl (nI_add _ _) (by decide) rfl ?_
                  refine r_goto (tgt := 5) d_Mm_isCold_78 (by decide) ?_
                  refine r_lv (lv' := [(4, .int (nI (i + 1))), (3, .int 1), (0, .ref m), (1, .ref b), (2, .int s)]) [0, 1, 3, 4, 5] rfl ?_
                  exact ih (i + 1) _ (by omega) (by omega) (Or.inr rfl)
set_option maxHeartbeats 4000000 in
set_option maxRecDepth 100000 in
theorem C_Mm_isColdW (g : zG) (m mp mf mh mn mt mz mc_ mq mgr ml mi mr mm mu mk mx : Nat) (th pt cl wa co_ fi bu ho lh mg wd fpi fal : Int32) (po de : Int64) (b : Nat) (f : Nat → Int32) (fl : Nat → Int32) (s : Int32) (hs : s = 0 ∨ s = 1) : CT g M_Mm_isCold [.ref m, .ref b, .int s] [(m, .inr (12, [.int th, .ref mp, .int pt, .ref mf, .ref mh, .ref mn, .ref mt, .ref mz, .ref mc_, .ref mq, .ref mgr, .int cl, .int wa, .int co_, .int fi, .int bu, .int ho, .ref ml, .ref mi, .ref mr, .int lh, .int mg, .int wd, .int fpi, .int fal, .ref mm, .ref mu, .ref mk, .ref mx, .long po, .long de])), (b, .inl (1, 108, .inl f)), (mf, .inl (0, 108, .inl fl))] (fun o cs1 => ∃ (v9 : Int32), (v9 = 0 ∨ v9 = 1) ∧ o = .inl (some (.int v9)) ∧ cs1 = [(m, .inr (12, [.int th, .ref mp, .int pt, .ref mf, .ref mh, .ref mn, .ref mt, .ref mz, .ref mc_, .ref mq, .ref mgr, .int cl, .int wa, .int co_, .int fi, .int bu, .int ho, .ref ml, .ref mi, .ref mr, .int lh, .int mg, .int wd, .int fpi, .int fal, .ref mm, .ref mu, .ref mk, .ref mx, .long po, .long de])), (b, .inl (1, 108, .inl f)), (mf, .inl (0, 108, .inl fl))]) 0 0 := by
  refine z_of (by decide) rfl (Nat.le_of_ble_eq_true rfl) (fun w0 => ?_)
  refine r_lvE (lv2 := [(0, .ref m), (1, .ref b), (2, .int s)]) rfl ?_
  refine r_iload_n d_Mm_isCold_0 rfl 2 rfl ?_
  refine r_istore_n (lv' := [(3, .int s), (0, .ref m), (1, .ref b), (2, .int s)]) d_Mm_isCold_1 rfl (by decide) rfl ?_
  refine r_iconst d_Mm_isCold_2 (v := 0) (by decide) ?_
  refine r_istore (lv' := [(4, .int 0), (3, .int s), (0, .ref m), (1, .ref b), (2, .int s)]) d_Mm_isCold_3 (by decide) rfl ?_
  exact L_Mm_isColdW_5 g m mp mf mh mn mt mz mc_ mq mgr ml mi mr mm mu mk mx th pt cl wa co_ fi bu ho lh mg wd fpi fal po de b f fl s hs w0 _  (108 + 1) 0 _ (Nat.zero_le _) (by omega) hs
