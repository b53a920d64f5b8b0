theorem d_Ca_init_8 : decode prog_2_method_1_code 8 = .ok (.dup, 1) := zo_89 (zd_b zq_prog_2_method_1_code_0 8 rfl rfl rfl)
theorem d_Ca_init_9 : decode prog_2_method_1_code 9 = .ok (.invokespecial 11, 3) := zo_183 (d := 0) (e := 11) (zd_b zq_prog_2_method_1_code_0 9 rfl rfl rfl) (zd_b zq_prog_2_method_1_code_0 10 rfl rfl rfl) (zd_b zq_prog_2_method_1_code_0 11 rfl rfl rfl)
theorem ok_Ca_init_Me_init : z_ok M_Ca_init M_Me_init 0 := ⟨z_mj1 (i := 195) rfl (by decide +kernel), rfl, ⟨by decide +kernel, by decide +kernel, by decide +kernel⟩, ⟨by decide, by decide⟩, z_mj1 (i := 8) rfl (by decide +kernel), rfl⟩
theorem ln_Ca_11 : Cond.methodLinkNest "Ironpour$Casting" 11 M_Me_init.1 "Ironpour" ∈ z_nw := z_mk6 (i := 139) rfl (by decide +kernel)
theorem d_Ca_init_12 : decode prog_2_method_1_code 12 = .ok (.putfield 12, 3) := zo_181 (d := 0) (e := 12) (zd_b zq_prog_2_method_1_code_0 12 rfl rfl rfl) (zd_b zq_prog_2_method_1_code_0 13 rfl rfl rfl) (zd_b zq_prog_2_method_1_code_0 14 rfl rfl rfl)
theorem u_Ca : ∀ x ∈ u_ws R_Ca F_Ca 6, x ∈ z_gw := fun x hx => List.mem_filter.mpr ⟨(z_au [(6, 148), (6, 150), (6, 152), (6, 154), (6, 156), (6, 158)] (by decide +kernel) : ∀ x ∈ u_ws R_Ca F_Ca 6, x ∈ lw_tbl) x hx, (show ∀ x ∈ u_ws R_Ca F_Ca 6, goodWord x = true by decide +kernel) x hx⟩
theorem fp_Ca_12 : z_fp "Ironpour$Casting" 12 0 0 true (t_Ca 0) := ⟨R_Ca, "Ironpour$Casting", F_Ca, 6, t_Ca, rfl, u_Ca, by decide, t_Ca_ok, n_Ca, rfl, rfl, Or.inl ⟨z_mj6 (i := 140) rfl (by decide +kernel), Or.inl rfl, fun _ => ⟨rfl, rfl⟩⟩⟩
theorem d_Ca_init_15 : decode prog_2_method_1_code 15 = .ok (.aload_n 0, 1) := zo_42 (zd_b zq_prog_2_method_1_code_0 15 rfl rfl rfl)
theorem d_Ca_init_16 : decode prog_2_method_1_code 16 = .ok (.iload_n 1, 1) := zo_27 (zd_b zq_prog_2_method_1_code_0 16 rfl rfl rfl)
theorem d_Ca_init_17 : decode prog_2_method_1_code 17 = .ok (.putfield 18, 3) := zo_181 (d := 0) (e := 18) (zd_b zq_prog_2_method_1_code_0 17 rfl rfl rfl) (zd_b zq_prog_2_method_1_code_0 18 rfl rfl rfl) (zd_b zq_prog_2_method_1_code_0 19 rfl rfl rfl)
theorem fp_Ca_18 : z_fp "Ironpour$Casting" 18 0 1 true .int := ⟨R_Ca, "Ironpour$Casting", F_Ca, 6, t_Ca, rfl, u_Ca, by decide, t_Ca_ok, n_Ca, rfl, rfl, Or.inl ⟨z_mj6 (i := 142) rfl (by decide +kernel), Or.inl rfl, fun _ => ⟨rfl, rfl⟩⟩⟩
theorem d_Ca_init_20 : decode prog_2_method_1_code 20 = .ok (.return_, 1) := zo_177 (zd_b zq_prog_2_method_1_code_0 20 rfl rfl rfl)
set_option maxHeartbeats 4000000 in
set_option maxRecDepth 100000 in
theorem C_Ca_init (g : zG) (a : Nat) (mg : Int32) : CT g M_Ca_init [.ref a, .int mg] [(a, .inr (0, [.null, .int 0, .int 0, .int 0, .int 0, .int 0]))] (fun o cs1 => ∃ ab abg, o = .inl none ∧ cs1 = [(a, .inr (0, [.ref ab, .int mg, .int 0, .int 0, .int 0, .int 0])), (ab, .inr (6, [.ref abg, .int 0])), (abg, .inl (3, 4, .inr (.inl (fun _ => 0))))]) 3 10 := by
  refine z_of (by decide) rfl (Nat.le_of_ble_eq_true rfl) (fun w0 => ?_)
  refine r_lvE (lv2 := [(0, .ref a), (1, .int mg)]) rfl ?_
  refine r_aload_n d_Ca_init_0 rfl 0 rfl ?_
  refine r_objInit ln_Ca_3 w_oi1 w_oi2 d_Ca_init_1 (by decide) (by decide) (Nat.le_of_ble_eq_true rfl) ?_
  refine r_aload_n d_Ca_init_4 rfl 0 rfl ?_
  refine r_new nc_Ca_9 d_Ca_init_5 (by omega) (by omega) (fun ab => ?_)
  refine r_cs (cs2 := [(a, .inr (0, [.null, .int 0, .int 0, .int 0, .int 0, .int 0])), (ab, .inr (6, [.null, .int 0]))]) rfl ?_
  refine r_dup d_Ca_init_8 rfl ?_
  refine r_callIN (As := []) (rest := [.ref ab, .ref a]) (csC := [(ab, .inr (6, [.null, .int 0]))]) (is := [1]) rfl rfl ln_Ca_11 w_im_Me_init ok_Ca_init_Me_init d_Ca_init_9 (C_Me_init g ab) rfl rfl (Nat.le_of_ble_eq_true rfl) rfl (by decide) (by omega) (by omega) (fun E cs1 hx => ?_) (fun v cs1 hx => ?_)
  · obtain ⟨abg, e1, -⟩ := hx
    cases e1
  · obtain ⟨abg, e1, rfl⟩ := hx
    cases e1
    refine ⟨rfl, ?_⟩
    refine r_st (st2 := [.ref ab, .ref a]) rfl ?_
    refine r_cs (cs2 := [(a, .inr (0, [.null, .int 0, .int 0, .int 0, .int 0, .int 0])), (ab, .inr (6, [.ref abg, .int 0])), (abg, .inl (3, 4, .inr (.inl (fun _ => 0))))]) rfl ?_
    refine r_put fp_Ca_12 d_Ca_init_12 (fun _ => rfl) rfl rfl (q0 := 0) rfl (Nat.le_of_ble_eq_true rfl) (cs' := [(a, .inr (0, [.ref ab, .int 0, .int 0, .int 0, .int 0, .int 0])), (ab, .inr (6, [.ref abg, .int 0])), (abg, .inl (3, 4, .inr (.inl (fun _ => 0))))]) rfl ?_
    refine r_aload_n d_Ca_init_15 rfl 0 rfl ?_
    refine r_iload_n d_Ca_init_16 rfl 1 rfl ?_
    refine r_put fp_Ca_18 d_Ca_init_17 (fun _ => rfl) rfl rfl (q0 := 0) rfl (Nat.le_of_ble_eq_true rfl) (cs' := [(a, .inr (0, [.ref ab, .int mg, .int 0, .int 0, .int 0, .int 0])), (ab, .inr (6, [.ref abg, .int 0])), (abg, .inl (3, 4, .inr (.inl (fun _ => 0))))]) rfl ?_
    refine r_vret d_Ca_init_20 rfl ?_
    exact ⟨ab, abg, rfl, rfl⟩
abbrev M_Ca_isDuctile : zM := (⟨"Ironpour$Casting", "isDuctile", "()Z"⟩, prog_2_method_2_code, 1, (Option.some FieldType.boolean), 1, 20, [])
theorem d_Ca_isDuctile_0 : decode prog_2_method_2_code 0 = .ok (.aload_n 0, 1) := zo_42 (zd_b zq_prog_2_method_2_code_0 0 rfl rfl rfl)
theorem d_Ca_isDuctile_1 : decode prog_2_method_2_code 1 = .ok (.getfield 18, 3) := zo_180 (d := 0) (e := 18) (zd_b zq_prog_2_method_2_code_0 1 rfl rfl rfl) (zd_b zq_prog_2_method_2_code_0 2 rfl rfl rfl) (zd_b zq_prog_2_method_2_code_0 3 rfl rfl rfl)
theorem fs_Ca_18 : z_fs "Ironpour$Casting" 18 0 1 := ⟨R_Ca, "Ironpour$Casting", F_Ca, 6, rfl, u_Ca, by decide, Or.inl ⟨z_mj6 (i := 142) rfl (by decide +kernel), Or.inl rfl⟩⟩
theorem d_Ca_isDuctile_4 : decode prog_2_method_2_code 4 = .ok (.bipush 20, 2) := zo_16 (d := 20) (zd_b zq_prog_2_method_2_code_0 4 rfl rfl rfl) (zd_b zq_prog_2_method_2_code_0 5 rfl rfl rfl) (by decide +kernel)
theorem d_Ca_isDuctile_6 : decode prog_2_method_2_code 6 = .ok (.if_icmp .lt 7, 3) := zo_161 (d := 0) (e := 7) (zd_b zq_prog_2_method_2_code_0 6 rfl rfl rfl) (zd_b zq_prog_2_method_2_code_0 7 rfl rfl rfl) (zd_b zq_prog_2_method_2_code_0 8 rfl rfl rfl) (by decide +kernel)
theorem d_Ca_isDuctile_13 : decode prog_2_method_2_code 13 = .ok (.iconst 0, 1) := zo_3 (zd_b zq_prog_2_method_2_code_0 13 rfl rfl rfl)
theorem d_Ca_isDuctile_14 : decode prog_2_method_2_code 14 = .ok (.ireturn, 1) := zo_172 (zd_b zq_prog_2_method_2_code_0 14 rfl rfl rfl)
theorem d_Ca_isDuctile_9 : decode prog_2_method_2_code 9 = .ok (.iconst 1, 1) := zo_4 (zd_b zq_prog_2_method_2_code_0 9 rfl rfl rfl)
theorem d_Ca_isDuctile_10 : decode prog_2_method_2_code 10 = .ok (.goto 4, 3) := zo_167 (d := 0) (e := 4) (zd_b zq_prog_2_method_2_code_0 10 rfl rfl rfl) (zd_b zq_prog_2_method_2_code_0 11 rfl rfl rfl) (zd_b zq_prog_2_method_2_code_0 12 rfl rfl rfl) (by decide +kernel)
set_option maxHeartbeats 4000000 in
set_option maxRecDepth 100000 in
theorem C_Ca_isDuctile (g : zG) (a ab abg : Nat) (gr : Nat → Int64) (ir mg sh fb dl bk : Int32) : CT g M_Ca_isDuctile [.ref a] [(a, .inr (0, [.ref ab, .int mg, .int sh, .int fb, .int dl, .int bk])), (ab, .inr (6, [.ref abg, .int ir])), (abg, .inl (3, 4, .inr (.inl gr)))] (fun o cs1 => o = .inl (some (.int (if mg < 20 then 0 else 1))) ∧ cs1 = [(a, .inr (0, [.ref ab, .int mg, .int sh, .int fb, .int dl, .int bk])), (ab, .inr (6, [.ref abg, .int ir])), (abg, .inl (3, 4, .inr (.inl gr)))]) 0 0 := by
  refine z_of (by decide) rfl (Nat.le_of_ble_eq_true rfl) (fun w0 => ?_)
  refine r_lvE (lv2 := [(0, .ref a)]) rfl ?_
  refine r_aload_n d_Ca_isDuctile_0 rfl 0 rfl ?_
  refine r_get fs_Ca_18 d_Ca_isDuctile_1 (q0 := 0) rfl rfl ?_
  refine r_bipush d_Ca_isDuctile_4 (v := 20) (by decide) ?_
  refine r_icmp_lt (tgt := 13) d_Ca_isDuctile_6 (by decide) (fun c_6 => ?_) (fun c_6 => ?_)
  · refine r_iconst d_Ca_isDuctile_13 (v := 0) (by decide) ?_
    refine r_iret d_Ca_isDuctile_14 rfl rfl ?_
    refine ⟨?_, rfl⟩
    first | rw [if_pos (by assumption)] | rw [if_neg (by assumption)]
  · refine r_iconst d_Ca_isDuctile_9 (v := 1) (by decide) ?_
    refine r_goto (tgt := 14) d_Ca_isDuctile_10 (by decide) ?_
    refine r_iret d_Ca_isDuctile_14 rfl rfl ?_
    refine ⟨?_, rfl⟩
    first | rw [if_pos (by assumption)] | rw [if_neg (by assumption)]
abbrev M_Ca_isHard : zM := (⟨"Ironpour$Casting", "isHard", "()Z"⟩, prog_2_method_3_code, 1, (Option.some FieldType.boolean), 3, 61, [])
theorem d_Ca_isHard_0 : decode prog_2_method_3_code 0 = .ok (.aload_n 0, 1) := zo_42 (zd_b zq_prog_2_method_3_code_0 0 rfl rfl rfl)
theorem d_Ca_isHard_1 : decode prog_2_method_3_code 1 = .ok (.getfield 12, 3) := zo_180 (d := 0) (e := 12) (zd_b zq_prog_2_method_3_code_0 1 rfl rfl rfl) (zd_b zq_prog_2_method_3_code_0 2 rfl rfl rfl) (zd_b zq_prog_2_method_3_code_0 3 rfl rfl rfl)
theorem fs_Ca_12 : z_fs "Ironpour$Casting" 12 0 0 := ⟨R_Ca, "Ironpour$Casting", F_Ca, 6, rfl, u_Ca, by decide, Or.inl ⟨z_mj6 (i := 140) rfl (by decide +kernel), Or.inl rfl⟩⟩
theorem d_Ca_isHard_4 : decode prog_2_method_3_code 4 = .ok (.invokevirtual 22, 3) := zo_182 (d := 0) (e := 22) (zd_b zq_prog_2_method_3_code_0 4 rfl rfl rfl) (zd_b zq_prog_2_method_3_code_0 5 rfl rfl rfl) (zd_b zq_prog_2_method_3_code_0 6 rfl rfl rfl)
theorem ok_Ca_isHard_Me_carbonAlike : z_ok M_Ca_isHard M_Me_carbonAlike 0 := ⟨z_mj6 (i := 177) rfl (by decide +kernel), rfl, ⟨by decide +kernel, by decide +kernel, by decide +kernel⟩, ⟨by decide, by decide⟩, z_mj1 (i := 8) rfl (by decide +kernel), rfl⟩
theorem ln_Ca_22 : Cond.methodLink "Ironpour$Casting" 22 M_Me_carbonAlike.1 ∈ z_gw := z_mj6 (i := 174) rfl (by decide +kernel)
theorem w_im_Me_carbonAlike : Cond.instanceMethod M_Me_carbonAlike.1 ∈ z_gw := z_mj6 (i := 175) rfl (by decide +kernel)
theorem w_se_Me_carbonAlike : Cond.selects M_Me_carbonAlike.1.cls M_Me_carbonAlike.1 M_Me_carbonAlike.1 ∈ z_gw := z_mj6 (i := 176) rfl (by decide +kernel)
theorem d_Ca_isHard_7 : decode prog_2_method_3_code 7 = .ok (.sipush 370, 3) := zo_17 (d := 1) (e := 114) (zd_b zq_prog_2_method_3_code_0 7 rfl rfl rfl) (zd_b zq_prog_2_method_3_code_0 8 rfl rfl rfl) (zd_b zq_prog_2_method_3_code_0 9 rfl rfl rfl) (by decide +kernel)
theorem d_Ca_isHard_10 : decode prog_2_method_3_code 10 = .ok (.if_icmp .lt 17, 3) := zo_161 (d := 0) (e := 17) (zd_b zq_prog_2_method_3_code_0 10 rfl rfl rfl) (zd_b zq_prog_2_method_3_code_0 11 rfl rfl rfl) (zd_b zq_prog_2_method_3_code_0 12 rfl rfl rfl) (by decide +kernel)
theorem d_Ca_isHard_27 : decode prog_2_method_3_code 27 = .ok (.iconst 1, 1) := zo_4 (zd_b zq_prog_2_method_3_code_0 27 rfl rfl rfl)
theorem d_Ca_isHard_28 : decode prog_2_method_3_code 28 = .ok (.goto 4, 3) := zo_167 (d := 0) (e := 4) (zd_b zq_prog_2_method_3_code_0 28 rfl rfl rfl) (zd_b zq_prog_2_method_3_code_0 29 rfl rfl rfl) (zd_b zq_prog_2_method_3_code_0 30 rfl rfl rfl) (by decide +kernel)
theorem d_Ca_isHard_32 : decode prog_2_method_3_code 32 = .ok (.ireturn, 1) := zo_172 (zd_b zq_prog_2_method_3_code_1 0 rfl rfl rfl)
theorem d_Ca_isHard_13 : decode prog_2_method_3_code 13 = .ok (.aload_n 0, 1) := zo_42 (zd_b zq_prog_2_method_3_code_0 13 rfl rfl rfl)
theorem d_Ca_isHard_14 : decode prog_2_method_3_code 14 = .ok (.getfield 18, 3) := zo_180 (d := 0) (e := 18) (zd_b zq_prog_2_method_3_code_0 14 rfl rfl rfl) (zd_b zq_prog_2_method_3_code_0 15 rfl rfl rfl) (zd_b zq_prog_2_method_3_code_0 16 rfl rfl rfl)
theorem d_Ca_isHard_17 : decode prog_2_method_3_code 17 = .ok (.ifCond .le 14, 3) := zo_158 (d := 0) (e := 14) (zd_b zq_prog_2_method_3_code_0 17 rfl rfl rfl) (zd_b zq_prog_2_method_3_code_0 18 rfl rfl rfl) (zd_b zq_prog_2_method_3_code_0 19 rfl rfl rfl) (by decide +kernel)
theorem d_Ca_isHard_31 : decode prog_2_method_3_code 31 = .ok (.iconst 0, 1) := zo_3 (zd_b zq_prog_2_method_3_code_0 31 rfl rfl rfl)
theorem d_Ca_isHard_20 : decode prog_2_method_3_code 20 = .ok (.aload_n 0, 1) := zo_42 (zd_b zq_prog_2_method_3_code_0 20 rfl rfl rfl)
theorem d_Ca_isHard_21 : decode prog_2_method_3_code 21 = .ok (.invokevirtual 26, 3) := zo_182 (d := 0) (e := 26) (zd_b zq_prog_2_method_3_code_0 21 rfl rfl rfl) (zd_b zq_prog_2_method_3_code_0 22 rfl rfl rfl) (zd_b zq_prog_2_method_3_code_0 23 rfl rfl rfl)
theorem ok_Ca_isHard_Ca_isDuctile : z_ok M_Ca_isHard M_Ca_isDuctile 0 := ⟨z_mj6 (i := 182) rfl (by decide +kernel), rfl, ⟨by decide +kernel, by decide +kernel, by decide +kernel⟩, ⟨by decide, by decide⟩, z_mj1 (i := 35) rfl (by decide +kernel), rfl⟩
theorem ln_Ca_26 : Cond.methodLink "Ironpour$Casting" 26 M_Ca_isDuctile.1 ∈ z_gw := z_mj6 (i := 179) rfl (by decide +kernel)
theorem w_im_Ca_isDuctile : Cond.instanceMethod M_Ca_isDuctile.1 ∈ z_gw := z_mj6 (i := 180) rfl (by decide +kernel)
theorem w_se_Ca_isDuctile : Cond.selects M_Ca_isDuctile.1.cls M_Ca_isDuctile.1 M_Ca_isDuctile.1 ∈ z_gw := z_mj6 (i := 181) rfl (by decide +kernel)
theorem d_Ca_isHard_24 : decode prog_2_method_3_code 24 = .ok (.ifCond .ne 7, 3) := zo_154 (d := 0) (e := 7) (zd_b zq_prog_2_method_3_code_0 24 rfl rfl rfl) (zd_b zq_prog_2_method_3_code_0 25 rfl rfl rfl) (zd_b zq_prog_2_method_3_code_0 26 rfl rfl rfl) (by decide +kernel)
set_option maxHeartbeats 4000000 in
set_option maxRecDepth 100000 in
theorem C_Ca_isHard (g : zG) (a ab abg : Nat) (gr : Nat → Int64) (ir mg sh fb dl bk : Int32) : CT g M_Ca_isHard [.ref a] [(a, .inr (0, [.ref ab, .int mg, .int sh, .int fb, .int dl, .int bk])), (ab, .inr (6, [.ref abg, .int ir])), (abg, .inl (3, 4, .inr (.inl gr)))] (fun o cs1 => o = .inl (some (.int (z_bi (ihB mg gr ir)))) ∧ cs1 = [(a, .inr (0, [.ref ab, .int mg, .int sh, .int fb, .int dl, .int bk])), (ab, .inr (6, [.ref abg, .int ir])), (abg, .inl (3, 4, .inr (.inl gr)))]) 0 0 := by
  refine z_of (by decide) rfl (Nat.le_of_ble_eq_true rfl) (fun w0 => ?_)
  refine r_lvE (lv2 := [(0, .ref a)]) rfl ?_
  refine r_aload_n d_Ca_isHard_0 rfl 0 rfl ?_
  refine r_get fs_Ca_12 d_Ca_isHard_1 (q0 := 0) rfl rfl ?_
  refine r_callV (As := []) (rest := []) (csC := [(ab, .inr (6, [.ref abg, .int ir])), (abg, .inl (3, 4, .inr (.inl gr)))]) (is := [1, 2]) (q0 := 1) rfl rfl ln_Ca_22 w_im_Me_carbonAlike w_se_Me_carbonAlike ok_Ca_isHard_Me_carbonAlike d_Ca_isHard_4 (C_Me_carbonAlike g ab abg gr ir) rfl rfl (Nat.le_of_ble_eq_true rfl) rfl (by decide) (by omega) (by omega) (fun E cs1 hx => ?_) (fun v cs1 hx => ?_)
  · exact absurd hx.1 (by simp)
  · obtain ⟨e1, rfl⟩ := hx
    cases e1
    refine ⟨rfl, ?_⟩
    refine r_st (st2 := [.int (caI gr ir)]) rfl ?_
    refine r_cs (cs2 := [(a, .inr (0, [.ref ab, .int mg, .int sh, .int fb, .int dl, .int bk])), (ab, .inr (6, [.ref abg, .int ir])), (abg, .inl (3, 4, .inr (.inl gr)))]) rfl ?_
    refine r_sipush d_Ca_isHard_7 (v := 370) (by decide) ?_
    refine r_icmp_lt (tgt := 27) d_Ca_isHard_10 (by decide) (fun c_10 => ?_) (fun c_10 => ?_)
    · refine r_iconst d_Ca_isHard_27 (v := 1) (by decide) ?_
      refine r_goto (tgt := 32) d_Ca_isHard_28 (by decide) ?_
      refine r_iret d_Ca_isHard_32 rfl rfl ?_
      refine ⟨?_, rfl⟩
      simp_all [ihB, z_bi]
    · refine r_aload_n d_Ca_isHard_13 rfl 0 rfl ?_
      refine r_get fs_Ca_18 d_Ca_isHard_14 (q0 := 0) rfl rfl ?_
      refine r_if_le (tgt := 31) d_Ca_isHard_17 (by decide) (fun c_17 => ?_) (fun c_17 => ?_)
      · refine r_iconst d_Ca_isHard_31 (v := 0) (by decide) ?_
        refine r_iret d_Ca_isHard_32 rfl rfl ?_
        refine ⟨?_, rfl⟩
        simp_all [ihB, z_bi]
      · refine r_aload_n d_Ca_isHard_20 rfl 0 rfl ?_
        refine r_callV (As := []) (rest := []) (csC := [(a, .inr (0, [.ref ab, .int mg, .int sh, .int fb, .int dl, .int bk])), (ab, .inr (6, [.ref abg, .int ir])), (abg, .inl (3, 4, .inr (.inl gr)))]) (is := [0, 1, 2]) (q0 := 0) rfl rfl ln_Ca_26 w_im_Ca_isDuctile w_se_Ca_isDuctile ok_Ca_isHard_Ca_isDuctile d_Ca_isHard_21 (C_Ca_isDuctile g a ab abg gr ir mg sh fb dl bk) rfl rfl (Nat.le_of_ble_eq_true rfl) rfl (by decide) (by omega) (by omega) (fun E cs1 hx => ?_) (fun v cs1 hx => ?_)
        · exact absurd hx.1 (by simp)
        · obtain ⟨e1, rfl⟩ := hx
          cases e1
          refine ⟨rfl, ?_⟩
          refine r_st (st2 := [.int (if mg < 20 then 0 else 1)]) rfl ?_
          refine r_cs (cs2 := [(a, .inr (0, [.ref ab, .int mg, .int sh, .int fb, .int dl, .int bk])), (ab, .inr (6, [.ref abg, .int ir])), (abg, .inl (3, 4, .inr (.inl gr)))]) rfl ?_
          refine r_if_ne (tgt := 31) d_Ca_isHard_24 (by decide) (fun c_24 => ?_) (fun c_24 => ?_)
          · refine r_iconst d_Ca_isHard_31 (v := 0) (by decide) ?_
            refine r_iret d_Ca_isHard_32 rfl rfl ?_
            refine ⟨?_, rfl⟩
            simp_all [ihB, z_bi]
          · refine r_iconst d_Ca_isHard_27 (v := 1) (by decide) ?_
            refine r_goto (tgt := 32) d_Ca_isHard_28 (by decide) ?_
            refine r_iret d_Ca_isHard_32 rfl rfl ?_
            refine ⟨?_, rfl⟩
            simp_all [ihB, z_bi]
abbrev M_Ca_hasFault : zM := (⟨"Ironpour$Casting", "hasFault", "(I)Z"⟩, prog_2_method_4_code, 2, (Option.some FieldType.boolean), 1, 20, [])
theorem d_Ca_hasFault_0 : decode prog_2_method_4_code 0 = .ok (.aload_n 0, 1) := zo_42 (zd_b zq_prog_2_method_4_code_0 0 rfl rfl rfl)
theorem d_Ca_hasFault_1 : decode prog_2_method_4_code 1 = .ok (.getfield 30, 3) := zo_180 (d := 0) (e := 30) (zd_b zq_prog_2_method_4_code_0 1 rfl rfl rfl) (zd_b zq_prog_2_method_4_code_0 2 rfl rfl rfl) (zd_b zq_prog_2_method_4_code_0 3 rfl rfl rfl)
theorem fs_Ca_30 : z_fs "Ironpour$Casting" 30 0 3 := ⟨R_Ca, "Ironpour$Casting", F_Ca, 6, rfl, u_Ca, by decide, Or.inl ⟨z_mj6 (i := 144) rfl (by decide +kernel), Or.inl rfl⟩⟩
theorem d_Ca_hasFault_4 : decode prog_2_method_4_code 4 = .ok (.iload_n 1, 1) := zo_27 (zd_b zq_prog_2_method_4_code_0 4 rfl rfl rfl)
theorem d_Ca_hasFault_5 : decode prog_2_method_4_code 5 = .ok (.iand, 1) := zo_126 (zd_b zq_prog_2_method_4_code_0 5 rfl rfl rfl)
theorem d_Ca_hasFault_6 : decode prog_2_method_4_code 6 = .ok (.ifCond .eq 7, 3) := zo_153 (d := 0) (e := 7) (zd_b zq_prog_2_method_4_code_0 6 rfl rfl rfl) (zd_b zq_prog_2_method_4_code_0 7 rfl rfl rfl) (zd_b zq_prog_2_method_4_code_0 8 rfl rfl rfl) (by decide +kernel)
theorem d_Ca_hasFault_13 : decode prog_2_method_4_code 13 = .ok (.iconst 0, 1) := zo_3 (zd_b zq_prog_2_method_4_code_0 13 rfl rfl rfl)
theorem d_Ca_hasFault_14 : decode prog_2_method_4_code 14 = .ok (.ireturn, 1) := zo_172 (zd_b zq_prog_2_method_4_code_0 14 rfl rfl rfl)
theorem d_Ca_hasFault_9 : decode prog_2_method_4_code 9 = .ok (.iconst 1, 1) := zo_4 (zd_b zq_prog_2_method_4_code_0 9 rfl rfl rfl)
theorem d_Ca_hasFault_10 : decode prog_2_method_4_code 10 = .ok (.goto 4, 3) := zo_167 (d := 0) (e := 4) (zd_b zq_prog_2_method_4_code_0 10 rfl rfl rfl) (zd_b zq_prog_2_method_4_code_0 11 rfl rfl rfl) (zd_b zq_prog_2_method_4_code_0 12 rfl rfl rfl) (by decide +kernel)
set_option maxHeartbeats 4000000 in
set_option maxRecDepth 100000 in
theorem C_Ca_hasFault (g : zG) (a ab abg : Nat) (gr : Nat → Int64) (ir mg sh fb dl bk : Int32) (k : Int32) : CT g M_Ca_hasFault [.ref a, .int k] [(a, .inr (0, [.ref ab, .int mg, .int sh, .int fb, .int dl, .int bk])), (ab, .inr (6, [.ref abg, .int ir])), (abg, .inl (3, 4, .inr (.inl gr)))] (fun o cs1 => o = .inl (some (.int (z_bi (hfB fb k)))) ∧ cs1 = [(a, .inr (0, [.ref ab, .int mg, .int sh, .int fb, .int dl, .int bk])), (ab, .inr (6, [.ref abg, .int ir])), (abg, .inl (3, 4, .inr (.inl gr)))]) 0 0 := by
  refine z_of (by decide) rfl (Nat.le_of_ble_eq_true rfl) (fun w0 => ?_)
  refine r_lvE (lv2 := [(0, .ref a), (1, .int k)]) rfl ?_
  refine r_aload_n d_Ca_hasFault_0 rfl 0 rfl ?_
  refine r_get fs_Ca_30 d_Ca_hasFault_1 (q0 := 0) rfl rfl ?_
  refine r_iload_n d_Ca_hasFault_4 rfl 1 rfl ?_
  refine r_iand d_Ca_hasFault_5 (v := fb &&& k) rfl ?_
  refine r_if_eq (tgt := 13) d_Ca_hasFault_6 (by decide) (fun c_6 => ?_) (fun c_6 => ?_)
  · refine r_iconst d_Ca_hasFault_13 (v := 0) (by decide) ?_
    refine r_iret d_Ca_hasFault_14 rfl rfl ?_
    refine ⟨?_, rfl⟩
    simp_all [hfB, z_bi]
  · refine r_iconst d_Ca_hasFault_9 (v := 1) (by decide) ?_
    refine r_goto (tgt := 14) d_Ca_hasFault_10 (by decide) ?_
    refine r_iret d_Ca_hasFault_14 rfl rfl ?_
    refine ⟨?_, rfl⟩
    simp_all [hfB, z_bi]
abbrev M_Ca_barBears : zM := (⟨"Ironpour$Casting", "barBears", "()I"⟩, prog_2_method_5_code, 2, (Option.some FieldType.int), 3, 61, [])
theorem d_Ca_barBears_0 : decode prog_2_method_5_code 0 = .ok (.aload_n 0, 1) := zo_42 (zd_b zq_prog_2_method_5_code_0 0 rfl rfl rfl)
theorem d_Ca_barBears_1 : decode prog_2_method_5_code 1 = .ok (.invokevirtual 26, 3) := zo_182 (d := 0) (e := 26) (zd_b zq_prog_2_method_5_code_0 1 rfl rfl rfl) (zd_b zq_prog_2_method_5_code_0 2 rfl rfl rfl) (zd_b zq_prog_2_method_5_code_0 3 rfl rfl rfl)
theorem ok_Ca_barBears_Ca_isDuctile : z_ok M_Ca_barBears M_Ca_isDuctile 0 := ⟨z_mj6 (i := 182) rfl (by decide +kernel), rfl, ⟨by decide +kernel, by decide +kernel, by decide +kernel⟩, ⟨by decide, by decide⟩, z_mj1 (i := 35) rfl (by decide +kernel), rfl⟩
theorem d_Ca_barBears_4 : decode prog_2_method_5_code 4 = .ok (.ifCond .eq 16, 3) := zo_153 (d := 0) (e := 16) (zd_b zq_prog_2_method_5_code_0 4 rfl rfl rfl) (zd_b zq_prog_2_method_5_code_0 5 rfl rfl rfl) (zd_b zq_prog_2_method_5_code_0 6 rfl rfl rfl) (by decide +kernel)
theorem d_Ca_barBears_20 : decode prog_2_method_5_code 20 = .ok (.sipush 500, 3) := zo_17 (d := 1) (e := 244) (zd_b zq_prog_2_method_5_code_0 20 rfl rfl rfl) (zd_b zq_prog_2_method_5_code_0 21 rfl rfl rfl) (zd_b zq_prog_2_method_5_code_0 22 rfl rfl rfl) (by decide +kernel)
theorem d_Ca_barBears_23 : decode prog_2_method_5_code 23 = .ok (.iconst 2, 1) := zo_5 (zd_b zq_prog_2_method_5_code_0 23 rfl rfl rfl)
theorem d_Ca_barBears_24 : decode prog_2_method_5_code 24 = .ok (.iconst 0, 1) := zo_3 (zd_b zq_prog_2_method_5_code_0 24 rfl rfl rfl)
theorem d_Ca_barBears_25 : decode prog_2_method_5_code 25 = .ok (.aload_n 0, 1) := zo_42 (zd_b zq_prog_2_method_5_code_0 25 rfl rfl rfl)
theorem d_Ca_barBears_26 : decode prog_2_method_5_code 26 = .ok (.getfield 12, 3) := zo_180 (d := 0) (e := 12) (zd_b zq_prog_2_method_5_code_0 26 rfl rfl rfl) (zd_b zq_prog_2_method_5_code_0 27 rfl rfl rfl) (zd_b zq_prog_2_method_5_code_0 28 rfl rfl rfl)
theorem d_Ca_barBears_29 : decode prog_2_method_5_code 29 = .ok (.invokevirtual 22, 3) := zo_182 (d := 0) (e := 22) (zd_b zq_prog_2_method_5_code_0 29 rfl rfl rfl) (zd_b zq_prog_2_method_5_code_0 30 rfl rfl rfl) (zd_b zq_prog_2_method_5_code_0 31 rfl rfl rfl)
theorem ok_Ca_barBears_Me_carbonAlike : z_ok M_Ca_barBears M_Me_carbonAlike 0 := ⟨z_mj6 (i := 177) rfl (by decide +kernel), rfl, ⟨by decide +kernel, by decide +kernel, by decide +kernel⟩, ⟨by decide, by decide⟩, z_mj1 (i := 8) rfl (by decide +kernel), rfl⟩
theorem d_Ca_barBears_32 : decode prog_2_method_5_code 32 = .ok (.sipush 300, 3) := zo_17 (d := 1) (e := 44) (zd_b zq_prog_2_method_5_code_1 0 rfl rfl rfl) (zd_b zq_prog_2_method_5_code_1 1 rfl rfl rfl) (zd_b zq_prog_2_method_5_code_1 2 rfl rfl rfl) (by decide +kernel)
theorem d_Ca_barBears_35 : decode prog_2_method_5_code 35 = .ok (.isub, 1) := zo_100 (zd_b zq_prog_2_method_5_code_1 3 rfl rfl rfl)
theorem d_Ca_barBears_36 : decode prog_2_method_5_code 36 = .ok (.invokestatic 33, 3) := zo_184 (d := 0) (e := 33) (zd_b zq_prog_2_method_5_code_1 4 rfl rfl rfl) (zd_b zq_prog_2_method_5_code_1 5 rfl rfl rfl) (zd_b zq_prog_2_method_5_code_1 6 rfl rfl rfl)
theorem ln_Ca_33 : Cond.methodLink "Ironpour$Casting" 33 Lib.Math.max.name ∈ z_gw := z_mj6 (i := 228) rfl (by decide +kernel)
theorem d_Ca_barBears_39 : decode prog_2_method_5_code 39 = .ok (.imul, 1) := zo_104 (zd_b zq_prog_2_method_5_code_1 7 rfl rfl rfl)
theorem d_Ca_barBears_40 : decode prog_2_method_5_code 40 = .ok (.isub, 1) := zo_100 (zd_b zq_prog_2_method_5_code_1 8 rfl rfl rfl)
theorem d_Ca_barBears_41 : decode prog_2_method_5_code 41 = .ok (.istore_n 1, 1) := zo_60 (zd_b zq_prog_2_method_5_code_1 9 rfl rfl rfl)
theorem d_Ca_barBears_42 : decode prog_2_method_5_code 42 = .ok (.iconst 0, 1) := zo_3 (zd_b zq_prog_2_method_5_code_1 10 rfl rfl rfl)
theorem d_Ca_barBears_43 : decode prog_2_method_5_code 43 = .ok (.iload_n 1, 1) := zo_27 (zd_b zq_prog_2_method_5_code_1 11 rfl rfl rfl)
theorem d_Ca_barBears_44 : decode prog_2_method_5_code 44 = .ok (.bipush 30, 2) := zo_16 (d := 30) (zd_b zq_prog_2_method_5_code_1 12 rfl rfl rfl) (zd_b zq_prog_2_method_5_code_1 13 rfl rfl rfl) (by decide +kernel)
theorem d_Ca_barBears_46 : decode prog_2_method_5_code 46 = .ok (.aload_n 0, 1) := zo_42 (zd_b zq_prog_2_method_5_code_1 14 rfl rfl rfl)
theorem d_Ca_barBears_47 : decode prog_2_method_5_code 47 = .ok (.getfield 30, 3) := zo_180 (d := 0) (e := 30) (zd_b zq_prog_2_method_5_code_1 15 rfl rfl rfl) (zd_b zq_prog_2_method_5_code_1 16 rfl rfl rfl) (zd_b zq_prog_2_method_5_code_1 17 rfl rfl rfl)
theorem d_Ca_barBears_50 : decode prog_2_method_5_code 50 = .ok (.invokestatic 39, 3) := zo_184 (d := 0) (e := 39) (zd_b zq_prog_2_method_5_code_1 18 rfl rfl rfl) (zd_b zq_prog_2_method_5_code_1 19 rfl rfl rfl) (zd_b zq_prog_2_method_5_code_1 20 rfl rfl rfl)
theorem ok_Ca_barBears_Integer_bitCount : z_ok M_Ca_barBears M_Integer_bitCount 1 := ⟨z_mj6 (i := 231) rfl (by decide +kernel), rfl, ⟨by decide +kernel, by decide +kernel, by decide +kernel⟩, ⟨by decide, by decide⟩, z_mj1 (i := 36) rfl (by decide +kernel), rfl⟩
theorem ln_Ca_39 : Cond.methodLink "Ironpour$Casting" 39 M_Integer_bitCount.1 ∈ z_gw := z_mj6 (i := 229) rfl (by decide +kernel)
