def hdE (gr : Nat → Int64) (e : Nat) (d : Int64) : Nat → Int64 := vp_updL gr e (gr e - gr e / d)
def hdR (gr : Nat → Int64) : Nat → Nat → Int64
  | 0 => gr
  | i + 1 => hdE (hdE (hdE (hdR gr i) 0 2000) 1 4000) 2 4000
abbrev M_Mm_element : zM := (⟨"IronpourModel", "element", "(C)I"⟩, prog_14_method_55_code, 1, (Option.some FieldType.int), 8, 179, [])
theorem d_Mm_element_0 : decode prog_14_method_55_code 0 = .ok (.ldc 232, 2) := zo_18 (d := 232) (zd_b zq_prog_14_method_55_code_0 0 rfl rfl rfl) (zd_b zq_prog_14_method_55_code_0 1 rfl rfl rfl)
theorem d_Mm_element_2 : decode prog_14_method_55_code 2 = .ok (.iload_n 0, 1) := zo_26 (zd_b zq_prog_14_method_55_code_0 2 rfl rfl rfl)
theorem d_Mm_element_3 : decode prog_14_method_55_code 3 = .ok (.invokevirtual 97, 3) := zo_182 (d := 0) (e := 97) (zd_b zq_prog_14_method_55_code_0 3 rfl rfl rfl) (zd_b zq_prog_14_method_55_code_0 4 rfl rfl rfl) (zd_b zq_prog_14_method_55_code_0 5 rfl rfl rfl)
theorem ok_Mm_element_String_indexOf_0 : z_ok M_Mm_element M_String_indexOf_0 1 := ⟨z_mj3 (i := 58) rfl (by decide +kernel), rfl, ⟨by decide +kernel, by decide +kernel, by decide +kernel⟩, ⟨by decide, by decide⟩, z_mj1 (i := 15) rfl (by decide +kernel), rfl⟩
theorem d_Mm_element_6 : decode prog_14_method_55_code 6 = .ok (.ireturn, 1) := zo_172 (zd_b zq_prog_14_method_55_code_0 6 rfl rfl rfl)
set_option maxHeartbeats 4000000 in
set_option maxRecDepth 100000 in
theorem C_Mm_element (g : zG) (k : Int32) : CT g M_Mm_element [.int k] [] (fun o cs1 => o = .inl (some (.int (z_ix 2 k))) ∧ cs1 = []) 0 0 := by
  refine z_of (by decide) rfl (Nat.le_of_ble_eq_true rfl) (fun w0 => ?_)
  refine r_lvE (lv2 := [(0, .int k)]) rfl ?_
  refine r_ldcS (own := "IronpourModel") (i := 2) (by decide) d_Mm_element_0 ?_
  refine r_iload_n d_Mm_element_2 rfl 0 rfl ?_
  refine r_callVS (As := [.int k]) (rest := []) (csC := []) (is := []) (i := 2) (by first | assumption | decide) rfl ln_Mm_97 w_im_String_indexOf_0 w_se_String_indexOf_0 ok_Mm_element_String_indexOf_0 d_Mm_element_3 (C_St_indexOf g 2 (by decide) k) rfl rfl (Nat.le_of_ble_eq_true rfl) rfl (by decide) (by omega) (by omega) (fun E cs1 hx => ?_) (fun v cs1 hx => ?_)
  · exact absurd hx.1 (by simp)
  · obtain ⟨e1, rfl⟩ := hx
    cases e1
    refine ⟨rfl, ?_⟩
    refine r_st (st2 := [.int (z_ix 2 k)]) rfl ?_
    refine r_cs (cs2 := []) rfl ?_
    refine r_iret d_Mm_element_6 rfl rfl ?_
    exact ⟨rfl, rfl⟩
abbrev M_Mm_place : zM := (⟨"IronpourModel", "place", "(C)I"⟩, prog_14_method_67_code, 1, (Option.some FieldType.int), 1, 20, [])
theorem d_Mm_place_0 : decode prog_14_method_67_code 0 = .ok (.iload_n 0, 1) := zo_26 (zd_b zq_prog_14_method_67_code_0 0 rfl rfl rfl)
theorem d_Mm_place_1 : decode prog_14_method_67_code 1 = .ok (.bipush 103, 2) := zo_16 (d := 103) (zd_b zq_prog_14_method_67_code_0 1 rfl rfl rfl) (zd_b zq_prog_14_method_67_code_0 2 rfl rfl rfl) (by decide +kernel)
theorem d_Mm_place_3 : decode prog_14_method_67_code 3 = .ok (.if_icmp .ne 7, 3) := zo_160 (d := 0) (e := 7) (zd_b zq_prog_14_method_67_code_0 3 rfl rfl rfl) (zd_b zq_prog_14_method_67_code_0 4 rfl rfl rfl) (zd_b zq_prog_14_method_67_code_0 5 rfl rfl rfl) (by decide +kernel)
theorem d_Mm_place_6 : decode prog_14_method_67_code 6 = .ok (.iconst 2, 1) := zo_5 (zd_b zq_prog_14_method_67_code_0 6 rfl rfl rfl)
theorem d_Mm_place_7 : decode prog_14_method_67_code 7 = .ok (.goto 14, 3) := zo_167 (d := 0) (e := 14) (zd_b zq_prog_14_method_67_code_0 7 rfl rfl rfl) (zd_b zq_prog_14_method_67_code_0 8 rfl rfl rfl) (zd_b zq_prog_14_method_67_code_0 9 rfl rfl rfl) (by decide +kernel)
theorem d_Mm_place_21 : decode prog_14_method_67_code 21 = .ok (.ireturn, 1) := zo_172 (zd_b zq_prog_14_method_67_code_0 21 rfl rfl rfl)
set_option maxHeartbeats 4000000 in
set_option maxRecDepth 100000 in
theorem C_Mm_placeG (g : zG)  : CT g M_Mm_place [.int 103] [] (fun o cs1 => o = .inl (some (.int 2)) ∧ cs1 = []) 0 0 := by
  refine z_of (by decide) rfl (Nat.le_of_ble_eq_true rfl) (fun w0 => ?_)
  refine r_lvE (lv2 := [(0, .int 103)]) rfl ?_
  refine r_iload_n d_Mm_place_0 rfl 0 rfl ?_
  refine r_bipush d_Mm_place_1 (v := 103) (by decide) ?_
  refine r_icmp_ne (tgt := 10) d_Mm_place_3 (by decide) (fun c_3 => ?_) (fun c_3 => ?_)
  · exact absurd c_3 (by decide)
  · refine r_iconst d_Mm_place_6 (v := 2) (by decide) ?_
    refine r_goto (tgt := 21) d_Mm_place_7 (by decide) ?_
    refine r_iret d_Mm_place_21 rfl rfl ?_
    exact ⟨rfl, rfl⟩
theorem d_Mm_place_10 : decode prog_14_method_67_code 10 = .ok (.iload_n 0, 1) := zo_26 (zd_b zq_prog_14_method_67_code_0 10 rfl rfl rfl)
theorem d_Mm_place_11 : decode prog_14_method_67_code 11 = .ok (.bipush 100, 2) := zo_16 (d := 100) (zd_b zq_prog_14_method_67_code_0 11 rfl rfl rfl) (zd_b zq_prog_14_method_67_code_0 12 rfl rfl rfl) (by decide +kernel)
theorem d_Mm_place_13 : decode prog_14_method_67_code 13 = .ok (.if_icmp .ne 7, 3) := zo_160 (d := 0) (e := 7) (zd_b zq_prog_14_method_67_code_0 13 rfl rfl rfl) (zd_b zq_prog_14_method_67_code_0 14 rfl rfl rfl) (zd_b zq_prog_14_method_67_code_0 15 rfl rfl rfl) (by decide +kernel)
theorem d_Mm_place_16 : decode prog_14_method_67_code 16 = .ok (.iconst 3, 1) := zo_6 (zd_b zq_prog_14_method_67_code_0 16 rfl rfl rfl)
theorem d_Mm_place_17 : decode prog_14_method_67_code 17 = .ok (.goto 4, 3) := zo_167 (d := 0) (e := 4) (zd_b zq_prog_14_method_67_code_0 17 rfl rfl rfl) (zd_b zq_prog_14_method_67_code_0 18 rfl rfl rfl) (zd_b zq_prog_14_method_67_code_0 19 rfl rfl rfl) (by decide +kernel)
set_option maxHeartbeats 4000000 in
set_option maxRecDepth 100000 in
theorem C_Mm_placeD (g : zG)  : CT g M_Mm_place [.int 100] [] (fun o cs1 => o = .inl (some (.int 3)) ∧ cs1 = []) 0 0 := by
  refine z_of (by decide) rfl (Nat.le_of_ble_eq_true rfl) (fun w0 => ?_)
  refine r_lvE (lv2 := [(0, .int 100)]) rfl ?_
  refine r_iload_n d_Mm_place_0 rfl 0 rfl ?_
  refine r_bipush d_Mm_place_1 (v := 103) (by decide) ?_
  refine r_icmp_ne (tgt := 10) d_Mm_place_3 (by decide) (fun c_3 => ?_) (fun c_3 => ?_)
  · refine r_iload_n d_Mm_place_10 rfl 0 rfl ?_
    refine r_bipush d_Mm_place_11 (v := 100) (by decide) ?_
    refine r_icmp_ne (tgt := 20) d_Mm_place_13 (by decide) (fun c_13 => ?_) (fun c_13 => ?_)
    · exact absurd c_13 (by decide)
    · refine r_iconst d_Mm_place_16 (v := 3) (by decide) ?_
      refine r_goto (tgt := 21) d_Mm_place_17 (by decide) ?_
      refine r_iret d_Mm_place_21 rfl rfl ?_
      exact ⟨rfl, rfl⟩
  · exact absurd c_3 (by decide)
theorem d_Mm_place_20 : decode prog_14_method_67_code 20 = .ok (.iconst (-1), 1) := zo_2 (zd_b zq_prog_14_method_67_code_0 20 rfl rfl rfl)
set_option maxHeartbeats 4000000 in
set_option maxRecDepth 100000 in
theorem C_Mm_placeO (g : zG) (k : Int32) (h1 : ¬ k = 103) (h2 : ¬ k = 100) : CT g M_Mm_place [.int k] [] (fun o cs1 => o = .inl (some (.int (-1))) ∧ cs1 = []) 0 0 := by
  refine z_of (by decide) rfl (Nat.le_of_ble_eq_true rfl) (fun w0 => ?_)
  refine r_lvE (lv2 := [(0, .int k)]) rfl ?_
  refine r_iload_n d_Mm_place_0 rfl 0 rfl ?_
  refine r_bipush d_Mm_place_1 (v := 103) (by decide) ?_
  refine r_icmp_ne (tgt := 10) d_Mm_place_3 (by decide) (fun c_3 => ?_) (fun c_3 => ?_)
  · refine r_iload_n d_Mm_place_10 rfl 0 rfl ?_
    refine r_bipush d_Mm_place_11 (v := 100) (by decide) ?_
    refine r_icmp_ne (tgt := 20) d_Mm_place_13 (by decide) (fun c_13 => ?_) (fun c_13 => ?_)
    · refine r_iconst d_Mm_place_20 (v := (-1)) (by decide) ?_
      refine r_iret d_Mm_place_21 rfl rfl ?_
      exact ⟨rfl, rfl⟩
    · exact absurd c_13 h2
  · exact absurd c_3 h1
abbrev M_Mm_tenths : zM := (⟨"IronpourModel", "tenths", "(CI)I"⟩, prog_14_method_56_code, 2, (Option.some FieldType.int), 1, 20, [])
theorem d_Mm_tenths_0 : decode prog_14_method_56_code 0 = .ok (.iload_n 0, 1) := zo_26 (zd_b zq_prog_14_method_56_code_0 0 rfl rfl rfl)
theorem d_Mm_tenths_1 : decode prog_14_method_56_code 1 = .ok (.lookupswitch 120 #[(102, 99), (112, 35), (115, 68)], 35) := by decide +kernel
theorem d_Mm_tenths_36 : decode prog_14_method_56_code 36 = .ok (.iload_n 1, 1) := zo_27 (zd_b zq_prog_14_method_56_code_1 4 rfl rfl rfl)
theorem d_Mm_tenths_37 : decode prog_14_method_56_code 37 = .ok (.ifCond .ne 9, 3) := zo_154 (d := 0) (e := 9) (zd_b zq_prog_14_method_56_code_1 5 rfl rfl rfl) (zd_b zq_prog_14_method_56_code_1 6 rfl rfl rfl) (zd_b zq_prog_14_method_56_code_1 7 rfl rfl rfl) (by decide +kernel)
theorem d_Mm_tenths_40 : decode prog_14_method_56_code 40 = .ok (.sipush 420, 3) := zo_17 (d := 1) (e := 164) (zd_b zq_prog_14_method_56_code_1 8 rfl rfl rfl) (zd_b zq_prog_14_method_56_code_1 9 rfl rfl rfl) (zd_b zq_prog_14_method_56_code_1 10 rfl rfl rfl) (by decide +kernel)
theorem d_Mm_tenths_43 : decode prog_14_method_56_code 43 = .ok (.goto 25, 3) := zo_167 (d := 0) (e := 25) (zd_b zq_prog_14_method_56_code_1 11 rfl rfl rfl) (zd_b zq_prog_14_method_56_code_1 12 rfl rfl rfl) (zd_b zq_prog_14_method_56_code_1 13 rfl rfl rfl) (by decide +kernel)
theorem d_Mm_tenths_68 : decode prog_14_method_56_code 68 = .ok (.ireturn, 1) := zo_172 (zd_b zq_prog_14_method_56_code_2 4 rfl rfl rfl)
set_option maxHeartbeats 4000000 in
set_option maxRecDepth 100000 in
theorem C_Mm_tenths112_0 (g : zG)  : CT g M_Mm_tenths [.int 112, .int 0] [] (fun o cs1 => o = .inl (some (.int 420)) ∧ cs1 = []) 0 0 := by
  refine z_of (by decide) rfl (Nat.le_of_ble_eq_true rfl) (fun w0 => ?_)
  refine r_lvE (lv2 := [(0, .int 112), (1, .int 0)]) rfl ?_
  refine r_iload_n d_Mm_tenths_0 rfl 0 rfl ?_
  · refine r_lookup (off := 35) (tgt := 36) d_Mm_tenths_1 (by decide) (by decide) (by decide) ?_
    refine r_iload_n d_Mm_tenths_36 rfl 1 rfl ?_
    refine r_if_ne (tgt := 46) d_Mm_tenths_37 (by decide) (fun c_37 => ?_) (fun c_37 => ?_)
    · exact absurd c_37 (by decide)
    · refine r_sipush d_Mm_tenths_40 (v := 420) (by decide) ?_
      refine r_goto (tgt := 68) d_Mm_tenths_43 (by decide) ?_
      refine r_iret d_Mm_tenths_68 rfl rfl ?_
      exact ⟨rfl, rfl⟩
theorem d_Mm_tenths_46 : decode prog_14_method_56_code 46 = .ok (.iload_n 1, 1) := zo_27 (zd_b zq_prog_14_method_56_code_1 14 rfl rfl rfl)
theorem d_Mm_tenths_47 : decode prog_14_method_56_code 47 = .ok (.iconst 1, 1) := zo_4 (zd_b zq_prog_14_method_56_code_1 15 rfl rfl rfl)
theorem d_Mm_tenths_48 : decode prog_14_method_56_code 48 = .ok (.if_icmp .ne 8, 3) := zo_160 (d := 0) (e := 8) (zd_b zq_prog_14_method_56_code_1 16 rfl rfl rfl) (zd_b zq_prog_14_method_56_code_1 17 rfl rfl rfl) (zd_b zq_prog_14_method_56_code_1 18 rfl rfl rfl) (by decide +kernel)
theorem d_Mm_tenths_51 : decode prog_14_method_56_code 51 = .ok (.bipush 100, 2) := zo_16 (d := 100) (zd_b zq_prog_14_method_56_code_1 19 rfl rfl rfl) (zd_b zq_prog_14_method_56_code_1 20 rfl rfl rfl) (by decide +kernel)
theorem d_Mm_tenths_53 : decode prog_14_method_56_code 53 = .ok (.goto 15, 3) := zo_167 (d := 0) (e := 15) (zd_b zq_prog_14_method_56_code_1 21 rfl rfl rfl) (zd_b zq_prog_14_method_56_code_1 22 rfl rfl rfl) (zd_b zq_prog_14_method_56_code_1 23 rfl rfl rfl) (by decide +kernel)
set_option maxHeartbeats 4000000 in
set_option maxRecDepth 100000 in
theorem C_Mm_tenths112_1 (g : zG)  : CT g M_Mm_tenths [.int 112, .int 1] [] (fun o cs1 => o = .inl (some (.int 100)) ∧ cs1 = []) 0 0 := by
  refine z_of (by decide) rfl (Nat.le_of_ble_eq_true rfl) (fun w0 => ?_)
  refine r_lvE (lv2 := [(0, .int 112), (1, .int 1)]) rfl ?_
  refine r_iload_n d_Mm_tenths_0 rfl 0 rfl ?_
  · refine r_lookup (off := 35) (tgt := 36) d_Mm_tenths_1 (by decide) (by decide) (by decide) ?_
    refine r_iload_n d_Mm_tenths_36 rfl 1 rfl ?_
    refine r_if_ne (tgt := 46) d_Mm_tenths_37 (by decide) (fun c_37 => ?_) (fun c_37 => ?_)
    · refine r_iload_n d_Mm_tenths_46 rfl 1 rfl ?_
      refine r_iconst d_Mm_tenths_47 (v := 1) (by decide) ?_
      refine r_icmp_ne (tgt := 56) d_Mm_tenths_48 (by decide) (fun c_48 => ?_) (fun c_48 => ?_)
      · exact absurd c_48 (by decide)
      · refine r_bipush d_Mm_tenths_51 (v := 100) (by decide) ?_
        refine r_goto (tgt := 68) d_Mm_tenths_53 (by decide) ?_
        refine r_iret d_Mm_tenths_68 rfl rfl ?_
        exact ⟨rfl, rfl⟩
    · exact absurd c_37 (by decide)
theorem d_Mm_tenths_56 : decode prog_14_method_56_code 56 = .ok (.iload_n 1, 1) := zo_27 (zd_b zq_prog_14_method_56_code_1 24 rfl rfl rfl)
theorem d_Mm_tenths_57 : decode prog_14_method_56_code 57 = .ok (.iconst 2, 1) := zo_5 (zd_b zq_prog_14_method_56_code_1 25 rfl rfl rfl)
theorem d_Mm_tenths_58 : decode prog_14_method_56_code 58 = .ok (.if_icmp .ne 8, 3) := zo_160 (d := 0) (e := 8) (zd_b zq_prog_14_method_56_code_1 26 rfl rfl rfl) (zd_b zq_prog_14_method_56_code_1 27 rfl rfl rfl) (zd_b zq_prog_14_method_56_code_1 28 rfl rfl rfl) (by decide +kernel)
theorem d_Mm_tenths_61 : decode prog_14_method_56_code 61 = .ok (.bipush 50, 2) := zo_16 (d := 50) (zd_b zq_prog_14_method_56_code_1 29 rfl rfl rfl) (zd_b zq_prog_14_method_56_code_1 30 rfl rfl rfl) (by decide +kernel)
theorem d_Mm_tenths_63 : decode prog_14_method_56_code 63 = .ok (.goto 5, 3) := zo_167 (d := 0) (e := 5) (zd_b zq_prog_14_method_56_code_1 31 rfl rfl rfl) (zd_b zq_prog_14_method_56_code_2 0 rfl rfl rfl) (zd_b zq_prog_14_method_56_code_2 1 rfl rfl rfl) (by decide +kernel)
set_option maxHeartbeats 4000000 in
set_option maxRecDepth 100000 in
theorem C_Mm_tenths112_2 (g : zG)  : CT g M_Mm_tenths [.int 112, .int 2] [] (fun o cs1 => o = .inl (some (.int 50)) ∧ cs1 = []) 0 0 := by
  refine z_of (by decide) rfl (Nat.le_of_ble_eq_true rfl) (fun w0 => ?_)
  refine r_lvE (lv2 := [(0, .int 112), (1, .int 2)]) rfl ?_
  refine r_iload_n d_Mm_tenths_0 rfl 0 rfl ?_
  · refine r_lookup (off := 35) (tgt := 36) d_Mm_tenths_1 (by decide) (by decide) (by decide) ?_
    refine r_iload_n d_Mm_tenths_36 rfl 1 rfl ?_
    refine r_if_ne (tgt := 46) d_Mm_tenths_37 (by decide) (fun c_37 => ?_) (fun c_37 => ?_)
    · refine r_iload_n d_Mm_tenths_46 rfl 1 rfl ?_
      refine r_iconst d_Mm_tenths_47 (v := 1) (by decide) ?_
      refine r_icmp_ne (tgt := 56) d_Mm_tenths_48 (by decide) (fun c_48 => ?_) (fun c_48 => ?_)
      · refine r_iload_n d_Mm_tenths_56 rfl 1 rfl ?_
        refine r_iconst d_Mm_tenths_57 (v := 2) (by decide) ?_
        refine r_icmp_ne (tgt := 66) d_Mm_tenths_58 (by decide) (fun c_58 => ?_) (fun c_58 => ?_)
        · exact absurd c_58 (by decide)
        · refine r_bipush d_Mm_tenths_61 (v := 50) (by decide) ?_
          refine r_goto (tgt := 68) d_Mm_tenths_63 (by decide) ?_
          refine r_iret d_Mm_tenths_68 rfl rfl ?_
          exact ⟨rfl, rfl⟩
      · exact absurd c_48 (by decide)
    · exact absurd c_37 (by decide)
theorem d_Mm_tenths_66 : decode prog_14_method_56_code 66 = .ok (.bipush 8, 2) := zo_16 (d := 8) (zd_b zq_prog_14_method_56_code_2 2 rfl rfl rfl) (zd_b zq_prog_14_method_56_code_2 3 rfl rfl rfl) (by decide +kernel)
set_option maxHeartbeats 4000000 in
set_option maxRecDepth 100000 in
theorem C_Mm_tenths112_3 (g : zG)  : CT g M_Mm_tenths [.int 112, .int 3] [] (fun o cs1 => o = .inl (some (.int 8)) ∧ cs1 = []) 0 0 := by
  refine z_of (by decide) rfl (Nat.le_of_ble_eq_true rfl) (fun w0 => ?_)
  refine r_lvE (lv2 := [(0, .int 112), (1, .int 3)]) rfl ?_
  refine r_iload_n d_Mm_tenths_0 rfl 0 rfl ?_
  · refine r_lookup (off := 35) (tgt := 36) d_Mm_tenths_1 (by decide) (by decide) (by decide) ?_
    refine r_iload_n d_Mm_tenths_36 rfl 1 rfl ?_
    refine r_if_ne (tgt := 46) d_Mm_tenths_37 (by decide) (fun c_37 => ?_) (fun c_37 => ?_)
    · refine r_iload_n d_Mm_tenths_46 rfl 1 rfl ?_
      refine r_iconst d_Mm_tenths_47 (v := 1) (by decide) ?_
      refine r_icmp_ne (tgt := 56) d_Mm_tenths_48 (by decide) (fun c_48 => ?_) (fun c_48 => ?_)
      · refine r_iload_n d_Mm_tenths_56 rfl 1 rfl ?_
        refine r_iconst d_Mm_tenths_57 (v := 2) (by decide) ?_
        refine r_icmp_ne (tgt := 66) d_Mm_tenths_58 (by decide) (fun c_58 => ?_) (fun c_58 => ?_)
        · refine r_bipush d_Mm_tenths_66 (v := 8) (by decide) ?_
          refine r_iret d_Mm_tenths_68 rfl rfl ?_
          exact ⟨rfl, rfl⟩
        · exact absurd c_58 (by decide)
      · exact absurd c_48 (by decide)
    · exact absurd c_37 (by decide)
theorem d_Mm_tenths_69 : decode prog_14_method_56_code 69 = .ok (.iload_n 1, 1) := zo_27 (zd_b zq_prog_14_method_56_code_2 5 rfl rfl rfl)
theorem d_Mm_tenths_70 : decode prog_14_method_56_code 70 = .ok (.ifCond .ne 8, 3) := zo_154 (d := 0) (e := 8) (zd_b zq_prog_14_method_56_code_2 6 rfl rfl rfl) (zd_b zq_prog_14_method_56_code_2 7 rfl rfl rfl) (zd_b zq_prog_14_method_56_code_2 8 rfl rfl rfl) (by decide +kernel)
theorem d_Mm_tenths_73 : decode prog_14_method_56_code 73 = .ok (.bipush 20, 2) := zo_16 (d := 20) (zd_b zq_prog_14_method_56_code_2 9 rfl rfl rfl) (zd_b zq_prog_14_method_56_code_2 10 rfl rfl rfl) (by decide +kernel)
theorem d_Mm_tenths_75 : decode prog_14_method_56_code 75 = .ok (.goto 24, 3) := zo_167 (d := 0) (e := 24) (zd_b zq_prog_14_method_56_code_2 11 rfl rfl rfl) (zd_b zq_prog_14_method_56_code_2 12 rfl rfl rfl) (zd_b zq_prog_14_method_56_code_2 13 rfl rfl rfl) (by decide +kernel)
theorem d_Mm_tenths_99 : decode prog_14_method_56_code 99 = .ok (.ireturn, 1) := zo_172 (zd_b zq_prog_14_method_56_code_3 3 rfl rfl rfl)
set_option maxHeartbeats 4000000 in
set_option maxRecDepth 100000 in
theorem C_Mm_tenths115_0 (g : zG)  : CT g M_Mm_tenths [.int 115, .int 0] [] (fun o cs1 => o = .inl (some (.int 20)) ∧ cs1 = []) 0 0 := by
  refine z_of (by decide) rfl (Nat.le_of_ble_eq_true rfl) (fun w0 => ?_)
  refine r_lvE (lv2 := [(0, .int 115), (1, .int 0)]) rfl ?_
  refine r_iload_n d_Mm_tenths_0 rfl 0 rfl ?_
  · refine r_lookup (off := 68) (tgt := 69) d_Mm_tenths_1 (by decide) (by decide) (by decide) ?_
    refine r_iload_n d_Mm_tenths_69 rfl 1 rfl ?_
    refine r_if_ne (tgt := 78) d_Mm_tenths_70 (by decide) (fun c_70 => ?_) (fun c_70 => ?_)
    · exact absurd c_70 (by decide)
    · refine r_bipush d_Mm_tenths_73 (v := 20) (by decide) ?_
      refine r_goto (tgt := 99) d_Mm_tenths_75 (by decide) ?_
      refine r_iret d_Mm_tenths_99 rfl rfl ?_
      exact ⟨rfl, rfl⟩
theorem d_Mm_tenths_78 : decode prog_14_method_56_code 78 = .ok (.iload_n 1, 1) := zo_27 (zd_b zq_prog_14_method_56_code_2 14 rfl rfl rfl)
theorem d_Mm_tenths_79 : decode prog_14_method_56_code 79 = .ok (.iconst 1, 1) := zo_4 (zd_b zq_prog_14_method_56_code_2 15 rfl rfl rfl)
theorem d_Mm_tenths_80 : decode prog_14_method_56_code 80 = .ok (.if_icmp .ne 8, 3) := zo_160 (d := 0) (e := 8) (zd_b zq_prog_14_method_56_code_2 16 rfl rfl rfl) (zd_b zq_prog_14_method_56_code_2 17 rfl rfl rfl) (zd_b zq_prog_14_method_56_code_2 18 rfl rfl rfl) (by decide +kernel)
theorem d_Mm_tenths_83 : decode prog_14_method_56_code 83 = .ok (.bipush 30, 2) := zo_16 (d := 30) (zd_b zq_prog_14_method_56_code_2 19 rfl rfl rfl) (zd_b zq_prog_14_method_56_code_2 20 rfl rfl rfl) (by decide +kernel)
theorem d_Mm_tenths_85 : decode prog_14_method_56_code 85 = .ok (.goto 14, 3) := zo_167 (d := 0) (e := 14) (zd_b zq_prog_14_method_56_code_2 21 rfl rfl rfl) (zd_b zq_prog_14_method_56_code_2 22 rfl rfl rfl) (zd_b zq_prog_14_method_56_code_2 23 rfl rfl rfl) (by decide +kernel)
set_option maxHeartbeats 4000000 in
set_option maxRecDepth 100000 in
theorem C_Mm_tenths115_1 (g : zG)  : CT g M_Mm_tenths [.int 115, .int 1] [] (fun o cs1 => o = .inl (some (.int 30)) ∧ cs1 = []) 0 0 := by
  refine z_of (by decide) rfl (Nat.le_of_ble_eq_true rfl) (fun w0 => ?_)
  refine r_lvE (lv2 := [(0, .int 115), (1, .int 1)]) rfl ?_
  refine r_iload_n d_Mm_tenths_0 rfl 0 rfl ?_
  · refine r_lookup (off := 68) (tgt := 69) d_Mm_tenths_1 (by decide) (by decide) (by decide) ?_
    refine r_iload_n d_Mm_tenths_69 rfl 1 rfl ?_
    refine r_if_ne (tgt := 78) d_Mm_tenths_70 (by decide) (fun c_70 => ?_) (fun c_70 => ?_)
    · refine r_iload_n d_Mm_tenths_78 rfl 1 rfl ?_
      refine r_iconst d_Mm_tenths_79 (v := 1) (by decide) ?_
      refine r_icmp_ne (tgt := 88) d_Mm_tenths_80 (by decide) (fun c_80 => ?_) (fun c_80 => ?_)
      · exact absurd c_80 (by decide)
      · refine r_bipush d_Mm_tenths_83 (v := 30) (by decide) ?_
        refine r_goto (tgt := 99) d_Mm_tenths_85 (by decide) ?_
        refine r_iret d_Mm_tenths_99 rfl rfl ?_
        exact ⟨rfl, rfl⟩
    · exact absurd c_70 (by decide)
theorem d_Mm_tenths_88 : decode prog_14_method_56_code 88 = .ok (.iload_n 1, 1) := zo_27 (zd_b zq_prog_14_method_56_code_2 24 rfl rfl rfl)
theorem d_Mm_tenths_89 : decode prog_14_method_56_code 89 = .ok (.iconst 2, 1) := zo_5 (zd_b zq_prog_14_method_56_code_2 25 rfl rfl rfl)
theorem d_Mm_tenths_90 : decode prog_14_method_56_code 90 = .ok (.if_icmp .ne 8, 3) := zo_160 (d := 0) (e := 8) (zd_b zq_prog_14_method_56_code_2 26 rfl rfl rfl) (zd_b zq_prog_14_method_56_code_2 27 rfl rfl rfl) (zd_b zq_prog_14_method_56_code_2 28 rfl rfl rfl) (by decide +kernel)
theorem d_Mm_tenths_93 : decode prog_14_method_56_code 93 = .ok (.bipush 80, 2) := zo_16 (d := 80) (zd_b zq_prog_14_method_56_code_2 29 rfl rfl rfl) (zd_b zq_prog_14_method_56_code_2 30 rfl rfl rfl) (by decide +kernel)
theorem d_Mm_tenths_95 : decode prog_14_method_56_code 95 = .ok (.goto 4, 3) := zo_167 (d := 0) (e := 4) (zd_b zq_prog_14_method_56_code_2 31 rfl rfl rfl) (zd_b zq_prog_14_method_56_code_3 0 rfl rfl rfl) (zd_b zq_prog_14_method_56_code_3 1 rfl rfl rfl) (by decide +kernel)
set_option maxHeartbeats 4000000 in
set_option maxRecDepth 100000 in
theorem C_Mm_tenths115_2 (g : zG)  : CT g M_Mm_tenths [.int 115, .int 2] [] (fun o cs1 => o = .inl (some (.int 80)) ∧ cs1 = []) 0 0 := by
  refine z_of (by decide) rfl (Nat.le_of_ble_eq_true rfl) (fun w0 => ?_)
  refine r_lvE (lv2 := [(0, .int 115), (1, .int 2)]) rfl ?_
  refine r_iload_n d_Mm_tenths_0 rfl 0 rfl ?_
  · refine r_lookup (off := 68) (tgt := 69) d_Mm_tenths_1 (by decide) (by decide) (by decide) ?_
    refine r_iload_n d_Mm_tenths_69 rfl 1 rfl ?_
    refine r_if_ne (tgt := 78) d_Mm_tenths_70 (by decide) (fun c_70 => ?_) (fun c_70 => ?_)
    · refine r_iload_n d_Mm_tenths_78 rfl 1 rfl ?_
      refine r_iconst d_Mm_tenths_79 (v := 1) (by decide) ?_
      refine r_icmp_ne (tgt := 88) d_Mm_tenths_80 (by decide) (fun c_80 => ?_) (fun c_80 => ?_)
      · refine r_iload_n d_Mm_tenths_88 rfl 1 rfl ?_
        refine r_iconst d_Mm_tenths_89 (v := 2) (by decide) ?_
        refine r_icmp_ne (tgt := 98) d_Mm_tenths_90 (by decide) (fun c_90 => ?_) (fun c_90 => ?_)
        · exact absurd c_90 (by decide)
        · refine r_bipush d_Mm_tenths_93 (v := 80) (by decide) ?_
          refine r_goto (tgt := 99) d_Mm_tenths_95 (by decide) ?_
          refine r_iret d_Mm_tenths_99 rfl rfl ?_
          exact ⟨rfl, rfl⟩
      · exact absurd c_80 (by decide)
    · exact absurd c_70 (by decide)
theorem d_Mm_tenths_98 : decode prog_14_method_56_code 98 = .ok (.iconst 2, 1) := zo_5 (zd_b zq_prog_14_method_56_code_3 2 rfl rfl rfl)
set_option maxHeartbeats 4000000 in
set_option maxRecDepth 100000 in
theorem C_Mm_tenths115_3 (g : zG)  : CT g M_Mm_tenths [.int 115, .int 3] [] (fun o cs1 => o = .inl (some (.int 2)) ∧ cs1 = []) 0 0 := by
  refine z_of (by decide) rfl (Nat.le_of_ble_eq_true rfl) (fun w0 => ?_)
  refine r_lvE (lv2 := [(0, .int 115), (1, .int 3)]) rfl ?_
  refine r_iload_n d_Mm_tenths_0 rfl 0 rfl ?_
  · refine r_lookup (off := 68) (tgt := 69) d_Mm_tenths_1 (by decide) (by decide) (by decide) ?_
    refine r_iload_n d_Mm_tenths_69 rfl 1 rfl ?_
    refine r_if_ne (tgt := 78) d_Mm_tenths_70 (by decide) (fun c_70 => ?_) (fun c_70 => ?_)
    · refine r_iload_n d_Mm_tenths_78 rfl 1 rfl ?_
      refine r_iconst d_Mm_tenths_79 (v := 1) (by decide) ?_
      refine r_icmp_ne (tgt := 88) d_Mm_tenths_80 (by decide) (fun c_80 => ?_) (fun c_80 => ?_)
      · refine r_iload_n d_Mm_tenths_88 rfl 1 rfl ?_
        refine r_iconst d_Mm_tenths_89 (v := 2) (by decide) ?_
        refine r_icmp_ne (tgt := 98) d_Mm_tenths_90 (by decide) (fun c_90 => ?_) (fun c_90 => ?_)
        · refine r_iconst d_Mm_tenths_98 (v := 2) (by decide) ?_
          refine r_iret d_Mm_tenths_99 rfl rfl ?_
          exact ⟨rfl, rfl⟩
        · exact absurd c_90 (by decide)
      · exact absurd c_80 (by decide)
    · exact absurd c_70 (by decide)
theorem d_Mm_tenths_100 : decode prog_14_method_56_code 100 = .ok (.iload_n 1, 1) := zo_27 (zd_b zq_prog_14_method_56_code_3 4 rfl rfl rfl)
theorem d_Mm_tenths_101 : decode prog_14_method_56_code 101 = .ok (.ifCond .ne 7, 3) := zo_154 (d := 0) (e := 7) (zd_b zq_prog_14_method_56_code_3 5 rfl rfl rfl) (zd_b zq_prog_14_method_56_code_3 6 rfl rfl rfl) (zd_b zq_prog_14_method_56_code_3 7 rfl rfl rfl) (by decide +kernel)
theorem d_Mm_tenths_104 : decode prog_14_method_56_code 104 = .ok (.iconst 1, 1) := zo_4 (zd_b zq_prog_14_method_56_code_3 8 rfl rfl rfl)
theorem d_Mm_tenths_105 : decode prog_14_method_56_code 105 = .ok (.goto 15, 3) := zo_167 (d := 0) (e := 15) (zd_b zq_prog_14_method_56_code_3 9 rfl rfl rfl) (zd_b zq_prog_14_method_56_code_3 10 rfl rfl rfl) (zd_b zq_prog_14_method_56_code_3 11 rfl rfl rfl) (by decide +kernel)
theorem d_Mm_tenths_120 : decode prog_14_method_56_code 120 = .ok (.ireturn, 1) := zo_172 (zd_b zq_prog_14_method_56_code_3 24 rfl rfl rfl)
set_option maxHeartbeats 4000000 in
set_option maxRecDepth 100000 in
theorem C_Mm_tenths102_0 (g : zG)  : CT g M_Mm_tenths [.int 102, .int 0] [] (fun o cs1 => o = .inl (some (.int 1)) ∧ cs1 = []) 0 0 := by
  refine z_of (by decide) rfl (Nat.le_of_ble_eq_true rfl) (fun w0 => ?_)
  refine r_lvE (lv2 := [(0, .int 102), (1, .int 0)]) rfl ?_
  refine r_iload_n d_Mm_tenths_0 rfl 0 rfl ?_
  · refine r_lookup (off := 99) (tgt := 100) d_Mm_tenths_1 (by decide) (by decide) (by decide) ?_
    refine r_iload_n d_Mm_tenths_100 rfl 1 rfl ?_
    refine r_if_ne (tgt := 108) d_Mm_tenths_101 (by decide) (fun c_101 => ?_) (fun c_101 => ?_)
    · exact absurd c_101 (by decide)
    · refine r_iconst d_Mm_tenths_104 (v := 1) (by decide) ?_
      refine r_goto (tgt := 120) d_Mm_tenths_105 (by decide) ?_
      refine r_iret d_Mm_tenths_120 rfl rfl ?_
      exact ⟨rfl, rfl⟩
theorem d_Mm_tenths_108 : decode prog_14_method_56_code 108 = .ok (.iload_n 1, 1) := zo_27 (zd_b zq_prog_14_method_56_code_3 12 rfl rfl rfl)
theorem d_Mm_tenths_109 : decode prog_14_method_56_code 109 = .ok (.iconst 1, 1) := zo_4 (zd_b zq_prog_14_method_56_code_3 13 rfl rfl rfl)
theorem d_Mm_tenths_110 : decode prog_14_method_56_code 110 = .ok (.if_icmp .ne 9, 3) := zo_160 (d := 0) (e := 9) (zd_b zq_prog_14_method_56_code_3 14 rfl rfl rfl) (zd_b zq_prog_14_method_56_code_3 15 rfl rfl rfl) (zd_b zq_prog_14_method_56_code_3 16 rfl rfl rfl) (by decide +kernel)
theorem d_Mm_tenths_113 : decode prog_14_method_56_code 113 = .ok (.sipush 750, 3) := zo_17 (d := 2) (e := 238) (zd_b zq_prog_14_method_56_code_3 17 rfl rfl rfl) (zd_b zq_prog_14_method_56_code_3 18 rfl rfl rfl) (zd_b zq_prog_14_method_56_code_3 19 rfl rfl rfl) (by decide +kernel)
theorem d_Mm_tenths_116 : decode prog_14_method_56_code 116 = .ok (.goto 4, 3) := zo_167 (d := 0) (e := 4) (zd_b zq_prog_14_method_56_code_3 20 rfl rfl rfl) (zd_b zq_prog_14_method_56_code_3 21 rfl rfl rfl) (zd_b zq_prog_14_method_56_code_3 22 rfl rfl rfl) (by decide +kernel)
set_option maxHeartbeats 4000000 in
set_option maxRecDepth 100000 in
theorem C_Mm_tenths102_1 (g : zG)  : CT g M_Mm_tenths [.int 102, .int 1] [] (fun o cs1 => o = .inl (some (.int 750)) ∧ cs1 = []) 0 0 := by
  refine z_of (by decide) rfl (Nat.le_of_ble_eq_true rfl) (fun w0 => ?_)
  refine r_lvE (lv2 := [(0, .int 102), (1, .int 1)]) rfl ?_
  refine r_iload_n d_Mm_tenths_0 rfl 0 rfl ?_
  · refine r_lookup (off := 99) (tgt := 100) d_Mm_tenths_1 (by decide) (by decide) (by decide) ?_
    refine r_iload_n d_Mm_tenths_100 rfl 1 rfl ?_
    refine r_if_ne (tgt := 108) d_Mm_tenths_101 (by decide) (fun c_101 => ?_) (fun c_101 => ?_)
    · refine r_iload_n d_Mm_tenths_108 rfl 1 rfl ?_
      refine r_iconst d_Mm_tenths_109 (v := 1) (by decide) ?_
      refine r_icmp_ne (tgt := 119) d_Mm_tenths_110 (by decide) (fun c_110 => ?_) (fun c_110 => ?_)
      · exact absurd c_110 (by decide)
      · refine r_sipush d_Mm_tenths_113 (v := 750) (by decide) ?_
        refine r_goto (tgt := 120) d_Mm_tenths_116 (by decide) ?_
        refine r_iret d_Mm_tenths_120 rfl rfl ?_
        exact ⟨rfl, rfl⟩
    · exact absurd c_101 (by decide)
theorem d_Mm_tenths_119 : decode prog_14_method_56_code 119 = .ok (.iconst 0, 1) := zo_3 (zd_b zq_prog_14_method_56_code_3 23 rfl rfl rfl)
set_option maxHeartbeats 4000000 in
set_option maxRecDepth 100000 in
theorem C_Mm_tenths102_2 (g : zG)  : CT g M_Mm_tenths [.int 102, .int 2] [] (fun o cs1 => o = .inl (some (.int 0)) ∧ cs1 = []) 0 0 := by
  refine z_of (by decide) rfl (Nat.le_of_ble_eq_true rfl) (fun w0 => ?_)
  refine r_lvE (lv2 := [(0, .int 102), (1, .int 2)]) rfl ?_
  refine r_iload_n d_Mm_tenths_0 rfl 0 rfl ?_
  · refine r_lookup (off := 99) (tgt := 100) d_Mm_tenths_1 (by decide) (by decide) (by decide) ?_
    refine r_iload_n d_Mm_tenths_100 rfl 1 rfl ?_
    refine r_if_ne (tgt := 108) d_Mm_tenths_101 (by decide) (fun c_101 => ?_) (fun c_101 => ?_)
    · refine r_iload_n d_Mm_tenths_108 rfl 1 rfl ?_
      refine r_iconst d_Mm_tenths_109 (v := 1) (by decide) ?_
      refine r_icmp_ne (tgt := 119) d_Mm_tenths_110 (by decide) (fun c_110 => ?_) (fun c_110 => ?_)
      · refine r_iconst d_Mm_tenths_119 (v := 0) (by decide) ?_
        refine r_iret d_Mm_tenths_120 rfl rfl ?_
        exact ⟨rfl, rfl⟩
      · exact absurd c_110 (by decide)
    · exact absurd c_101 (by decide)
set_option maxHeartbeats 4000000 in
set_option maxRecDepth 100000 in
theorem C_Mm_tenths102_3 (g : zG)  : CT g M_Mm_tenths [.int 102, .int 3] [] (fun o cs1 => o = .inl (some (.int 0)) ∧ cs1 = []) 0 0 := by
  refine z_of (by decide) rfl (Nat.le_of_ble_eq_true rfl) (fun w0 => ?_)
  refine r_lvE (lv2 := [(0, .int 102), (1, .int 3)]) rfl ?_
  refine r_iload_n d_Mm_tenths_0 rfl 0 rfl ?_
  · refine r_lookup (off := 99) (tgt := 100) d_Mm_tenths_1 (by decide) (by decide) (by decide) ?_
    refine r_iload_n d_Mm_tenths_100 rfl 1 rfl ?_
    refine r_if_ne (tgt := 108) d_Mm_tenths_101 (by decide) (fun c_101 => ?_) (fun c_101 => ?_)
    · refine r_iload_n d_Mm_tenths_108 rfl 1 rfl ?_
      refine r_iconst d_Mm_tenths_109 (v := 1) (by decide) ?_
      refine r_icmp_ne (tgt := 119) d_Mm_tenths_110 (by decide) (fun c_110 => ?_) (fun c_110 => ?_)
      · refine r_iconst d_Mm_tenths_119 (v := 0) (by decide) ?_
        refine r_iret d_Mm_tenths_120 rfl rfl ?_
        exact ⟨rfl, rfl⟩
      · exact absurd c_110 (by decide)
    · exact absurd c_101 (by decide)
theorem d_Mm_tenths_121 : decode prog_14_method_56_code 121 = .ok (.iload_n 1, 1) := zo_27 (zd_b zq_prog_14_method_56_code_3 25 rfl rfl rfl)
theorem d_Mm_tenths_122 : decode prog_14_method_56_code 122 = .ok (.ifCond .ne 9, 3) := zo_154 (d := 0) (e := 9) (zd_b zq_prog_14_method_56_code_3 26 rfl rfl rfl) (zd_b zq_prog_14_method_56_code_3 27 rfl rfl rfl) (zd_b zq_prog_14_method_56_code_3 28 rfl rfl rfl) (by decide +kernel)
theorem d_Mm_tenths_125 : decode prog_14_method_56_code 125 = .ok (.sipush 950, 3) := zo_17 (d := 3) (e := 182) (zd_b zq_prog_14_method_56_code_3 29 rfl rfl rfl) (zd_b zq_prog_14_method_56_code_3 30 rfl rfl rfl) (zd_b zq_prog_14_method_56_code_3 31 rfl rfl rfl) (by decide +kernel)
theorem d_Mm_tenths_128 : decode prog_14_method_56_code 128 = .ok (.goto 4, 3) := zo_167 (d := 0) (e := 4) (zd_b zq_prog_14_method_56_code_4 0 rfl rfl rfl) (zd_b zq_prog_14_method_56_code_4 1 rfl rfl rfl) (zd_b zq_prog_14_method_56_code_4 2 rfl rfl rfl) (by decide +kernel)
theorem d_Mm_tenths_132 : decode prog_14_method_56_code 132 = .ok (.ireturn, 1) := zo_172 (zd_b zq_prog_14_method_56_code_4 4 rfl rfl rfl)
set_option maxHeartbeats 4000000 in
set_option maxRecDepth 100000 in
theorem C_Mm_tenths107_0 (g : zG)  : CT g M_Mm_tenths [.int 107, .int 0] [] (fun o cs1 => o = .inl (some (.int 950)) ∧ cs1 = []) 0 0 := by
  refine z_of (by decide) rfl (Nat.le_of_ble_eq_true rfl) (fun w0 => ?_)
  refine r_lvE (lv2 := [(0, .int 107), (1, .int 0)]) rfl ?_
  refine r_iload_n d_Mm_tenths_0 rfl 0 rfl ?_
  · refine r_lookup (off := 120) (tgt := 121) d_Mm_tenths_1 (by decide) (by decide) (by decide) ?_
    refine r_iload_n d_Mm_tenths_121 rfl 1 rfl ?_
    refine r_if_ne (tgt := 131) d_Mm_tenths_122 (by decide) (fun c_122 => ?_) (fun c_122 => ?_)
    · exact absurd c_122 (by decide)
    · refine r_sipush d_Mm_tenths_125 (v := 950) (by decide) ?_
      refine r_goto (tgt := 132) d_Mm_tenths_128 (by decide) ?_
      refine r_iret d_Mm_tenths_132 rfl rfl ?_
      exact ⟨rfl, rfl⟩
theorem d_Mm_tenths_131 : decode prog_14_method_56_code 131 = .ok (.iconst 0, 1) := zo_3 (zd_b zq_prog_14_method_56_code_4 3 rfl rfl rfl)
set_option maxHeartbeats 4000000 in
set_option maxRecDepth 100000 in
theorem C_Mm_tenths107_1 (g : zG)  : CT g M_Mm_tenths [.int 107, .int 1] [] (fun o cs1 => o = .inl (some (.int 0)) ∧ cs1 = []) 0 0 := by
  refine z_of (by decide) rfl (Nat.le_of_ble_eq_true rfl) (fun w0 => ?_)
  refine r_lvE (lv2 := [(0, .int 107), (1, .int 1)]) rfl ?_
  refine r_iload_n d_Mm_tenths_0 rfl 0 rfl ?_
  · refine r_lookup (off := 120) (tgt := 121) d_Mm_tenths_1 (by decide) (by decide) (by decide) ?_
    refine r_iload_n d_Mm_tenths_121 rfl 1 rfl ?_
    refine r_if_ne (tgt := 131) d_Mm_tenths_122 (by decide) (fun c_122 => ?_) (fun c_122 => ?_)
    · refine r_iconst d_Mm_tenths_131 (v := 0) (by decide) ?_
      refine r_iret d_Mm_tenths_132 rfl rfl ?_
      exact ⟨rfl, rfl⟩
    · exact absurd c_122 (by decide)
set_option maxHeartbeats 4000000 in
set_option maxRecDepth 100000 in
theorem C_Mm_tenths107_2 (g : zG)  : CT g M_Mm_tenths [.int 107, .int 2] [] (fun o cs1 => o = .inl (some (.int 0)) ∧ cs1 = []) 0 0 := by
  refine z_of (by decide) rfl (Nat.le_of_ble_eq_true rfl) (fun w0 => ?_)
  refine r_lvE (lv2 := [(0, .int 107), (1, .int 2)]) rfl ?_
  refine r_iload_n d_Mm_tenths_0 rfl 0 rfl ?_
  · refine r_lookup (off := 120) (tgt := 121) d_Mm_tenths_1 (by decide) (by decide) (by decide) ?_
    refine r_iload_n d_Mm_tenths_121 rfl 1 rfl ?_
    refine r_if_ne (tgt := 131) d_Mm_tenths_122 (by decide) (fun c_122 => ?_) (fun c_122 => ?_)
    · refine r_iconst d_Mm_tenths_131 (v := 0) (by decide) ?_
      refine r_iret d_Mm_tenths_132 rfl rfl ?_
      exact ⟨rfl, rfl⟩
    · exact absurd c_122 (by decide)
set_option maxHeartbeats 4000000 in
set_option maxRecDepth 100000 in
theorem C_Mm_tenths107_3 (g : zG)  : CT g M_Mm_tenths [.int 107, .int 3] [] (fun o cs1 => o = .inl (some (.int 0)) ∧ cs1 = []) 0 0 := by
  refine z_of (by decide) rfl (Nat.le_of_ble_eq_true rfl) (fun w0 => ?_)
  refine r_lvE (lv2 := [(0, .int 107), (1, .int 3)]) rfl ?_
  refine r_iload_n d_Mm_tenths_0 rfl 0 rfl ?_
  · refine r_lookup (off := 120) (tgt := 121) d_Mm_tenths_1 (by decide) (by decide) (by decide) ?_
    refine r_iload_n d_Mm_tenths_121 rfl 1 rfl ?_
    refine r_if_ne (tgt := 131) d_Mm_tenths_122 (by decide) (fun c_122 => ?_) (fun c_122 => ?_)
    · refine r_iconst d_Mm_tenths_131 (v := 0) (by decide) ?_
      refine r_iret d_Mm_tenths_132 rfl rfl ?_
      exact ⟨rfl, rfl⟩
    · exact absurd c_122 (by decide)
