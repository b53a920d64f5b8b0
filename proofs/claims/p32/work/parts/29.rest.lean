section
theorem sd_cases {w : Int32} (h : w.toInt < 98 ∨ 119 < w.toInt ∨ (w = 101 ∨ w = 103 ∨ w = 104 ∨ w = 105 ∨ w = 106 ∨ w = 108 ∨ w = 109 ∨ w = 110 ∨ w = 111 ∨ w = 112 ∨ w = 113 ∨ w = 114 ∨ w = 116 ∨ w = 117 ∨ w = 118) ∨ (w = 99 ∨ w = 119 ∨ w = 107 ∨ w = 102 ∨ w = 98 ∨ w = 115 ∨ w = 100)) (hn : ¬ (w = 99 ∨ w = 119 ∨ w = 107 ∨ w = 102 ∨ w = 98 ∨ w = 115 ∨ w = 100)) : (w.toInt < 98 ∨ 119 < w.toInt) ∨ (w = 101 ∨ w = 103 ∨ w = 104 ∨ w = 105 ∨ w = 106 ∨ w = 108 ∨ w = 109 ∨ w = 110 ∨ w = 111 ∨ w = 112 ∨ w = 113 ∨ w = 114 ∨ w = 116 ∨ w = 117 ∨ w = 118) := by
  rcases h with h | h | h | h
  · exact Or.inl (Or.inl h)
  · exact Or.inl (Or.inr h)
  · exact Or.inr h
  · exact absurd h hn
theorem sd_all (w : Int32) : w.toInt < 98 ∨ 119 < w.toInt ∨ (w = 101 ∨ w = 103 ∨ w = 104 ∨ w = 105 ∨ w = 106 ∨ w = 108 ∨ w = 109 ∨ w = 110 ∨ w = 111 ∨ w = 112 ∨ w = 113 ∨ w = 114 ∨ w = 116 ∨ w = 117 ∨ w = 118) ∨ (w = 99 ∨ w = 119 ∨ w = 107 ∨ w = 102 ∨ w = 98 ∨ w = 115 ∨ w = 100) := by
  by_cases h1 : w.toInt < 98
  · exact Or.inl h1
  · by_cases h2 : 119 < w.toInt
    · exact Or.inr (Or.inl h2)
    · refine Or.inr (Or.inr ?_)
      have key : ∀ k : Nat, k < 22 → (w.toInt = 98 + k) → (w = Int32.ofInt (98 + k)) := fun k _ e => Int32.toInt_inj.mp (by rw [e, Int32.toInt_ofInt_of_le (by omega) (by omega)])
      have e : w.toInt = 98 + ((w.toInt - 98).toNat : Nat) := by omega
      have hk := key (w.toInt - 98).toNat (by omega) e
      have hlt : (w.toInt - 98).toNat < 22 := by omega
      clear key e h1 h2
      generalize (w.toInt - 98).toNat = k at hk hlt
      subst hk
      revert k
      decide
abbrev M_Ip_mill : zM := (⟨"Ironpour", "mill", "(IIII)I"⟩, prog_1_method_18_code, 5, (Option.some FieldType.int), 6, 100, [])
theorem d_Ip_mill_0 : decode prog_1_method_18_code 0 = .ok (.iload_n 1, 1) := zo_27 (zd_b zq_prog_1_method_18_code_0 0 rfl rfl rfl)
theorem d_Ip_mill_1 : decode prog_1_method_18_code 1 = .ok (.iconst 0, 1) := zo_3 (zd_b zq_prog_1_method_18_code_0 1 rfl rfl rfl)
theorem d_Ip_mill_2 : decode prog_1_method_18_code 2 = .ok (.bipush 20, 2) := zo_16 (d := 20) (zd_b zq_prog_1_method_18_code_0 2 rfl rfl rfl) (zd_b zq_prog_1_method_18_code_0 3 rfl rfl rfl) (by decide +kernel)
theorem d_Ip_mill_4 : decode prog_1_method_18_code 4 = .ok (.invokestatic 203, 3) := zo_184 (d := 0) (e := 203) (zd_b zq_prog_1_method_18_code_0 4 rfl rfl rfl) (zd_b zq_prog_1_method_18_code_0 5 rfl rfl rfl) (zd_b zq_prog_1_method_18_code_0 6 rfl rfl rfl)
theorem ok_Ip_mill_Ip_isWithin : z_ok M_Ip_mill M_Ip_isWithin 3 := ⟨z_mj4 (i := 97) rfl (by decide +kernel), rfl, ⟨by decide +kernel, by decide +kernel, by decide +kernel⟩, ⟨by decide, by decide⟩, z_mj1 (i := 1) rfl (by decide +kernel), rfl⟩
theorem d_Ip_mill_7 : decode prog_1_method_18_code 7 = .ok (.ifCond .eq 34, 3) := zo_153 (d := 0) (e := 34) (zd_b zq_prog_1_method_18_code_0 7 rfl rfl rfl) (zd_b zq_prog_1_method_18_code_0 8 rfl rfl rfl) (zd_b zq_prog_1_method_18_code_0 9 rfl rfl rfl) (by decide +kernel)
theorem d_Ip_mill_41 : decode prog_1_method_18_code 41 = .ok (.new 89, 3) := zo_187 (d := 0) (e := 89) (zd_b zq_prog_1_method_18_code_1 9 rfl rfl rfl) (zd_b zq_prog_1_method_18_code_1 10 rfl rfl rfl) (zd_b zq_prog_1_method_18_code_1 11 rfl rfl rfl)
theorem sr_Ip_207 : Cond.stringRef "Ironpour" 207 "clay, water and coal are 0 to 20, fresh sand 0 to 50" ∈ lw_tbl := z_tb4 (i := 175) rfl
theorem d_Ip_mill_44 : decode prog_1_method_18_code 44 = .ok (.dup, 1) := zo_89 (zd_b zq_prog_1_method_18_code_1 12 rfl rfl rfl)
theorem d_Ip_mill_45 : decode prog_1_method_18_code 45 = .ok (.ldc 207, 2) := zo_18 (d := 207) (zd_b zq_prog_1_method_18_code_1 13 rfl rfl rfl) (zd_b zq_prog_1_method_18_code_1 14 rfl rfl rfl)
theorem d_Ip_mill_47 : decode prog_1_method_18_code 47 = .ok (.invokespecial 93, 3) := zo_183 (d := 0) (e := 93) (zd_b zq_prog_1_method_18_code_1 15 rfl rfl rfl) (zd_b zq_prog_1_method_18_code_1 16 rfl rfl rfl) (zd_b zq_prog_1_method_18_code_1 17 rfl rfl rfl)
theorem d_Ip_mill_50 : decode prog_1_method_18_code 50 = .ok (.athrow, 1) := zo_191 (zd_b zq_prog_1_method_18_code_1 18 rfl rfl rfl)
theorem d_Ip_mill_10 : decode prog_1_method_18_code 10 = .ok (.iload_n 2, 1) := zo_28 (zd_b zq_prog_1_method_18_code_0 10 rfl rfl rfl)
theorem d_Ip_mill_11 : decode prog_1_method_18_code 11 = .ok (.iconst 0, 1) := zo_3 (zd_b zq_prog_1_method_18_code_0 11 rfl rfl rfl)
theorem d_Ip_mill_12 : decode prog_1_method_18_code 12 = .ok (.bipush 20, 2) := zo_16 (d := 20) (zd_b zq_prog_1_method_18_code_0 12 rfl rfl rfl) (zd_b zq_prog_1_method_18_code_0 13 rfl rfl rfl) (by decide +kernel)
theorem d_Ip_mill_14 : decode prog_1_method_18_code 14 = .ok (.invokestatic 203, 3) := zo_184 (d := 0) (e := 203) (zd_b zq_prog_1_method_18_code_0 14 rfl rfl rfl) (zd_b zq_prog_1_method_18_code_0 15 rfl rfl rfl) (zd_b zq_prog_1_method_18_code_0 16 rfl rfl rfl)
theorem d_Ip_mill_17 : decode prog_1_method_18_code 17 = .ok (.ifCond .eq 24, 3) := zo_153 (d := 0) (e := 24) (zd_b zq_prog_1_method_18_code_0 17 rfl rfl rfl) (zd_b zq_prog_1_method_18_code_0 18 rfl rfl rfl) (zd_b zq_prog_1_method_18_code_0 19 rfl rfl rfl) (by decide +kernel)
theorem d_Ip_mill_20 : decode prog_1_method_18_code 20 = .ok (.iload_n 3, 1) := zo_29 (zd_b zq_prog_1_method_18_code_0 20 rfl rfl rfl)
theorem d_Ip_mill_21 : decode prog_1_method_18_code 21 = .ok (.iconst 0, 1) := zo_3 (zd_b zq_prog_1_method_18_code_0 21 rfl rfl rfl)
theorem d_Ip_mill_22 : decode prog_1_method_18_code 22 = .ok (.bipush 20, 2) := zo_16 (d := 20) (zd_b zq_prog_1_method_18_code_0 22 rfl rfl rfl) (zd_b zq_prog_1_method_18_code_0 23 rfl rfl rfl) (by decide +kernel)
theorem d_Ip_mill_24 : decode prog_1_method_18_code 24 = .ok (.invokestatic 203, 3) := zo_184 (d := 0) (e := 203) (zd_b zq_prog_1_method_18_code_0 24 rfl rfl rfl) (zd_b zq_prog_1_method_18_code_0 25 rfl rfl rfl) (zd_b zq_prog_1_method_18_code_0 26 rfl rfl rfl)
theorem d_Ip_mill_27 : decode prog_1_method_18_code 27 = .ok (.ifCond .eq 14, 3) := zo_153 (d := 0) (e := 14) (zd_b zq_prog_1_method_18_code_0 27 rfl rfl rfl) (zd_b zq_prog_1_method_18_code_0 28 rfl rfl rfl) (zd_b zq_prog_1_method_18_code_0 29 rfl rfl rfl) (by decide +kernel)
theorem d_Ip_mill_30 : decode prog_1_method_18_code 30 = .ok (.iload 4, 2) := zo_21 (d := 4) (zd_b zq_prog_1_method_18_code_0 30 rfl rfl rfl) (zd_b zq_prog_1_method_18_code_0 31 rfl rfl rfl)
theorem d_Ip_mill_32 : decode prog_1_method_18_code 32 = .ok (.iconst 0, 1) := zo_3 (zd_b zq_prog_1_method_18_code_1 0 rfl rfl rfl)
theorem d_Ip_mill_33 : decode prog_1_method_18_code 33 = .ok (.bipush 50, 2) := zo_16 (d := 50) (zd_b zq_prog_1_method_18_code_1 1 rfl rfl rfl) (zd_b zq_prog_1_method_18_code_1 2 rfl rfl rfl) (by decide +kernel)
theorem d_Ip_mill_35 : decode prog_1_method_18_code 35 = .ok (.invokestatic 203, 3) := zo_184 (d := 0) (e := 203) (zd_b zq_prog_1_method_18_code_1 3 rfl rfl rfl) (zd_b zq_prog_1_method_18_code_1 4 rfl rfl rfl) (zd_b zq_prog_1_method_18_code_1 5 rfl rfl rfl)
theorem d_Ip_mill_38 : decode prog_1_method_18_code 38 = .ok (.ifCond .ne 13, 3) := zo_154 (d := 0) (e := 13) (zd_b zq_prog_1_method_18_code_1 6 rfl rfl rfl) (zd_b zq_prog_1_method_18_code_1 7 rfl rfl rfl) (zd_b zq_prog_1_method_18_code_1 8 rfl rfl rfl) (by decide +kernel)
set_option maxHeartbeats 4000000 in
set_option maxRecDepth 100000 in
theorem C_Ip_millE (g : zG) (a pa ta sa gs co fu la gy du re wm ac : Nat) (cl wa co_ fi bu : Int32) (m1 m2 m3 m4 : Int32) (hw : ¬ ((0 ≤ m1 ∧ m1 ≤ 20) ∧ (0 ≤ m2 ∧ m2 ≤ 20) ∧ (0 ≤ m3 ∧ m3 ≤ 20) ∧ (0 ≤ m4 ∧ m4 ≤ 50))) : CT g M_Ip_mill [.ref a, .int m1, .int m2, .int m3, .int m4] [(a, .inr (11, [.ref pa, .ref ta, .ref sa, .ref gs, .ref co, .ref fu, .ref la, .ref gy, .ref du, .ref re, .ref wm, .ref ac])), (gs, .inr (4, [.int cl, .int wa, .int co_, .int fi, .int bu]))] (fun o cs1 => o = .inr "java/lang/IllegalArgumentException" ∧ cs1 = [(a, .inr (11, [.ref pa, .ref ta, .ref sa, .ref gs, .ref co, .ref fu, .ref la, .ref gy, .ref du, .ref re, .ref wm, .ref ac])), (gs, .inr (4, [.int cl, .int wa, .int co_, .int fi, .int bu]))]) 1 6 := by
  refine z_of (by decide) rfl (Nat.le_of_ble_eq_true rfl) (fun w0 => ?_)
  refine r_lvE (lv2 := [(0, .ref a), (1, .int m1), (2, .int m2), (3, .int m3), (4, .int m4)]) rfl ?_
  refine r_iload_n d_Ip_mill_0 rfl 1 rfl ?_
  refine r_iconst d_Ip_mill_1 (v := 0) (by decide) ?_
  refine r_bipush d_Ip_mill_2 (v := 20) (by decide) ?_
  refine r_callS (As := [.int m1, .int 0, .int 20]) (rest := []) (csC := []) (is := []) ln_Ip_203 w_st_Ip_isWithin ok_Ip_mill_Ip_isWithin d_Ip_mill_4 (C_Ip_isWithin g m1 0 20) rfl rfl (Nat.le_of_ble_eq_true rfl) rfl (by decide) (by omega) (by omega) (fun E cs1 hx => ?_) (fun v cs1 hx => ?_)
  · exact absurd hx.1 (by simp)
  · obtain ⟨e1, rfl⟩ := hx
    cases e1
    refine ⟨rfl, ?_⟩
    refine r_st (st2 := [.int (if 0 ≤ m1 ∧ m1 ≤ 20 then 1 else 0)]) rfl ?_
    refine r_cs (cs2 := [(a, .inr (11, [.ref pa, .ref ta, .ref sa, .ref gs, .ref co, .ref fu, .ref la, .ref gy, .ref du, .ref re, .ref wm, .ref ac])), (gs, .inr (4, [.int cl, .int wa, .int co_, .int fi, .int bu]))]) rfl ?_
    refine r_if_eq (tgt := 41) d_Ip_mill_7 (by decide) (fun c_7 => ?_) (fun c_7 => ?_)
    · refine r_throw tb_Ip_89_93 sr_Ip_207 d_Ip_mill_41 d_Ip_mill_44 d_Ip_mill_45 d_Ip_mill_47 d_Ip_mill_50 rfl (by decide) (by decide) (Nat.le_of_ble_eq_true rfl) (by omega) (by omega) ?_
      exact ⟨rfl, rfl⟩
    · refine r_iload_n d_Ip_mill_10 rfl 2 rfl ?_
      refine r_iconst d_Ip_mill_11 (v := 0) (by decide) ?_
      refine r_bipush d_Ip_mill_12 (v := 20) (by decide) ?_
      refine r_callS (As := [.int m2, .int 0, .int 20]) (rest := []) (csC := []) (is := []) ln_Ip_203 w_st_Ip_isWithin ok_Ip_mill_Ip_isWithin d_Ip_mill_14 (C_Ip_isWithin g m2 0 20) rfl rfl (Nat.le_of_ble_eq_true rfl) rfl (by decide) (by omega) (by omega) (fun E cs1 hx => ?_) (fun v cs1 hx => ?_)
      · exact absurd hx.1 (by simp)
      · obtain ⟨e1, rfl⟩ := hx
        cases e1
        refine ⟨rfl, ?_⟩
        refine r_st (st2 := [.int (if 0 ≤ m2 ∧ m2 ≤ 20 then 1 else 0)]) rfl ?_
        refine r_cs (cs2 := [(a, .inr (11, [.ref pa, .ref ta, .ref sa, .ref gs, .ref co, .ref fu, .ref la, .ref gy, .ref du, .ref re, .ref wm, .ref ac])), (gs, .inr (4, [.int cl, .int wa, .int co_, .int fi, .int bu]))]) rfl ?_
        refine r_if_eq (tgt := 41) d_Ip_mill_17 (by decide) (fun c_17 => ?_) (fun c_17 => ?_)
        · refine r_throw tb_Ip_89_93 sr_Ip_207 d_Ip_mill_41 d_Ip_mill_44 d_Ip_mill_45 d_Ip_mill_47 d_Ip_mill_50 rfl (by decide) (by decide) (Nat.le_of_ble_eq_true rfl) (by omega) (by omega) ?_
          exact ⟨rfl, rfl⟩
        · refine r_iload_n d_Ip_mill_20 rfl 3 rfl ?_
          refine r_iconst d_Ip_mill_21 (v := 0) (by decide) ?_
          refine r_bipush d_Ip_mill_22 (v := 20) (by decide) ?_
          refine r_callS (As := [.int m3, .int 0, .int 20]) (rest := []) (csC := []) (is := []) ln_Ip_203 w_st_Ip_isWithin ok_Ip_mill_Ip_isWithin d_Ip_mill_24 (C_Ip_isWithin g m3 0 20) rfl rfl (Nat.le_of_ble_eq_true rfl) rfl (by decide) (by omega) (by omega) (fun E cs1 hx => ?_) (fun v cs1 hx => ?_)
          · exact absurd hx.1 (by simp)
          · obtain ⟨e1, rfl⟩ := hx
            cases e1
            refine ⟨rfl, ?_⟩
            refine r_st (st2 := [.int (if 0 ≤ m3 ∧ m3 ≤ 20 then 1 else 0)]) rfl ?_
            refine r_cs (cs2 := [(a, .inr (11, [.ref pa, .ref ta, .ref sa, .ref gs, .ref co, .ref fu, .ref la, .ref gy, .ref du, .ref re, .ref wm, .ref ac])), (gs, .inr (4, [.int cl, .int wa, .int co_, .int fi, .int bu]))]) rfl ?_
            refine r_if_eq (tgt := 41) d_Ip_mill_27 (by decide) (fun c_27 => ?_) (fun c_27 => ?_)
            · refine r_throw tb_Ip_89_93 sr_Ip_207 d_Ip_mill_41 d_Ip_mill_44 d_Ip_mill_45 d_Ip_mill_47 d_Ip_mill_50 rfl (by decide) (by decide) (Nat.le_of_ble_eq_true rfl) (by omega) (by omega) ?_
              exact ⟨rfl, rfl⟩
            · refine r_iload d_Ip_mill_30 4 rfl ?_
              refine r_iconst d_Ip_mill_32 (v := 0) (by decide) ?_
              refine r_bipush d_Ip_mill_33 (v := 50) (by decide) ?_
              refine r_callS (As := [.int m4, .int 0, .int 50]) (rest := []) (csC := []) (is := []) ln_Ip_203 w_st_Ip_isWithin ok_Ip_mill_Ip_isWithin d_Ip_mill_35 (C_Ip_isWithin g m4 0 50) rfl rfl (Nat.le_of_ble_eq_true rfl) rfl (by decide) (by omega) (by omega) (fun E cs1 hx => ?_) (fun v cs1 hx => ?_)
              · exact absurd hx.1 (by simp)
              · obtain ⟨e1, rfl⟩ := hx
                cases e1
                refine ⟨rfl, ?_⟩
                refine r_st (st2 := [.int (if 0 ≤ m4 ∧ m4 ≤ 50 then 1 else 0)]) rfl ?_
                refine r_cs (cs2 := [(a, .inr (11, [.ref pa, .ref ta, .ref sa, .ref gs, .ref co, .ref fu, .ref la, .ref gy, .ref du, .ref re, .ref wm, .ref ac])), (gs, .inr (4, [.int cl, .int wa, .int co_, .int fi, .int bu]))]) rfl ?_
                refine r_if_ne (tgt := 51) d_Ip_mill_38 (by decide) (fun c_38 => ?_) (fun c_38 => ?_)
                · exact absurd ⟨z_b1 c_7, z_b1 c_17, z_b1 c_27, z_b1 c_38⟩ hw
                · refine r_throw tb_Ip_89_93 sr_Ip_207 d_Ip_mill_41 d_Ip_mill_44 d_Ip_mill_45 d_Ip_mill_47 d_Ip_mill_50 rfl (by decide) (by decide) (Nat.le_of_ble_eq_true rfl) (by omega) (by omega) ?_
                  exact ⟨rfl, rfl⟩
theorem d_Ip_mill_51 : decode prog_1_method_18_code 51 = .ok (.aload_n 0, 1) := zo_42 (zd_b zq_prog_1_method_18_code_1 19 rfl rfl rfl)
theorem d_Ip_mill_52 : decode prog_1_method_18_code 52 = .ok (.getfield 29, 3) := zo_180 (d := 0) (e := 29) (zd_b zq_prog_1_method_18_code_1 20 rfl rfl rfl) (zd_b zq_prog_1_method_18_code_1 21 rfl rfl rfl) (zd_b zq_prog_1_method_18_code_1 22 rfl rfl rfl)
theorem fs_Ip_29 : z_fs "Ironpour" 29 11 3 := ⟨R_Ip, "Ironpour", F_Ip, 12, rfl, u_Ip, by decide, Or.inl ⟨z_mj2 (i := 66) rfl (by decide +kernel), Or.inl rfl⟩⟩
theorem d_Ip_mill_55 : decode prog_1_method_18_code 55 = .ok (.iload_n 1, 1) := zo_27 (zd_b zq_prog_1_method_18_code_1 23 rfl rfl rfl)
theorem d_Ip_mill_56 : decode prog_1_method_18_code 56 = .ok (.iload_n 2, 1) := zo_28 (zd_b zq_prog_1_method_18_code_1 24 rfl rfl rfl)
theorem d_Ip_mill_57 : decode prog_1_method_18_code 57 = .ok (.iload_n 3, 1) := zo_29 (zd_b zq_prog_1_method_18_code_1 25 rfl rfl rfl)
theorem d_Ip_mill_58 : decode prog_1_method_18_code 58 = .ok (.iload 4, 2) := zo_21 (d := 4) (zd_b zq_prog_1_method_18_code_1 26 rfl rfl rfl) (zd_b zq_prog_1_method_18_code_1 27 rfl rfl rfl)
theorem d_Ip_mill_60 : decode prog_1_method_18_code 60 = .ok (.invokevirtual 209, 3) := zo_182 (d := 0) (e := 209) (zd_b zq_prog_1_method_18_code_1 28 rfl rfl rfl) (zd_b zq_prog_1_method_18_code_1 29 rfl rfl rfl) (zd_b zq_prog_1_method_18_code_1 30 rfl rfl rfl)
theorem ok_Ip_mill_GS_mix : z_ok M_Ip_mill M_GS_mix 4 := ⟨z_mj4 (i := 179) rfl (by decide +kernel), rfl, ⟨by decide +kernel, by decide +kernel, by decide +kernel⟩, ⟨by decide, by decide⟩, z_mj1 (i := 5) rfl (by decide +kernel), rfl⟩
theorem ln_Ip_209 : Cond.methodLink "Ironpour" 209 M_GS_mix.1 ∈ z_gw := z_mj4 (i := 176) rfl (by decide +kernel)
theorem w_im_GS_mix : Cond.instanceMethod M_GS_mix.1 ∈ z_gw := z_mj4 (i := 177) rfl (by decide +kernel)
theorem w_se_GS_mix : Cond.selects M_GS_mix.1.cls M_GS_mix.1 M_GS_mix.1 ∈ z_gw := z_mj4 (i := 178) rfl (by decide +kernel)
theorem d_Ip_mill_63 : decode prog_1_method_18_code 63 = .ok (.aload_n 0, 1) := zo_42 (zd_b zq_prog_1_method_18_code_1 31 rfl rfl rfl)
theorem d_Ip_mill_64 : decode prog_1_method_18_code 64 = .ok (.getfield 29, 3) := zo_180 (d := 0) (e := 29) (zd_b zq_prog_1_method_18_code_2 0 rfl rfl rfl) (zd_b zq_prog_1_method_18_code_2 1 rfl rfl rfl) (zd_b zq_prog_1_method_18_code_2 2 rfl rfl rfl)
theorem d_Ip_mill_67 : decode prog_1_method_18_code 67 = .ok (.invokevirtual 213, 3) := zo_182 (d := 0) (e := 213) (zd_b zq_prog_1_method_18_code_2 3 rfl rfl rfl) (zd_b zq_prog_1_method_18_code_2 4 rfl rfl rfl) (zd_b zq_prog_1_method_18_code_2 5 rfl rfl rfl)
theorem ok_Ip_mill_GS_strength : z_ok M_Ip_mill M_GS_strength 0 := ⟨z_mj4 (i := 184) rfl (by decide +kernel), rfl, ⟨by decide +kernel, by decide +kernel, by decide +kernel⟩, ⟨by decide, by decide⟩, z_mj1 (i := 5) rfl (by decide +kernel), rfl⟩
theorem ln_Ip_213 : Cond.methodLink "Ironpour" 213 M_GS_strength.1 ∈ z_gw := z_mj4 (i := 181) rfl (by decide +kernel)
theorem d_Ip_mill_70 : decode prog_1_method_18_code 70 = .ok (.ireturn, 1) := zo_172 (zd_b zq_prog_1_method_18_code_2 6 rfl rfl rfl)
set_option maxHeartbeats 4000000 in
set_option maxRecDepth 100000 in
theorem C_Ip_millN (g : zG) (a pa ta sa gs co fu la gy du re wm ac : Nat) (cl wa co_ fi bu : Int32) (m1 m2 m3 m4 : Int32) (hw : ((0 ≤ m1 ∧ m1 ≤ 20) ∧ (0 ≤ m2 ∧ m2 ≤ 20) ∧ (0 ≤ m3 ∧ m3 ≤ 20) ∧ (0 ≤ m4 ∧ m4 ≤ 50))) : CT g M_Ip_mill [.ref a, .int m1, .int m2, .int m3, .int m4] [(a, .inr (11, [.ref pa, .ref ta, .ref sa, .ref gs, .ref co, .ref fu, .ref la, .ref gy, .ref du, .ref re, .ref wm, .ref ac])), (gs, .inr (4, [.int cl, .int wa, .int co_, .int fi, .int bu]))] (fun o cs1 => o = .inl (some (.int (S_GS_strength gs (if cl + m1 < 300 then cl + m1 else 300) (if wa + m2 < 300 then wa + m2 else 300) (if co_ + m3 < 300 then co_ + m3 else 300) (fi - ((fi * m4) / 100)) (bu - ((bu * m4) / 100))))) ∧ cs1 = [(a, .inr (11, [.ref pa, .ref ta, .ref sa, .ref gs, .ref co, .ref fu, .ref la, .ref gy, .ref du, .ref re, .ref wm, .ref ac])), (gs, .inr (4, [.int (if cl + m1 < 300 then cl + m1 else 300), .int (if wa + m2 < 300 then wa + m2 else 300), .int (if co_ + m3 < 300 then co_ + m3 else 300), .int (fi - ((fi * m4) / 100)), .int (bu - ((bu * m4) / 100))]))]) 1 6 := by
  refine z_of (by decide) rfl (Nat.le_of_ble_eq_true rfl) (fun w0 => ?_)
  refine r_lvE (lv2 := [(0, .ref a), (1, .int m1), (2, .int m2), (3, .int m3), (4, .int m4)]) rfl ?_
  refine r_iload_n d_Ip_mill_0 rfl 1 rfl ?_
  refine r_iconst d_Ip_mill_1 (v := 0) (by decide) ?_
  refine r_bipush d_Ip_mill_2 (v := 20) (by decide) ?_
  refine r_callS (As := [.int m1, .int 0, .int 20]) (rest := []) (csC := []) (is := []) ln_Ip_203 w_st_Ip_isWithin ok_Ip_mill_Ip_isWithin d_Ip_mill_4 (C_Ip_isWithin g m1 0 20) rfl rfl (Nat.le_of_ble_eq_true rfl) rfl (by decide) (by omega) (by omega) (fun E cs1 hx => ?_) (fun v cs1 hx => ?_)
  · exact absurd hx.1 (by simp)
  · obtain ⟨e1, rfl⟩ := hx
    cases e1
    refine ⟨rfl, ?_⟩
    refine r_st (st2 := [.int (if 0 ≤ m1 ∧ m1 ≤ 20 then 1 else 0)]) rfl ?_
    refine r_cs (cs2 := [(a, .inr (11, [.ref pa, .ref ta, .ref sa, .ref gs, .ref co, .ref fu, .ref la, .ref gy, .ref du, .ref re, .ref wm, .ref ac])), (gs, .inr (4, [.int cl, .int wa, .int co_, .int fi, .int bu]))]) rfl ?_
    refine r_if_eq (tgt := 41) d_Ip_mill_7 (by decide) (fun c_7 => ?_) (fun c_7 => ?_)
    · exact absurd hw.1 (z_b0 c_7)
    · refine r_iload_n d_Ip_mill_10 rfl 2 rfl ?_
      refine r_iconst d_Ip_mill_11 (v := 0) (by decide) ?_
      refine r_bipush d_Ip_mill_12 (v := 20) (by decide) ?_
      refine r_callS (As := [.int m2, .int 0, .int 20]) (rest := []) (csC := []) (is := []) ln_Ip_203 w_st_Ip_isWithin ok_Ip_mill_Ip_isWithin d_Ip_mill_14 (C_Ip_isWithin g m2 0 20) rfl rfl (Nat.le_of_ble_eq_true rfl) rfl (by decide) (by omega) (by omega) (fun E cs1 hx => ?_) (fun v cs1 hx => ?_)
      · exact absurd hx.1 (by simp)
      · obtain ⟨e1, rfl⟩ := hx
        cases e1
        refine ⟨rfl, ?_⟩
        refine r_st (st2 := [.int (if 0 ≤ m2 ∧ m2 ≤ 20 then 1 else 0)]) rfl ?_
        refine r_cs (cs2 := [(a, .inr (11, [.ref pa, .ref ta, .ref sa, .ref gs, .ref co, .ref fu, .ref la, .ref gy, .ref du, .ref re, .ref wm, .ref ac])), (gs, .inr (4, [.int cl, .int wa, .int co_, .int fi, .int bu]))]) rfl ?_
        refine r_if_eq (tgt := 41) d_Ip_mill_17 (by decide) (fun c_17 => ?_) (fun c_17 => ?_)
        · exact absurd hw.2.1 (z_b0 c_17)
        · refine r_iload_n d_Ip_mill_20 rfl 3 rfl ?_
          refine r_iconst d_Ip_mill_21 (v := 0) (by decide) ?_
          refine r_bipush d_Ip_mill_22 (v := 20) (by decide) ?_
          refine r_callS (As := [.int m3, .int 0, .int 20]) (rest := []) (csC := []) (is := []) ln_Ip_203 w_st_Ip_isWithin ok_Ip_mill_Ip_isWithin d_Ip_mill_24 (C_Ip_isWithin g m3 0 20) rfl rfl (Nat.le_of_ble_eq_true rfl) rfl (by decide) (by omega) (by omega) (fun E cs1 hx => ?_) (fun v cs1 hx => ?_)
          · exact absurd hx.1 (by simp)
          · obtain ⟨e1, rfl⟩ := hx
            cases e1
            refine ⟨rfl, ?_⟩
            refine r_st (st2 := [.int (if 0 ≤ m3 ∧ m3 ≤ 20 then 1 else 0)]) rfl ?_
            refine r_cs (cs2 := [(a, .inr (11, [.ref pa, .ref ta, .ref sa, .ref gs, .ref co, .ref fu, .ref la, .ref gy, .ref du, .ref re, .ref wm, .ref ac])), (gs, .inr (4, [.int cl, .int wa, .int co_, .int fi, .int bu]))]) rfl ?_
            refine r_if_eq (tgt := 41) d_Ip_mill_27 (by decide) (fun c_27 => ?_) (fun c_27 => ?_)
            · exact absurd hw.2.2.1 (z_b0 c_27)
            · refine r_iload d_Ip_mill_30 4 rfl ?_
              refine r_iconst d_Ip_mill_32 (v := 0) (by decide) ?_
              refine r_bipush d_Ip_mill_33 (v := 50) (by decide) ?_
              refine r_callS (As := [.int m4, .int 0, .int 50]) (rest := []) (csC := []) (is := []) ln_Ip_203 w_st_Ip_isWithin ok_Ip_mill_Ip_isWithin d_Ip_mill_35 (C_Ip_isWithin g m4 0 50) rfl rfl (Nat.le_of_ble_eq_true rfl) rfl (by decide) (by omega) (by omega) (fun E cs1 hx => ?_) (fun v cs1 hx => ?_)
              · exact absurd hx.1 (by simp)
              · obtain ⟨e1, rfl⟩ := hx
                cases e1
                refine ⟨rfl, ?_⟩
                refine r_st (st2 := [.int (if 0 ≤ m4 ∧ m4 ≤ 50 then 1 else 0)]) rfl ?_
                refine r_cs (cs2 := [(a, .inr (11, [.ref pa, .ref ta, .ref sa, .ref gs, .ref co, .ref fu, .ref la, .ref gy, .ref du, .ref re, .ref wm, .ref ac])), (gs, .inr (4, [.int cl, .int wa, .int co_, .int fi, .int bu]))]) rfl ?_
                refine r_if_ne (tgt := 51) d_Ip_mill_38 (by decide) (fun c_38 => ?_) (fun c_38 => ?_)
                · refine r_aload_n d_Ip_mill_51 rfl 0 rfl ?_
                  refine r_get fs_Ip_29 d_Ip_mill_52 (q0 := 0) rfl rfl ?_
                  refine r_iload_n d_Ip_mill_55 rfl 1 rfl ?_
                  refine r_iload_n d_Ip_mill_56 rfl 2 rfl ?_
                  refine r_iload_n d_Ip_mill_57 rfl 3 rfl ?_
                  refine r_iload d_Ip_mill_58 4 rfl ?_
                  refine r_callV (As := [.int m1, .int m2, .int m3, .int m4]) (rest := []) (csC := [(gs, .inr (4, [.int cl, .int wa, .int co_, .int fi, .int bu]))]) (is := [1]) (q0 := 1) rfl rfl ln_Ip_209 w_im_GS_mix w_se_GS_mix ok_Ip_mill_GS_mix d_Ip_mill_60 (C_GS_mix g gs cl wa co_ fi bu m1 m2 m3 m4) rfl rfl (Nat.le_of_ble_eq_true rfl) rfl (by decide) (by omega) (by omega) (fun E cs1 hx => ?_) (fun v cs1 hx => ?_)
                  · exact absurd hx.1 (by simp)
                  · obtain ⟨e1, rfl⟩ := hx
                    cases e1
                    refine ⟨rfl, ?_⟩
                    refine r_st (st2 := []) rfl ?_
                    refine r_cs (cs2 := [(a, .inr (11, [.ref pa, .ref ta, .ref sa, .ref gs, .ref co, .ref fu, .ref la, .ref gy, .ref du, .ref re, .ref wm, .ref ac])), (gs, .inr (4, [.int (if cl + m1 < 300 then cl + m1 else 300), .int (if wa + m2 < 300 then wa + m2 else 300), .int (if co_ + m3 < 300 then co_ + m3 else 300), .int (fi - ((fi * m4) / 100)), .int (bu - ((bu * m4) / 100))]))]) rfl ?_
                    refine r_aload_n d_Ip_mill_63 rfl 0 rfl ?_
                    refine r_get fs_Ip_29 d_Ip_mill_64 (q0 := 0) rfl rfl ?_
                    refine r_callV (As := []) (rest := []) (csC := [(gs, .inr (4, [.int (if cl + m1 < 300 then cl + m1 else 300), .int (if wa + m2 < 300 then wa + m2 else 300), .int (if co_ + m3 < 300 then co_ + m3 else 300), .int (fi - ((fi * m4) / 100)), .int (bu - ((bu * m4) / 100))]))]) (is := [1]) (q0 := 1) rfl rfl ln_Ip_213 w_im_GS_strength w_se_GS_strength ok_Ip_mill_GS_strength d_Ip_mill_67 (C_GS_strength g gs (if cl + m1 < 300 then cl + m1 else 300) (if wa + m2 < 300 then wa + m2 else 300) (if co_ + m3 < 300 then co_ + m3 else 300) (fi - ((fi * m4) / 100)) (bu - ((bu * m4) / 100))) rfl rfl (Nat.le_of_ble_eq_true rfl) rfl (by decide) (by omega) (by omega) (fun E cs1 hx => ?_) (fun v cs1 hx => ?_)
                    · exact absurd hx.1 (by simp)
                    · obtain ⟨e1, rfl⟩ := hx
                      cases e1
                      refine ⟨rfl, ?_⟩
                      refine r_st (st2 := [.int (S_GS_strength gs (if cl + m1 < 300 then cl + m1 else 300) (if wa + m2 < 300 then wa + m2 else 300) (if co_ + m3 < 300 then co_ + m3 else 300) (fi - ((fi * m4) / 100)) (bu - ((bu * m4) / 100)))]) rfl ?_
                      refine r_cs (cs2 := [(a, .inr (11, [.ref pa, .ref ta, .ref sa, .ref gs, .ref co, .ref fu, .ref la, .ref gy, .ref du, .ref re, .ref wm, .ref ac])), (gs, .inr (4, [.int (if cl + m1 < 300 then cl + m1 else 300), .int (if wa + m2 < 300 then wa + m2 else 300), .int (if co_ + m3 < 300 then co_ + m3 else 300), .int (fi - ((fi * m4) / 100)), .int (bu - ((bu * m4) / 100))]))]) rfl ?_
                      refine r_iret d_Ip_mill_70 rfl rfl ?_
                      exact ⟨rfl, rfl⟩
                · exact absurd hw.2.2.2 (z_b0 c_38)
abbrev M_Ip_sand : zM := (⟨"Ironpour", "sand", "(C)I"⟩, prog_1_method_19_code, 2, (Option.some FieldType.int), 6, 100, [])
theorem d_Ip_sand_0 : decode prog_1_method_19_code 0 = .ok (.iload_n 1, 1) := zo_27 (zd_b zq_prog_1_method_19_code_0 0 rfl rfl rfl)
theorem d_Ip_sand_1 : decode prog_1_method_19_code 1 = .ok (.tableswitch 159 98 119 #[135, 103, 151, 159, 127, 159, 159, 159, 159, 119, 159, 159, 159, 159, 159, 159, 159, 143, 159, 159, 159, 111], 103) := by decide +kernel
theorem d_Ip_sand_104 : decode prog_1_method_19_code 104 = .ok (.aload_n 0, 1) := zo_42 (zd_b zq_prog_1_method_19_code_3 8 rfl rfl rfl)
theorem d_Ip_sand_105 : decode prog_1_method_19_code 105 = .ok (.getfield 29, 3) := zo_180 (d := 0) (e := 29) (zd_b zq_prog_1_method_19_code_3 9 rfl rfl rfl) (zd_b zq_prog_1_method_19_code_3 10 rfl rfl rfl) (zd_b zq_prog_1_method_19_code_3 11 rfl rfl rfl)
theorem d_Ip_sand_108 : decode prog_1_method_19_code 108 = .ok (.getfield 216, 3) := zo_180 (d := 0) (e := 216) (zd_b zq_prog_1_method_19_code_3 12 rfl rfl rfl) (zd_b zq_prog_1_method_19_code_3 13 rfl rfl rfl) (zd_b zq_prog_1_method_19_code_3 14 rfl rfl rfl)
theorem fs_Ip_216 : z_fs "Ironpour" 216 4 0 := ⟨R_GS, "Ironpour$GreenSand", F_GS, 5, rfl, u_GS, by decide, Or.inr ⟨"Ironpour", z_mk1 (i := 145) rfl (by decide +kernel), rfl⟩⟩
theorem d_Ip_sand_111 : decode prog_1_method_19_code 111 = .ok (.ireturn, 1) := zo_172 (zd_b zq_prog_1_method_19_code_3 15 rfl rfl rfl)
set_option maxHeartbeats 4000000 in
set_option maxRecDepth 100000 in
theorem C_Ip_sand99 (g : zG) (a pa ta sa gs co fu la gy du re wm ac : Nat) (cl wa co_ fi bu : Int32) : CT g M_Ip_sand [.ref a, .int 99] [(a, .inr (11, [.ref pa, .ref ta, .ref sa, .ref gs, .ref co, .ref fu, .ref la, .ref gy, .ref du, .ref re, .ref wm, .ref ac])), (gs, .inr (4, [.int cl, .int wa, .int co_, .int fi, .int bu]))] (fun o cs1 => o = .inl (some (.int cl)) ∧ cs1 = [(a, .inr (11, [.ref pa, .ref ta, .ref sa, .ref gs, .ref co, .ref fu, .ref la, .ref gy, .ref du, .ref re, .ref wm, .ref ac])), (gs, .inr (4, [.int cl, .int wa, .int co_, .int fi, .int bu]))]) 1 6 := by
  refine z_of (by decide) rfl (Nat.le_of_ble_eq_true rfl) (fun w0 => ?_)
  refine r_lvE (lv2 := [(0, .ref a), (1, .int 99)]) rfl ?_
  refine r_iload_n d_Ip_sand_0 rfl 1 rfl ?_
  · refine r_tableIn (off := 103) (tgt := 104) d_Ip_sand_1 (by decide) (by decide) (by decide) (by decide) ?_
    refine r_aload_n d_Ip_sand_104 rfl 0 rfl ?_
    refine r_get fs_Ip_29 d_Ip_sand_105 (q0 := 0) rfl rfl ?_
    refine r_get fs_Ip_216 d_Ip_sand_108 (q0 := 1) rfl rfl ?_
    refine r_iret d_Ip_sand_111 rfl rfl ?_
    exact ⟨rfl, rfl⟩
theorem d_Ip_sand_112 : decode prog_1_method_19_code 112 = .ok (.aload_n 0, 1) := zo_42 (zd_b zq_prog_1_method_19_code_3 16 rfl rfl rfl)
theorem d_Ip_sand_113 : decode prog_1_method_19_code 113 = .ok (.getfield 29, 3) := zo_180 (d := 0) (e := 29) (zd_b zq_prog_1_method_19_code_3 17 rfl rfl rfl) (zd_b zq_prog_1_method_19_code_3 18 rfl rfl rfl) (zd_b zq_prog_1_method_19_code_3 19 rfl rfl rfl)
theorem d_Ip_sand_116 : decode prog_1_method_19_code 116 = .ok (.getfield 219, 3) := zo_180 (d := 0) (e := 219) (zd_b zq_prog_1_method_19_code_3 20 rfl rfl rfl) (zd_b zq_prog_1_method_19_code_3 21 rfl rfl rfl) (zd_b zq_prog_1_method_19_code_3 22 rfl rfl rfl)
theorem fs_Ip_219 : z_fs "Ironpour" 219 4 1 := ⟨R_GS, "Ironpour$GreenSand", F_GS, 5, rfl, u_GS, by decide, Or.inr ⟨"Ironpour", z_mk1 (i := 148) rfl (by decide +kernel), rfl⟩⟩
theorem d_Ip_sand_119 : decode prog_1_method_19_code 119 = .ok (.ireturn, 1) := zo_172 (zd_b zq_prog_1_method_19_code_3 23 rfl rfl rfl)
set_option maxHeartbeats 4000000 in
set_option maxRecDepth 100000 in
theorem C_Ip_sand119 (g : zG) (a pa ta sa gs co fu la gy du re wm ac : Nat) (cl wa co_ fi bu : Int32) : CT g M_Ip_sand [.ref a, .int 119] [(a, .inr (11, [.ref pa, .ref ta, .ref sa, .ref gs, .ref co, .ref fu, .ref la, .ref gy, .ref du, .ref re, .ref wm, .ref ac])), (gs, .inr (4, [.int cl, .int wa, .int co_, .int fi, .int bu]))] (fun o cs1 => o = .inl (some (.int wa)) ∧ cs1 = [(a, .inr (11, [.ref pa, .ref ta, .ref sa, .ref gs, .ref co, .ref fu, .ref la, .ref gy, .ref du, .ref re, .ref wm, .ref ac])), (gs, .inr (4, [.int cl, .int wa, .int co_, .int fi, .int bu]))]) 1 6 := by
  refine z_of (by decide) rfl (Nat.le_of_ble_eq_true rfl) (fun w0 => ?_)
  refine r_lvE (lv2 := [(0, .ref a), (1, .int 119)]) rfl ?_
  refine r_iload_n d_Ip_sand_0 rfl 1 rfl ?_
  · refine r_tableIn (off := 111) (tgt := 112) d_Ip_sand_1 (by decide) (by decide) (by decide) (by decide) ?_
    refine r_aload_n d_Ip_sand_112 rfl 0 rfl ?_
    refine r_get fs_Ip_29 d_Ip_sand_113 (q0 := 0) rfl rfl ?_
    refine r_get fs_Ip_219 d_Ip_sand_116 (q0 := 1) rfl rfl ?_
    refine r_iret d_Ip_sand_119 rfl rfl ?_
    exact ⟨rfl, rfl⟩
theorem d_Ip_sand_120 : decode prog_1_method_19_code 120 = .ok (.aload_n 0, 1) := zo_42 (zd_b zq_prog_1_method_19_code_3 24 rfl rfl rfl)
theorem d_Ip_sand_121 : decode prog_1_method_19_code 121 = .ok (.getfield 29, 3) := zo_180 (d := 0) (e := 29) (zd_b zq_prog_1_method_19_code_3 25 rfl rfl rfl) (zd_b zq_prog_1_method_19_code_3 26 rfl rfl rfl) (zd_b zq_prog_1_method_19_code_3 27 rfl rfl rfl)
theorem d_Ip_sand_124 : decode prog_1_method_19_code 124 = .ok (.getfield 222, 3) := zo_180 (d := 0) (e := 222) (zd_b zq_prog_1_method_19_code_3 28 rfl rfl rfl) (zd_b zq_prog_1_method_19_code_3 29 rfl rfl rfl) (zd_b zq_prog_1_method_19_code_3 30 rfl rfl rfl)
theorem fs_Ip_222 : z_fs "Ironpour" 222 4 2 := ⟨R_GS, "Ironpour$GreenSand", F_GS, 5, rfl, u_GS, by decide, Or.inr ⟨"Ironpour", z_mk1 (i := 150) rfl (by decide +kernel), rfl⟩⟩
theorem d_Ip_sand_127 : decode prog_1_method_19_code 127 = .ok (.ireturn, 1) := zo_172 (zd_b zq_prog_1_method_19_code_3 31 rfl rfl rfl)
set_option maxHeartbeats 4000000 in
set_option maxRecDepth 100000 in
theorem C_Ip_sand107 (g : zG) (a pa ta sa gs co fu la gy du re wm ac : Nat) (cl wa co_ fi bu : Int32) : CT g M_Ip_sand [.ref a, .int 107] [(a, .inr (11, [.ref pa, .ref ta, .ref sa, .ref gs, .ref co, .ref fu, .ref la, .ref gy, .ref du, .ref re, .ref wm, .ref ac])), (gs, .inr (4, [.int cl, .int wa, .int co_, .int fi, .int bu]))] (fun o cs1 => o = .inl (some (.int co_)) ∧ cs1 = [(a, .inr (11, [.ref pa, .ref ta, .ref sa, .ref gs, .ref co, .ref fu, .ref la, .ref gy, .ref du, .ref re, .ref wm, .ref ac])), (gs, .inr (4, [.int cl, .int wa, .int co_, .int fi, .int bu]))]) 1 6 := by
  refine z_of (by decide) rfl (Nat.le_of_ble_eq_true rfl) (fun w0 => ?_)
  refine r_lvE (lv2 := [(0, .ref a), (1, .int 107)]) rfl ?_
  refine r_iload_n d_Ip_sand_0 rfl 1 rfl ?_
  · refine r_tableIn (off := 119) (tgt := 120) d_Ip_sand_1 (by decide) (by decide) (by decide) (by decide) ?_
    refine r_aload_n d_Ip_sand_120 rfl 0 rfl ?_
    refine r_get fs_Ip_29 d_Ip_sand_121 (q0 := 0) rfl rfl ?_
    refine r_get fs_Ip_222 d_Ip_sand_124 (q0 := 1) rfl rfl ?_
    refine r_iret d_Ip_sand_127 rfl rfl ?_
    exact ⟨rfl, rfl⟩
theorem d_Ip_sand_128 : decode prog_1_method_19_code 128 = .ok (.aload_n 0, 1) := zo_42 (zd_b zq_prog_1_method_19_code_4 0 rfl rfl rfl)
theorem d_Ip_sand_129 : decode prog_1_method_19_code 129 = .ok (.getfield 29, 3) := zo_180 (d := 0) (e := 29) (zd_b zq_prog_1_method_19_code_4 1 rfl rfl rfl) (zd_b zq_prog_1_method_19_code_4 2 rfl rfl rfl) (zd_b zq_prog_1_method_19_code_4 3 rfl rfl rfl)
theorem d_Ip_sand_132 : decode prog_1_method_19_code 132 = .ok (.getfield 225, 3) := zo_180 (d := 0) (e := 225) (zd_b zq_prog_1_method_19_code_4 4 rfl rfl rfl) (zd_b zq_prog_1_method_19_code_4 5 rfl rfl rfl) (zd_b zq_prog_1_method_19_code_4 6 rfl rfl rfl)
theorem fs_Ip_225 : z_fs "Ironpour" 225 4 3 := ⟨R_GS, "Ironpour$GreenSand", F_GS, 5, rfl, u_GS, by decide, Or.inr ⟨"Ironpour", z_mk1 (i := 152) rfl (by decide +kernel), rfl⟩⟩
theorem d_Ip_sand_135 : decode prog_1_method_19_code 135 = .ok (.ireturn, 1) := zo_172 (zd_b zq_prog_1_method_19_code_4 7 rfl rfl rfl)
set_option maxHeartbeats 4000000 in
set_option maxRecDepth 100000 in
theorem C_Ip_sand102 (g : zG) (a pa ta sa gs co fu la gy du re wm ac : Nat) (cl wa co_ fi bu : Int32) : CT g M_Ip_sand [.ref a, .int 102] [(a, .inr (11, [.ref pa, .ref ta, .ref sa, .ref gs, .ref co, .ref fu, .ref la, .ref gy, .ref du, .ref re, .ref wm, .ref ac])), (gs, .inr (4, [.int cl, .int wa, .int co_, .int fi, .int bu]))] (fun o cs1 => o = .inl (some (.int fi)) ∧ cs1 = [(a, .inr (11, [.ref pa, .ref ta, .ref sa, .ref gs, .ref co, .ref fu, .ref la, .ref gy, .ref du, .ref re, .ref wm, .ref ac])), (gs, .inr (4, [.int cl, .int wa, .int co_, .int fi, .int bu]))]) 1 6 := by
  refine z_of (by decide) rfl (Nat.le_of_ble_eq_true rfl) (fun w0 => ?_)
  refine r_lvE (lv2 := [(0, .ref a), (1, .int 102)]) rfl ?_
  refine r_iload_n d_Ip_sand_0 rfl 1 rfl ?_
  · refine r_tableIn (off := 127) (tgt := 128) d_Ip_sand_1 (by decide) (by decide) (by decide) (by decide) ?_
    refine r_aload_n d_Ip_sand_128 rfl 0 rfl ?_
    refine r_get fs_Ip_29 d_Ip_sand_129 (q0 := 0) rfl rfl ?_
    refine r_get fs_Ip_225 d_Ip_sand_132 (q0 := 1) rfl rfl ?_
    refine r_iret d_Ip_sand_135 rfl rfl ?_
    exact ⟨rfl, rfl⟩
theorem d_Ip_sand_136 : decode prog_1_method_19_code 136 = .ok (.aload_n 0, 1) := zo_42 (zd_b zq_prog_1_method_19_code_4 8 rfl rfl rfl)
theorem d_Ip_sand_137 : decode prog_1_method_19_code 137 = .ok (.getfield 29, 3) := zo_180 (d := 0) (e := 29) (zd_b zq_prog_1_method_19_code_4 9 rfl rfl rfl) (zd_b zq_prog_1_method_19_code_4 10 rfl rfl rfl) (zd_b zq_prog_1_method_19_code_4 11 rfl rfl rfl)
theorem d_Ip_sand_140 : decode prog_1_method_19_code 140 = .ok (.getfield 228, 3) := zo_180 (d := 0) (e := 228) (zd_b zq_prog_1_method_19_code_4 12 rfl rfl rfl) (zd_b zq_prog_1_method_19_code_4 13 rfl rfl rfl) (zd_b zq_prog_1_method_19_code_4 14 rfl rfl rfl)
theorem fs_Ip_228 : z_fs "Ironpour" 228 4 4 := ⟨R_GS, "Ironpour$GreenSand", F_GS, 5, rfl, u_GS, by decide, Or.inr ⟨"Ironpour", z_mk1 (i := 154) rfl (by decide +kernel), rfl⟩⟩
theorem d_Ip_sand_143 : decode prog_1_method_19_code 143 = .ok (.ireturn, 1) := zo_172 (zd_b zq_prog_1_method_19_code_4 15 rfl rfl rfl)
set_option maxHeartbeats 4000000 in
set_option maxRecDepth 100000 in
theorem C_Ip_sand98 (g : zG) (a pa ta sa gs co fu la gy du re wm ac : Nat) (cl wa co_ fi bu : Int32) : CT g M_Ip_sand [.ref a, .int 98] [(a, .inr (11, [.ref pa, .ref ta, .ref sa, .ref gs, .ref co, .ref fu, .ref la, .ref gy, .ref du, .ref re, .ref wm, .ref ac])), (gs, .inr (4, [.int cl, .int wa, .int co_, .int fi, .int bu]))] (fun o cs1 => o = .inl (some (.int bu)) ∧ cs1 = [(a, .inr (11, [.ref pa, .ref ta, .ref sa, .ref gs, .ref co, .ref fu, .ref la, .ref gy, .ref du, .ref re, .ref wm, .ref ac])), (gs, .inr (4, [.int cl, .int wa, .int co_, .int fi, .int bu]))]) 1 6 := by
  refine z_of (by decide) rfl (Nat.le_of_ble_eq_true rfl) (fun w0 => ?_)
  refine r_lvE (lv2 := [(0, .ref a), (1, .int 98)]) rfl ?_
  refine r_iload_n d_Ip_sand_0 rfl 1 rfl ?_
  · refine r_tableIn (off := 135) (tgt := 136) d_Ip_sand_1 (by decide) (by decide) (by decide) (by decide) ?_
    refine r_aload_n d_Ip_sand_136 rfl 0 rfl ?_
    refine r_get fs_Ip_29 d_Ip_sand_137 (q0 := 0) rfl rfl ?_
    refine r_get fs_Ip_228 d_Ip_sand_140 (q0 := 1) rfl rfl ?_
    refine r_iret d_Ip_sand_143 rfl rfl ?_
    exact ⟨rfl, rfl⟩
theorem d_Ip_sand_144 : decode prog_1_method_19_code 144 = .ok (.aload_n 0, 1) := zo_42 (zd_b zq_prog_1_method_19_code_4 16 rfl rfl rfl)
theorem d_Ip_sand_145 : decode prog_1_method_19_code 145 = .ok (.getfield 29, 3) := zo_180 (d := 0) (e := 29) (zd_b zq_prog_1_method_19_code_4 17 rfl rfl rfl) (zd_b zq_prog_1_method_19_code_4 18 rfl rfl rfl) (zd_b zq_prog_1_method_19_code_4 19 rfl rfl rfl)
theorem d_Ip_sand_148 : decode prog_1_method_19_code 148 = .ok (.invokevirtual 213, 3) := zo_182 (d := 0) (e := 213) (zd_b zq_prog_1_method_19_code_4 20 rfl rfl rfl) (zd_b zq_prog_1_method_19_code_4 21 rfl rfl rfl) (zd_b zq_prog_1_method_19_code_4 22 rfl rfl rfl)
theorem ok_Ip_sand_GS_strength : z_ok M_Ip_sand M_GS_strength 0 := ⟨z_mj4 (i := 184) rfl (by decide +kernel), rfl, ⟨by decide +kernel, by decide +kernel, by decide +kernel⟩, ⟨by decide, by decide⟩, z_mj1 (i := 5) rfl (by decide +kernel), rfl⟩
theorem d_Ip_sand_151 : decode prog_1_method_19_code 151 = .ok (.ireturn, 1) := zo_172 (zd_b zq_prog_1_method_19_code_4 23 rfl rfl rfl)
set_option maxHeartbeats 4000000 in
set_option maxRecDepth 100000 in
theorem C_Ip_sand115 (g : zG) (a pa ta sa gs co fu la gy du re wm ac : Nat) (cl wa co_ fi bu : Int32) : CT g M_Ip_sand [.ref a, .int 115] [(a, .inr (11, [.ref pa, .ref ta, .ref sa, .ref gs, .ref co, .ref fu, .ref la, .ref gy, .ref du, .ref re, .ref wm, .ref ac])), (gs, .inr (4, [.int cl, .int wa, .int co_, .int fi, .int bu]))] (fun o cs1 => o = .inl (some (.int (S_GS_strength gs cl wa co_ fi bu))) ∧ cs1 = [(a, .inr (11, [.ref pa, .ref ta, .ref sa, .ref gs, .ref co, .ref fu, .ref la, .ref gy, .ref du, .ref re, .ref wm, .ref ac])), (gs, .inr (4, [.int cl, .int wa, .int co_, .int fi, .int bu]))]) 1 6 := by
  refine z_of (by decide) rfl (Nat.le_of_ble_eq_true rfl) (fun w0 => ?_)
  refine r_lvE (lv2 := [(0, .ref a), (1, .int 115)]) rfl ?_
  refine r_iload_n d_Ip_sand_0 rfl 1 rfl ?_
  · refine r_tableIn (off := 143) (tgt := 144) d_Ip_sand_1 (by decide) (by decide) (by decide) (by decide) ?_
    refine r_aload_n d_Ip_sand_144 rfl 0 rfl ?_
    refine r_get fs_Ip_29 d_Ip_sand_145 (q0 := 0) rfl rfl ?_
    refine r_callV (As := []) (rest := []) (csC := [(gs, .inr (4, [.int cl, .int wa, .int co_, .int fi, .int bu]))]) (is := [1]) (q0 := 1) rfl rfl ln_Ip_213 w_im_GS_strength w_se_GS_strength ok_Ip_sand_GS_strength d_Ip_sand_148 (C_GS_strength g gs cl wa co_ fi bu) rfl rfl (Nat.le_of_ble_eq_true rfl) rfl (by decide) (by omega) (by omega) (fun E cs1 hx => ?_) (fun v cs1 hx => ?_)
    · exact absurd hx.1 (by simp)
    · obtain ⟨e1, rfl⟩ := hx
      cases e1
      refine ⟨rfl, ?_⟩
      refine r_st (st2 := [.int (S_GS_strength gs cl wa co_ fi bu)]) rfl ?_
      refine r_cs (cs2 := [(a, .inr (11, [.ref pa, .ref ta, .ref sa, .ref gs, .ref co, .ref fu, .ref la, .ref gy, .ref du, .ref re, .ref wm, .ref ac])), (gs, .inr (4, [.int cl, .int wa, .int co_, .int fi, .int bu]))]) rfl ?_
      refine r_iret d_Ip_sand_151 rfl rfl ?_
      exact ⟨rfl, rfl⟩
theorem d_Ip_sand_152 : decode prog_1_method_19_code 152 = .ok (.aload_n 0, 1) := zo_42 (zd_b zq_prog_1_method_19_code_4 24 rfl rfl rfl)
theorem d_Ip_sand_153 : decode prog_1_method_19_code 153 = .ok (.getfield 29, 3) := zo_180 (d := 0) (e := 29) (zd_b zq_prog_1_method_19_code_4 25 rfl rfl rfl) (zd_b zq_prog_1_method_19_code_4 26 rfl rfl rfl) (zd_b zq_prog_1_method_19_code_4 27 rfl rfl rfl)
theorem d_Ip_sand_156 : decode prog_1_method_19_code 156 = .ok (.invokevirtual 231, 3) := zo_182 (d := 0) (e := 231) (zd_b zq_prog_1_method_19_code_4 28 rfl rfl rfl) (zd_b zq_prog_1_method_19_code_4 29 rfl rfl rfl) (zd_b zq_prog_1_method_19_code_4 30 rfl rfl rfl)
theorem ok_Ip_sand_GS_draught : z_ok M_Ip_sand M_GS_draught 0 := ⟨z_mj4 (i := 199) rfl (by decide +kernel), rfl, ⟨by decide +kernel, by decide +kernel, by decide +kernel⟩, ⟨by decide, by decide⟩, z_mj1 (i := 5) rfl (by decide +kernel), rfl⟩
theorem ln_Ip_231 : Cond.methodLink "Ironpour" 231 M_GS_draught.1 ∈ z_gw := z_mj4 (i := 196) rfl (by decide +kernel)
theorem d_Ip_sand_159 : decode prog_1_method_19_code 159 = .ok (.ireturn, 1) := zo_172 (zd_b zq_prog_1_method_19_code_4 31 rfl rfl rfl)
set_option maxHeartbeats 4000000 in
set_option maxRecDepth 100000 in
theorem C_Ip_sand100 (g : zG) (a pa ta sa gs co fu la gy du re wm ac : Nat) (cl wa co_ fi bu : Int32) : CT g M_Ip_sand [.ref a, .int 100] [(a, .inr (11, [.ref pa, .ref ta, .ref sa, .ref gs, .ref co, .ref fu, .ref la, .ref gy, .ref du, .ref re, .ref wm, .ref ac])), (gs, .inr (4, [.int cl, .int wa, .int co_, .int fi, .int bu]))] (fun o cs1 => o = .inl (some (.int (S_GS_draught gs cl wa co_ fi bu))) ∧ cs1 = [(a, .inr (11, [.ref pa, .ref ta, .ref sa, .ref gs, .ref co, .ref fu, .ref la, .ref gy, .ref du, .ref re, .ref wm, .ref ac])), (gs, .inr (4, [.int cl, .int wa, .int co_, .int fi, .int bu]))]) 1 6 := by
  refine z_of (by decide) rfl (Nat.le_of_ble_eq_true rfl) (fun w0 => ?_)
  refine r_lvE (lv2 := [(0, .ref a), (1, .int 100)]) rfl ?_
  refine r_iload_n d_Ip_sand_0 rfl 1 rfl ?_
  · refine r_tableIn (off := 151) (tgt := 152) d_Ip_sand_1 (by decide) (by decide) (by decide) (by decide) ?_
    refine r_aload_n d_Ip_sand_152 rfl 0 rfl ?_
    refine r_get fs_Ip_29 d_Ip_sand_153 (q0 := 0) rfl rfl ?_
    refine r_callV (As := []) (rest := []) (csC := [(gs, .inr (4, [.int cl, .int wa, .int co_, .int fi, .int bu]))]) (is := [1]) (q0 := 1) rfl rfl ln_Ip_231 w_im_GS_draught w_se_GS_draught ok_Ip_sand_GS_draught d_Ip_sand_156 (C_GS_draught g gs cl wa co_ fi bu) rfl rfl (Nat.le_of_ble_eq_true rfl) rfl (by decide) (by omega) (by omega) (fun E cs1 hx => ?_) (fun v cs1 hx => ?_)
    · exact absurd hx.1 (by simp)
    · obtain ⟨e1, rfl⟩ := hx
      cases e1
      refine ⟨rfl, ?_⟩
      refine r_st (st2 := [.int (S_GS_draught gs cl wa co_ fi bu)]) rfl ?_
      refine r_cs (cs2 := [(a, .inr (11, [.ref pa, .ref ta, .ref sa, .ref gs, .ref co, .ref fu, .ref la, .ref gy, .ref du, .ref re, .ref wm, .ref ac])), (gs, .inr (4, [.int cl, .int wa, .int co_, .int fi, .int bu]))]) rfl ?_
      refine r_iret d_Ip_sand_159 rfl rfl ?_
      exact ⟨rfl, rfl⟩
theorem d_Ip_sand_160 : decode prog_1_method_19_code 160 = .ok (.new 89, 3) := zo_187 (d := 0) (e := 89) (zd_b zq_prog_1_method_19_code_5 0 rfl rfl rfl) (zd_b zq_prog_1_method_19_code_5 1 rfl rfl rfl) (zd_b zq_prog_1_method_19_code_5 2 rfl rfl rfl)
theorem sr_Ip_234 : Cond.stringRef "Ironpour" 234 "sand has no such thing" ∈ lw_tbl := z_tb4 (i := 200) rfl
theorem d_Ip_sand_163 : decode prog_1_method_19_code 163 = .ok (.dup, 1) := zo_89 (zd_b zq_prog_1_method_19_code_5 3 rfl rfl rfl)
theorem d_Ip_sand_164 : decode prog_1_method_19_code 164 = .ok (.ldc 234, 2) := zo_18 (d := 234) (zd_b zq_prog_1_method_19_code_5 4 rfl rfl rfl) (zd_b zq_prog_1_method_19_code_5 5 rfl rfl rfl)
theorem d_Ip_sand_166 : decode prog_1_method_19_code 166 = .ok (.invokespecial 93, 3) := zo_183 (d := 0) (e := 93) (zd_b zq_prog_1_method_19_code_5 6 rfl rfl rfl) (zd_b zq_prog_1_method_19_code_5 7 rfl rfl rfl) (zd_b zq_prog_1_method_19_code_5 8 rfl rfl rfl)
theorem d_Ip_sand_169 : decode prog_1_method_19_code 169 = .ok (.athrow, 1) := zo_191 (zd_b zq_prog_1_method_19_code_5 9 rfl rfl rfl)
set_option maxHeartbeats 4000000 in
set_option maxRecDepth 100000 in
theorem C_Ip_sandE (g : zG) (a pa ta sa gs co fu la gy du re wm ac : Nat) (cl wa co_ fi bu : Int32) (w : Int32) (hn : ¬ (w = 99 ∨ w = 119 ∨ w = 107 ∨ w = 102 ∨ w = 98 ∨ w = 115 ∨ w = 100)) : CT g M_Ip_sand [.ref a, .int w] [(a, .inr (11, [.ref pa, .ref ta, .ref sa, .ref gs, .ref co, .ref fu, .ref la, .ref gy, .ref du, .ref re, .ref wm, .ref ac])), (gs, .inr (4, [.int cl, .int wa, .int co_, .int fi, .int bu]))] (fun o cs1 => o = .inr "java/lang/IllegalArgumentException" ∧ cs1 = [(a, .inr (11, [.ref pa, .ref ta, .ref sa, .ref gs, .ref co, .ref fu, .ref la, .ref gy, .ref du, .ref re, .ref wm, .ref ac])), (gs, .inr (4, [.int cl, .int wa, .int co_, .int fi, .int bu]))]) 1 6 := by
  refine z_of (by decide) rfl (Nat.le_of_ble_eq_true rfl) (fun w0 => ?_)
  refine r_lvE (lv2 := [(0, .ref a), (1, .int w)]) rfl ?_
  refine r_iload_n d_Ip_sand_0 rfl 1 rfl ?_
  rcases sd_cases (sd_all w) hn with hq | rfl | rfl | rfl | rfl | rfl | rfl | rfl | rfl | rfl | rfl | rfl | rfl | rfl | rfl | rfl
  · refine r_tableOut (tgt := 160) d_Ip_sand_1 (by first | decide | omega) (by decide) ?_
    refine r_throw tb_Ip_89_93 sr_Ip_234 d_Ip_sand_160 d_Ip_sand_163 d_Ip_sand_164 d_Ip_sand_166 d_Ip_sand_169 rfl (by decide) (by decide) (Nat.le_of_ble_eq_true rfl) (by omega) (by omega) ?_
    exact ⟨rfl, rfl⟩
  · refine r_tableIn (off := 159) (tgt := 160) d_Ip_sand_1 (by decide) (by decide) (by decide) (by decide) ?_
    refine r_throw tb_Ip_89_93 sr_Ip_234 d_Ip_sand_160 d_Ip_sand_163 d_Ip_sand_164 d_Ip_sand_166 d_Ip_sand_169 rfl (by decide) (by decide) (Nat.le_of_ble_eq_true rfl) (by omega) (by omega) ?_
    exact ⟨rfl, rfl⟩
  · refine r_tableIn (off := 159) (tgt := 160) d_Ip_sand_1 (by decide) (by decide) (by decide) (by decide) ?_
    refine r_throw tb_Ip_89_93 sr_Ip_234 d_Ip_sand_160 d_Ip_sand_163 d_Ip_sand_164 d_Ip_sand_166 d_Ip_sand_169 rfl (by decide) (by decide) (Nat.le_of_ble_eq_true rfl) (by omega) (by omega) ?_
    exact ⟨rfl, rfl⟩
  · refine r_tableIn (off := 159) (tgt := 160) d_Ip_sand_1 (by decide) (by decide) (by decide) (by decide) ?_
    refine r_throw tb_Ip_89_93 sr_Ip_234 d_Ip_sand_160 d_Ip_sand_163 d_Ip_sand_164 d_Ip_sand_166 d_Ip_sand_169 rfl (by decide) (by decide) (Nat.le_of_ble_eq_true rfl) (by omega) (by omega) ?_
    exact ⟨rfl, rfl⟩
  · refine r_tableIn (off := 159) (tgt := 160) d_Ip_sand_1 (by decide) (by decide) (by decide) (by decide) ?_
    refine r_throw tb_Ip_89_93 sr_Ip_234 d_Ip_sand_160 d_Ip_sand_163 d_Ip_sand_164 d_Ip_sand_166 d_Ip_sand_169 rfl (by decide) (by decide) (Nat.le_of_ble_eq_true rfl) (by omega) (by omega) ?_
    exact ⟨rfl, rfl⟩
  · refine r_tableIn (off := 159) (tgt := 160) d_Ip_sand_1 (by decide) (by decide) (by decide) (by decide) ?_
    refine r_throw tb_Ip_89_93 sr_Ip_234 d_Ip_sand_160 d_Ip_sand_163 d_Ip_sand_164 d_Ip_sand_166 d_Ip_sand_169 rfl (by decide) (by decide) (Nat.le_of_ble_eq_true rfl) (by omega) (by omega) ?_
    exact ⟨rfl, rfl⟩
  · refine r_tableIn (off := 159) (tgt := 160) d_Ip_sand_1 (by decide) (by decide) (by decide) (by decide) ?_
    refine r_throw tb_Ip_89_93 sr_Ip_234 d_Ip_sand_160 d_Ip_sand_163 d_Ip_sand_164 d_Ip_sand_166 d_Ip_sand_169 rfl (by decide) (by decide) (Nat.le_of_ble_eq_true rfl) (by omega) (by omega) ?_
    exact ⟨rfl, rfl⟩
  · refine r_tableIn (off := 159) (tgt := 160) d_Ip_sand_1 (by decide) (by decide) (by decide) (by decide) ?_
    refine r_throw tb_Ip_89_93 sr_Ip_234 d_Ip_sand_160 d_Ip_sand_163 d_Ip_sand_164 d_Ip_sand_166 d_Ip_sand_169 rfl (by decide) (by decide) (Nat.le_of_ble_eq_true rfl) (by omega) (by omega) ?_
    exact ⟨rfl, rfl⟩
  · refine r_tableIn (off := 159) (tgt := 160) d_Ip_sand_1 (by decide) (by decide) (by decide) (by decide) ?_
    refine r_throw tb_Ip_89_93 sr_Ip_234 d_Ip_sand_160 d_Ip_sand_163 d_Ip_sand_164 d_Ip_sand_166 d_Ip_sand_169 rfl (by decide) (by decide) (Nat.le_of_ble_eq_true rfl) (by omega) (by omega) ?_
    exact ⟨rfl, rfl⟩
  · refine r_tableIn (off := 159) (tgt := 160) d_Ip_sand_1 (by decide) (by decide) (by decide) (by decide) ?_
    refine r_throw tb_Ip_89_93 sr_Ip_234 d_Ip_sand_160 d_Ip_sand_163 d_Ip_sand_164 d_Ip_sand_166 d_Ip_sand_169 rfl (by decide) (by decide) (Nat.le_of_ble_eq_true rfl) (by omega) (by omega) ?_
    exact ⟨rfl, rfl⟩
  · refine r_tableIn (off := 159) (tgt := 160) d_Ip_sand_1 (by decide) (by decide) (by decide) (by decide) ?_
    refine r_throw tb_Ip_89_93 sr_Ip_234 d_Ip_sand_160 d_Ip_sand_163 d_Ip_sand_164 d_Ip_sand_166 d_Ip_sand_169 rfl (by decide) (by decide) (Nat.le_of_ble_eq_true rfl) (by omega) (by omega) ?_
    exact ⟨rfl, rfl⟩
  · refine r_tableIn (off := 159) (tgt := 160) d_Ip_sand_1 (by decide) (by decide) (by decide) (by decide) ?_
    refine r_throw tb_Ip_89_93 sr_Ip_234 d_Ip_sand_160 d_Ip_sand_163 d_Ip_sand_164 d_Ip_sand_166 d_Ip_sand_169 rfl (by decide) (by decide) (Nat.le_of_ble_eq_true rfl) (by omega) (by omega) ?_
    exact ⟨rfl, rfl⟩
  · refine r_tableIn (off := 159) (tgt := 160) d_Ip_sand_1 (by decide) (by decide) (by decide) (by decide) ?_
    refine r_throw tb_Ip_89_93 sr_Ip_234 d_Ip_sand_160 d_Ip_sand_163 d_Ip_sand_164 d_Ip_sand_166 d_Ip_sand_169 rfl (by decide) (by decide) (Nat.le_of_ble_eq_true rfl) (by omega) (by omega) ?_
    exact ⟨rfl, rfl⟩
  · refine r_tableIn (off := 159) (tgt := 160) d_Ip_sand_1 (by decide) (by decide) (by decide) (by decide) ?_
    refine r_throw tb_Ip_89_93 sr_Ip_234 d_Ip_sand_160 d_Ip_sand_163 d_Ip_sand_164 d_Ip_sand_166 d_Ip_sand_169 rfl (by decide) (by decide) (Nat.le_of_ble_eq_true rfl) (by omega) (by omega) ?_
    exact ⟨rfl, rfl⟩
  · refine r_tableIn (off := 159) (tgt := 160) d_Ip_sand_1 (by decide) (by decide) (by decide) (by decide) ?_
    refine r_throw tb_Ip_89_93 sr_Ip_234 d_Ip_sand_160 d_Ip_sand_163 d_Ip_sand_164 d_Ip_sand_166 d_Ip_sand_169 rfl (by decide) (by decide) (Nat.le_of_ble_eq_true rfl) (by omega) (by omega) ?_
    exact ⟨rfl, rfl⟩
  · refine r_tableIn (off := 159) (tgt := 160) d_Ip_sand_1 (by decide) (by decide) (by decide) (by decide) ?_
    refine r_throw tb_Ip_89_93 sr_Ip_234 d_Ip_sand_160 d_Ip_sand_163 d_Ip_sand_164 d_Ip_sand_166 d_Ip_sand_169 rfl (by decide) (by decide) (Nat.le_of_ble_eq_true rfl) (by omega) (by omega) ?_
    exact ⟨rfl, rfl⟩
abbrev M_Ip_elementIndex : zM := (⟨"Ironpour", "elementIndex", "(C)I"⟩, prog_1_method_60_code, 2, (Option.some FieldType.int), 8, 179, [])
theorem d_Ip_elementIndex_0 : decode prog_1_method_60_code 0 = .ok (.ldc_w 519, 3) := zo_19 (d := 2) (e := 7) (zd_b zq_prog_1_method_60_code_0 0 rfl rfl rfl) (zd_b zq_prog_1_method_60_code_0 1 rfl rfl rfl) (zd_b zq_prog_1_method_60_code_0 2 rfl rfl rfl)
theorem d_Ip_elementIndex_3 : decode prog_1_method_60_code 3 = .ok (.iload_n 0, 1) := zo_26 (zd_b zq_prog_1_method_60_code_0 3 rfl rfl rfl)
theorem d_Ip_elementIndex_4 : decode prog_1_method_60_code 4 = .ok (.invokevirtual 83, 3) := zo_182 (d := 0) (e := 83) (zd_b zq_prog_1_method_60_code_0 4 rfl rfl rfl) (zd_b zq_prog_1_method_60_code_0 5 rfl rfl rfl) (zd_b zq_prog_1_method_60_code_0 6 rfl rfl rfl)
theorem ok_Ip_elementIndex_String_indexOf_0 : z_ok M_Ip_elementIndex M_String_indexOf_0 1 := ⟨z_mj3 (i := 58) rfl (by decide +kernel), rfl, ⟨by decide +kernel, by decide +kernel, by decide +kernel⟩, ⟨by decide, by decide⟩, z_mj1 (i := 15) rfl (by decide +kernel), rfl⟩
theorem d_Ip_elementIndex_7 : decode prog_1_method_60_code 7 = .ok (.istore_n 1, 1) := zo_60 (zd_b zq_prog_1_method_60_code_0 7 rfl rfl rfl)
theorem d_Ip_elementIndex_8 : decode prog_1_method_60_code 8 = .ok (.iload_n 1, 1) := zo_27 (zd_b zq_prog_1_method_60_code_0 8 rfl rfl rfl)
theorem d_Ip_elementIndex_9 : decode prog_1_method_60_code 9 = .ok (.ifCond .ge 14, 3) := zo_156 (d := 0) (e := 14) (zd_b zq_prog_1_method_60_code_0 9 rfl rfl rfl) (zd_b zq_prog_1_method_60_code_0 10 rfl rfl rfl) (zd_b zq_prog_1_method_60_code_0 11 rfl rfl rfl) (by decide +kernel)
theorem d_Ip_elementIndex_12 : decode prog_1_method_60_code 12 = .ok (.new 89, 3) := zo_187 (d := 0) (e := 89) (zd_b zq_prog_1_method_60_code_0 12 rfl rfl rfl) (zd_b zq_prog_1_method_60_code_0 13 rfl rfl rfl) (zd_b zq_prog_1_method_60_code_0 14 rfl rfl rfl)
theorem sr_Ip_521 : Cond.stringRef "Ironpour" 521 "no such element" ∈ lw_tbl := z_tb5 (i := 76) rfl
theorem d_Ip_elementIndex_15 : decode prog_1_method_60_code 15 = .ok (.dup, 1) := zo_89 (zd_b zq_prog_1_method_60_code_0 15 rfl rfl rfl)
theorem d_Ip_elementIndex_16 : decode prog_1_method_60_code 16 = .ok (.ldc_w 521, 3) := zo_19 (d := 2) (e := 9) (zd_b zq_prog_1_method_60_code_0 16 rfl rfl rfl) (zd_b zq_prog_1_method_60_code_0 17 rfl rfl rfl) (zd_b zq_prog_1_method_60_code_0 18 rfl rfl rfl)
theorem d_Ip_elementIndex_19 : decode prog_1_method_60_code 19 = .ok (.invokespecial 93, 3) := zo_183 (d := 0) (e := 93) (zd_b zq_prog_1_method_60_code_0 19 rfl rfl rfl) (zd_b zq_prog_1_method_60_code_0 20 rfl rfl rfl) (zd_b zq_prog_1_method_60_code_0 21 rfl rfl rfl)
theorem d_Ip_elementIndex_22 : decode prog_1_method_60_code 22 = .ok (.athrow, 1) := zo_191 (zd_b zq_prog_1_method_60_code_0 22 rfl rfl rfl)
set_option maxHeartbeats 4000000 in
set_option maxRecDepth 100000 in
theorem C_Ip_elementIndexE (g : zG) (k : Int32) (hk : z_ix 2 k < 0) : CT g M_Ip_elementIndex [.int k] [] (fun o cs1 => o = .inr "java/lang/IllegalArgumentException" ∧ cs1 = []) 1 6 := by
  refine z_of (by decide) rfl (Nat.le_of_ble_eq_true rfl) (fun w0 => ?_)
  refine r_lvE (lv2 := [(0, .int k)]) rfl ?_
  refine r_ldcWS (own := "Ironpour") (i := 2) (by decide) d_Ip_elementIndex_0 ?_
  refine r_iload_n d_Ip_elementIndex_3 rfl 0 rfl ?_
  refine r_callVS (As := [.int k]) (rest := []) (csC := []) (is := []) (i := 2) (by first | assumption | decide) rfl ln_Ip_83 w_im_String_indexOf_0 w_se_String_indexOf_0 ok_Ip_elementIndex_String_indexOf_0 d_Ip_elementIndex_4 (C_St_indexOf g 2 (by decide) k) rfl rfl (Nat.le_of_ble_eq_true rfl) rfl (by decide) (by omega) (by omega) (fun E cs1 hx => ?_) (fun v cs1 hx => ?_)
  · exact absurd hx.1 (by simp)
  · obtain ⟨e1, rfl⟩ := hx
    cases e1
    refine ⟨rfl, ?_⟩
    refine r_st (st2 := [.int (z_ix 2 k)]) rfl ?_
    refine r_cs (cs2 := []) rfl ?_
    refine r_istore_n (lv' := [(1, .int (z_ix 2 k)), (0, .int k)]) d_Ip_elementIndex_7 rfl (by decide) rfl ?_
    refine r_iload_n d_Ip_elementIndex_8 rfl 0 rfl ?_
    refine r_if_ge (tgt := 23) d_Ip_elementIndex_9 (by decide) (fun c_9 => ?_) (fun c_9 => ?_)
    · exact absurd hk (Int32.not_lt.mpr c_9)
    · refine r_throwW tb_Ip_89_93 sr_Ip_521 d_Ip_elementIndex_12 d_Ip_elementIndex_15 d_Ip_elementIndex_16 d_Ip_elementIndex_19 d_Ip_elementIndex_22 rfl (by decide) (by decide) (Nat.le_of_ble_eq_true rfl) (by omega) (by omega) ?_
      exact ⟨rfl, rfl⟩
theorem d_Ip_elementIndex_23 : decode prog_1_method_60_code 23 = .ok (.iload_n 1, 1) := zo_27 (zd_b zq_prog_1_method_60_code_0 23 rfl rfl rfl)
theorem d_Ip_elementIndex_24 : decode prog_1_method_60_code 24 = .ok (.ireturn, 1) := zo_172 (zd_b zq_prog_1_method_60_code_0 24 rfl rfl rfl)
set_option maxHeartbeats 4000000 in
set_option maxRecDepth 100000 in
theorem C_Ip_elementIndexN (g : zG) (k : Int32) (e : Nat) (he : e < 4) (hk : z_ix 2 k = nI e) : CT g M_Ip_elementIndex [.int k] [] (fun o cs1 => o = .inl (some (.int (nI e))) ∧ cs1 = []) 1 6 := by
  refine z_of (by decide) rfl (Nat.le_of_ble_eq_true rfl) (fun w0 => ?_)
  refine r_lvE (lv2 := [(0, .int k)]) rfl ?_
  refine r_ldcWS (own := "Ironpour") (i := 2) (by decide) d_Ip_elementIndex_0 ?_
  refine r_iload_n d_Ip_elementIndex_3 rfl 0 rfl ?_
  refine r_callVS (As := [.int k]) (rest := []) (csC := []) (is := []) (i := 2) (by first | assumption | decide) rfl ln_Ip_83 w_im_String_indexOf_0 w_se_String_indexOf_0 ok_Ip_elementIndex_String_indexOf_0 d_Ip_elementIndex_4 (C_St_indexOf g 2 (by decide) k) rfl rfl (Nat.le_of_ble_eq_true rfl) rfl (by decide) (by omega) (by omega) (fun E cs1 hx => ?_) (fun v cs1 hx => ?_)
  · exact absurd hx.1 (by simp)
  · obtain ⟨e1, rfl⟩ := hx
    cases e1
    refine ⟨rfl, ?_⟩
    refine r_st (st2 := [.int (z_ix 2 k)]) rfl ?_
    refine r_cs (cs2 := []) rfl ?_
    refine r_istore_n (lv' := [(1, .int (z_ix 2 k)), (0, .int k)]) d_Ip_elementIndex_7 rfl (by decide) rfl ?_
    refine r_iload_n d_Ip_elementIndex_8 rfl 0 rfl ?_
    refine r_if_ge (tgt := 23) d_Ip_elementIndex_9 (by decide) (fun c_9 => ?_) (fun c_9 => ?_)
    · refine r_iload_n d_Ip_elementIndex_23 rfl 0 rfl ?_
      refine r_iret d_Ip_elementIndex_24 rfl rfl ?_
      exact ⟨by rw [hk], rfl⟩
    · exact absurd (by rw [hk]; exact Int32.not_lt.mp (nI_nneg (by omega))) c_9
abbrev M_Ip_poolOf : zM := (⟨"Ironpour", "poolOf", "(C)LIronpour$Metal;"⟩, prog_1_method_62_code, 2, (Option.some (FieldType.object "Ironpour$Metal")), 1, 20, [])
theorem d_Ip_poolOf_0 : decode prog_1_method_62_code 0 = .ok (.iload_n 1, 1) := zo_27 (zd_b zq_prog_1_method_62_code_0 0 rfl rfl rfl)
theorem d_Ip_poolOf_1 : decode prog_1_method_62_code 1 = .ok (.bipush 103, 2) := zo_16 (d := 103) (zd_b zq_prog_1_method_62_code_0 1 rfl rfl rfl) (zd_b zq_prog_1_method_62_code_0 2 rfl rfl rfl) (by decide +kernel)
theorem d_Ip_poolOf_3 : decode prog_1_method_62_code 3 = .ok (.if_icmp .ne 8, 3) := zo_160 (d := 0) (e := 8) (zd_b zq_prog_1_method_62_code_0 3 rfl rfl rfl) (zd_b zq_prog_1_method_62_code_0 4 rfl rfl rfl) (zd_b zq_prog_1_method_62_code_0 5 rfl rfl rfl) (by decide +kernel)
theorem d_Ip_poolOf_6 : decode prog_1_method_62_code 6 = .ok (.aload_n 0, 1) := zo_42 (zd_b zq_prog_1_method_62_code_0 6 rfl rfl rfl)
theorem d_Ip_poolOf_7 : decode prog_1_method_62_code 7 = .ok (.getfield 57, 3) := zo_180 (d := 0) (e := 57) (zd_b zq_prog_1_method_62_code_0 7 rfl rfl rfl) (zd_b zq_prog_1_method_62_code_0 8 rfl rfl rfl) (zd_b zq_prog_1_method_62_code_0 9 rfl rfl rfl)
theorem d_Ip_poolOf_10 : decode prog_1_method_62_code 10 = .ok (.areturn, 1) := zo_176 (zd_b zq_prog_1_method_62_code_0 10 rfl rfl rfl)
set_option maxHeartbeats 4000000 in
set_option maxRecDepth 100000 in
theorem C_Ip_poolOfG (g : zG) (a pa ta sa gs co fu la gy du re wm ac : Nat) : CT g M_Ip_poolOf [.ref a, .int 103] [(a, .inr (11, [.ref pa, .ref ta, .ref sa, .ref gs, .ref co, .ref fu, .ref la, .ref gy, .ref du, .ref re, .ref wm, .ref ac]))] (fun o cs1 => o = .inl (some (.ref gy)) ∧ cs1 = [(a, .inr (11, [.ref pa, .ref ta, .ref sa, .ref gs, .ref co, .ref fu, .ref la, .ref gy, .ref du, .ref re, .ref wm, .ref ac]))]) 0 0 := by
  refine z_of (by decide) rfl (Nat.le_of_ble_eq_true rfl) (fun w0 => ?_)
  refine r_lvE (lv2 := [(0, .ref a), (1, .int 103)]) rfl ?_
  refine r_iload_n d_Ip_poolOf_0 rfl 1 rfl ?_
  refine r_bipush d_Ip_poolOf_1 (v := 103) (by decide) ?_
  refine r_icmp_ne (tgt := 11) d_Ip_poolOf_3 (by decide) (fun c_3 => ?_) (fun c_3 => ?_)
  · exact absurd c_3 (by decide)
  · refine r_aload_n d_Ip_poolOf_6 rfl 0 rfl ?_
    refine r_get fs_Ip_57 d_Ip_poolOf_7 (q0 := 0) rfl rfl ?_
    refine r_aret d_Ip_poolOf_10 rfl (Or.inl ⟨_, rfl⟩) (Or.inr ⟨_, rfl⟩) ?_
    exact ⟨rfl, rfl⟩
theorem d_Ip_poolOf_11 : decode prog_1_method_62_code 11 = .ok (.iload_n 1, 1) := zo_27 (zd_b zq_prog_1_method_62_code_0 11 rfl rfl rfl)
theorem d_Ip_poolOf_12 : decode prog_1_method_62_code 12 = .ok (.bipush 100, 2) := zo_16 (d := 100) (zd_b zq_prog_1_method_62_code_0 12 rfl rfl rfl) (zd_b zq_prog_1_method_62_code_0 13 rfl rfl rfl) (by decide +kernel)
theorem d_Ip_poolOf_14 : decode prog_1_method_62_code 14 = .ok (.if_icmp .ne 10, 3) := zo_160 (d := 0) (e := 10) (zd_b zq_prog_1_method_62_code_0 14 rfl rfl rfl) (zd_b zq_prog_1_method_62_code_0 15 rfl rfl rfl) (zd_b zq_prog_1_method_62_code_0 16 rfl rfl rfl) (by decide +kernel)
theorem d_Ip_poolOf_17 : decode prog_1_method_62_code 17 = .ok (.aload_n 0, 1) := zo_42 (zd_b zq_prog_1_method_62_code_0 17 rfl rfl rfl)
theorem d_Ip_poolOf_18 : decode prog_1_method_62_code 18 = .ok (.getfield 61, 3) := zo_180 (d := 0) (e := 61) (zd_b zq_prog_1_method_62_code_0 18 rfl rfl rfl) (zd_b zq_prog_1_method_62_code_0 19 rfl rfl rfl) (zd_b zq_prog_1_method_62_code_0 20 rfl rfl rfl)
theorem d_Ip_poolOf_21 : decode prog_1_method_62_code 21 = .ok (.goto 4, 3) := zo_167 (d := 0) (e := 4) (zd_b zq_prog_1_method_62_code_0 21 rfl rfl rfl) (zd_b zq_prog_1_method_62_code_0 22 rfl rfl rfl) (zd_b zq_prog_1_method_62_code_0 23 rfl rfl rfl) (by decide +kernel)
theorem d_Ip_poolOf_25 : decode prog_1_method_62_code 25 = .ok (.areturn, 1) := zo_176 (zd_b zq_prog_1_method_62_code_0 25 rfl rfl rfl)
set_option maxHeartbeats 4000000 in
set_option maxRecDepth 100000 in
theorem C_Ip_poolOfD (g : zG) (a pa ta sa gs co fu la gy du re wm ac : Nat) : CT g M_Ip_poolOf [.ref a, .int 100] [(a, .inr (11, [.ref pa, .ref ta, .ref sa, .ref gs, .ref co, .ref fu, .ref la, .ref gy, .ref du, .ref re, .ref wm, .ref ac]))] (fun o cs1 => o = .inl (some (.ref du)) ∧ cs1 = [(a, .inr (11, [.ref pa, .ref ta, .ref sa, .ref gs, .ref co, .ref fu, .ref la, .ref gy, .ref du, .ref re, .ref wm, .ref ac]))]) 0 0 := by
  refine z_of (by decide) rfl (Nat.le_of_ble_eq_true rfl) (fun w0 => ?_)
  refine r_lvE (lv2 := [(0, .ref a), (1, .int 100)]) rfl ?_
  refine r_iload_n d_Ip_poolOf_0 rfl 1 rfl ?_
  refine r_bipush d_Ip_poolOf_1 (v := 103) (by decide) ?_
  refine r_icmp_ne (tgt := 11) d_Ip_poolOf_3 (by decide) (fun c_3 => ?_) (fun c_3 => ?_)
  · refine r_iload_n d_Ip_poolOf_11 rfl 1 rfl ?_
    refine r_bipush d_Ip_poolOf_12 (v := 100) (by decide) ?_
    refine r_icmp_ne (tgt := 24) d_Ip_poolOf_14 (by decide) (fun c_14 => ?_) (fun c_14 => ?_)
    · exact absurd c_14 (by decide)
    · refine r_aload_n d_Ip_poolOf_17 rfl 0 rfl ?_
      refine r_get fs_Ip_61 d_Ip_poolOf_18 (q0 := 0) rfl rfl ?_
      refine r_goto (tgt := 25) d_Ip_poolOf_21 (by decide) ?_
      refine r_aret d_Ip_poolOf_25 rfl (Or.inl ⟨_, rfl⟩) (Or.inr ⟨_, rfl⟩) ?_
      exact ⟨rfl, rfl⟩
  · exact absurd c_3 (by decide)
theorem d_Ip_poolOf_24 : decode prog_1_method_62_code 24 = .ok (.aconst_null, 1) := zo_1 (zd_b zq_prog_1_method_62_code_0 24 rfl rfl rfl)
set_option maxHeartbeats 4000000 in
set_option maxRecDepth 100000 in
theorem C_Ip_poolOfO (g : zG) (a pa ta sa gs co fu la gy du re wm ac : Nat) (k : Int32) (h1 : ¬ k = 103) (h2 : ¬ k = 100) : CT g M_Ip_poolOf [.ref a, .int k] [(a, .inr (11, [.ref pa, .ref ta, .ref sa, .ref gs, .ref co, .ref fu, .ref la, .ref gy, .ref du, .ref re, .ref wm, .ref ac]))] (fun o cs1 => o = .inl (some .null) ∧ cs1 = [(a, .inr (11, [.ref pa, .ref ta, .ref sa, .ref gs, .ref co, .ref fu, .ref la, .ref gy, .ref du, .ref re, .ref wm, .ref ac]))]) 0 0 := by
  refine z_of (by decide) rfl (Nat.le_of_ble_eq_true rfl) (fun w0 => ?_)
  refine r_lvE (lv2 := [(0, .ref a), (1, .int k)]) rfl ?_
  refine r_iload_n d_Ip_poolOf_0 rfl 1 rfl ?_
  refine r_bipush d_Ip_poolOf_1 (v := 103) (by decide) ?_
  refine r_icmp_ne (tgt := 11) d_Ip_poolOf_3 (by decide) (fun c_3 => ?_) (fun c_3 => ?_)
  · refine r_iload_n d_Ip_poolOf_11 rfl 1 rfl ?_
    refine r_bipush d_Ip_poolOf_12 (v := 100) (by decide) ?_
    refine r_icmp_ne (tgt := 24) d_Ip_poolOf_14 (by decide) (fun c_14 => ?_) (fun c_14 => ?_)
    · refine r_null d_Ip_poolOf_24 ?_
      refine r_aret d_Ip_poolOf_25 rfl (Or.inl ⟨_, rfl⟩) (Or.inl rfl) ?_
      exact ⟨rfl, rfl⟩
    · exact absurd c_14 h2
  · exact absurd c_3 h1
abbrev M_Ip_pool : zM := (⟨"Ironpour", "pool", "(C)I"⟩, prog_1_method_31_code, 3, (Option.some FieldType.int), 6, 100, [])
theorem d_Ip_pool_0 : decode prog_1_method_31_code 0 = .ok (.aload_n 0, 1) := zo_42 (zd_b zq_prog_1_method_31_code_0 0 rfl rfl rfl)
theorem d_Ip_pool_1 : decode prog_1_method_31_code 1 = .ok (.iload_n 1, 1) := zo_27 (zd_b zq_prog_1_method_31_code_0 1 rfl rfl rfl)
theorem d_Ip_pool_2 : decode prog_1_method_31_code 2 = .ok (.invokevirtual 265, 3) := zo_182 (d := 1) (e := 9) (zd_b zq_prog_1_method_31_code_0 2 rfl rfl rfl) (zd_b zq_prog_1_method_31_code_0 3 rfl rfl rfl) (zd_b zq_prog_1_method_31_code_0 4 rfl rfl rfl)
theorem ok_Ip_pool_Ip_poolOf : z_ok M_Ip_pool M_Ip_poolOf 1 := ⟨z_mj5 (i := 27) rfl (by decide +kernel), rfl, ⟨by decide +kernel, by decide +kernel, by decide +kernel⟩, ⟨by decide, by decide⟩, z_mj1 (i := 1) rfl (by decide +kernel), rfl⟩
theorem ln_Ip_265 : Cond.methodLink "Ironpour" 265 M_Ip_poolOf.1 ∈ z_gw := z_mj5 (i := 24) rfl (by decide +kernel)
theorem w_im_Ip_poolOf : Cond.instanceMethod M_Ip_poolOf.1 ∈ z_gw := z_mj5 (i := 26) rfl (by decide +kernel)
theorem w_se_Ip_poolOf : Cond.selects M_Ip_poolOf.1.cls M_Ip_poolOf.1 M_Ip_poolOf.1 ∈ z_gw := z_mem (i := 20) (by decide +kernel) (by decide +kernel)
theorem d_Ip_pool_5 : decode prog_1_method_31_code 5 = .ok (.astore_n 2, 1) := zo_77 (zd_b zq_prog_1_method_31_code_0 5 rfl rfl rfl)
theorem d_Ip_pool_6 : decode prog_1_method_31_code 6 = .ok (.aload_n 2, 1) := zo_44 (zd_b zq_prog_1_method_31_code_0 6 rfl rfl rfl)
theorem d_Ip_pool_7 : decode prog_1_method_31_code 7 = .ok (.ifnonnull 14, 3) := zo_199 (d := 0) (e := 14) (zd_b zq_prog_1_method_31_code_0 7 rfl rfl rfl) (zd_b zq_prog_1_method_31_code_0 8 rfl rfl rfl) (zd_b zq_prog_1_method_31_code_0 9 rfl rfl rfl) (by decide +kernel)
theorem d_Ip_pool_10 : decode prog_1_method_31_code 10 = .ok (.new 89, 3) := zo_187 (d := 0) (e := 89) (zd_b zq_prog_1_method_31_code_0 10 rfl rfl rfl) (zd_b zq_prog_1_method_31_code_0 11 rfl rfl rfl) (zd_b zq_prog_1_method_31_code_0 12 rfl rfl rfl)
theorem sr_Ip_366 : Cond.stringRef "Ironpour" 366 "no such pool" ∈ lw_tbl := z_tb5 (i := 169) rfl
theorem d_Ip_pool_13 : decode prog_1_method_31_code 13 = .ok (.dup, 1) := zo_89 (zd_b zq_prog_1_method_31_code_0 13 rfl rfl rfl)
theorem d_Ip_pool_14 : decode prog_1_method_31_code 14 = .ok (.ldc_w 366, 3) := zo_19 (d := 1) (e := 110) (zd_b zq_prog_1_method_31_code_0 14 rfl rfl rfl) (zd_b zq_prog_1_method_31_code_0 15 rfl rfl rfl) (zd_b zq_prog_1_method_31_code_0 16 rfl rfl rfl)
theorem d_Ip_pool_17 : decode prog_1_method_31_code 17 = .ok (.invokespecial 93, 3) := zo_183 (d := 0) (e := 93) (zd_b zq_prog_1_method_31_code_0 17 rfl rfl rfl) (zd_b zq_prog_1_method_31_code_0 18 rfl rfl rfl) (zd_b zq_prog_1_method_31_code_0 19 rfl rfl rfl)
theorem d_Ip_pool_20 : decode prog_1_method_31_code 20 = .ok (.athrow, 1) := zo_191 (zd_b zq_prog_1_method_31_code_0 20 rfl rfl rfl)
set_option maxHeartbeats 4000000 in
set_option maxRecDepth 100000 in
theorem C_Ip_poolE (g : zG) (a pa ta sa gs co fu la gy du re wm ac : Nat) (k : Int32) (h1 : ¬ k = 103) (h2 : ¬ k = 100) : CT g M_Ip_pool [.ref a, .int k] [(a, .inr (11, [.ref pa, .ref ta, .ref sa, .ref gs, .ref co, .ref fu, .ref la, .ref gy, .ref du, .ref re, .ref wm, .ref ac]))] (fun o cs1 => o = .inr "java/lang/IllegalArgumentException" ∧ cs1 = [(a, .inr (11, [.ref pa, .ref ta, .ref sa, .ref gs, .ref co, .ref fu, .ref la, .ref gy, .ref du, .ref re, .ref wm, .ref ac]))]) 1 6 := by
  refine z_of (by decide) rfl (Nat.le_of_ble_eq_true rfl) (fun w0 => ?_)
  refine r_lvE (lv2 := [(0, .ref a), (1, .int k)]) rfl ?_
  refine r_aload_n d_Ip_pool_0 rfl 0 rfl ?_
  refine r_iload_n d_Ip_pool_1 rfl 1 rfl ?_
  refine r_callV (As := [.int k]) (rest := []) (csC := [(a, .inr (11, [.ref pa, .ref ta, .ref sa, .ref gs, .ref co, .ref fu, .ref la, .ref gy, .ref du, .ref re, .ref wm, .ref ac]))]) (is := [0]) (q0 := 0) rfl rfl ln_Ip_265 w_im_Ip_poolOf w_se_Ip_poolOf ok_Ip_pool_Ip_poolOf d_Ip_pool_2 (C_Ip_poolOfO g a pa ta sa gs co fu la gy du re wm ac k h1 h2) rfl rfl (Nat.le_of_ble_eq_true rfl) rfl (by decide) (by omega) (by omega) (fun E cs1 hx => ?_) (fun v cs1 hx => ?_)
  · exact absurd hx.1 (by simp)
  · obtain ⟨e1, rfl⟩ := hx
    cases e1
    refine ⟨rfl, ?_⟩
    refine r_st (st2 := [.null]) rfl ?_
    refine r_cs (cs2 := [(a, .inr (11, [.ref pa, .ref ta, .ref sa, .ref gs, .ref co, .ref fu, .ref la, .ref gy, .ref du, .ref re, .ref wm, .ref ac]))]) rfl ?_
    refine r_astore_nN (lv' := [(2, .null), (0, .ref a), (1, .int k)]) d_Ip_pool_5 rfl (by decide) rfl ?_
    refine r_aload_nN d_Ip_pool_6 rfl 0 rfl ?_
    refine r_ifnonnullN d_Ip_pool_7 ?_
    refine r_throwW tb_Ip_89_93 sr_Ip_366 d_Ip_pool_10 d_Ip_pool_13 d_Ip_pool_14 d_Ip_pool_17 d_Ip_pool_20 rfl (by decide) (by decide) (Nat.le_of_ble_eq_true rfl) (by omega) (by omega) ?_
    exact ⟨rfl, rfl⟩
theorem d_Ip_pool_21 : decode prog_1_method_31_code 21 = .ok (.aload_n 2, 1) := zo_44 (zd_b zq_prog_1_method_31_code_0 21 rfl rfl rfl)
theorem d_Ip_pool_22 : decode prog_1_method_31_code 22 = .ok (.getfield 269, 3) := zo_180 (d := 1) (e := 13) (zd_b zq_prog_1_method_31_code_0 22 rfl rfl rfl) (zd_b zq_prog_1_method_31_code_0 23 rfl rfl rfl) (zd_b zq_prog_1_method_31_code_0 24 rfl rfl rfl)
theorem d_Ip_pool_25 : decode prog_1_method_31_code 25 = .ok (.ireturn, 1) := zo_172 (zd_b zq_prog_1_method_31_code_0 25 rfl rfl rfl)
set_option maxHeartbeats 4000000 in
set_option maxRecDepth 100000 in
theorem C_Ip_pool103 (g : zG) (a pa ta sa gs co fu la gy du re wm ac : Nat) (gyg : Nat) (gr : Nat → Int64) (ir : Int32) : CT g M_Ip_pool [.ref a, .int 103] [(a, .inr (11, [.ref pa, .ref ta, .ref sa, .ref gs, .ref co, .ref fu, .ref la, .ref gy, .ref du, .ref re, .ref wm, .ref ac])), (gy, .inr (6, [.ref gyg, .int ir])), (gyg, .inl (3, 4, .inr (.inl gr)))] (fun o cs1 => o = .inl (some (.int ir)) ∧ cs1 = [(a, .inr (11, [.ref pa, .ref ta, .ref sa, .ref gs, .ref co, .ref fu, .ref la, .ref gy, .ref du, .ref re, .ref wm, .ref ac])), (gy, .inr (6, [.ref gyg, .int ir])), (gyg, .inl (3, 4, .inr (.inl gr)))]) 1 6 := by
  refine z_of (by decide) rfl (Nat.le_of_ble_eq_true rfl) (fun w0 => ?_)
  refine r_lvE (lv2 := [(0, .ref a), (1, .int 103)]) rfl ?_
  refine r_aload_n d_Ip_pool_0 rfl 0 rfl ?_
  refine r_iload_n d_Ip_pool_1 rfl 1 rfl ?_
  refine r_callV (As := [.int 103]) (rest := []) (csC := [(a, .inr (11, [.ref pa, .ref ta, .ref sa, .ref gs, .ref co, .ref fu, .ref la, .ref gy, .ref du, .ref re, .ref wm, .ref ac]))]) (is := [0]) (q0 := 0) rfl rfl ln_Ip_265 w_im_Ip_poolOf w_se_Ip_poolOf ok_Ip_pool_Ip_poolOf d_Ip_pool_2 (C_Ip_poolOfG g a pa ta sa gs co fu la gy du re wm ac) rfl rfl (Nat.le_of_ble_eq_true rfl) rfl (by decide) (by omega) (by omega) (fun E cs1 hx => ?_) (fun v cs1 hx => ?_)
  · exact absurd hx.1 (by simp)
  · obtain ⟨e1, rfl⟩ := hx
    cases e1
    refine ⟨rfl, ?_⟩
    refine r_st (st2 := [.ref gy]) rfl ?_
    refine r_cs (cs2 := [(a, .inr (11, [.ref pa, .ref ta, .ref sa, .ref gs, .ref co, .ref fu, .ref la, .ref gy, .ref du, .ref re, .ref wm, .ref ac])), (gy, .inr (6, [.ref gyg, .int ir])), (gyg, .inl (3, 4, .inr (.inl gr)))]) rfl ?_
    refine r_astore_n (lv' := [(2, .ref gy), (0, .ref a), (1, .int 103)]) d_Ip_pool_5 rfl (by decide) rfl ?_
    refine r_aload_n d_Ip_pool_6 rfl 0 rfl ?_
    refine r_ifnonnull (tgt := 21) d_Ip_pool_7 (by decide) ?_
    refine r_aload_n d_Ip_pool_21 rfl 0 rfl ?_
    refine r_get fs_Ip_269 d_Ip_pool_22 (q0 := 1) rfl rfl ?_
    refine r_iret d_Ip_pool_25 rfl rfl ?_
    exact ⟨rfl, rfl⟩
abbrev M_Ip_poolHas : zM := (⟨"Ironpour", "poolHas", "(CC)I"⟩, prog_1_method_32_code, 5, (Option.some FieldType.int), 9, 200, [])
theorem d_Ip_poolHas_0 : decode prog_1_method_32_code 0 = .ok (.aload_n 0, 1) := zo_42 (zd_b zq_prog_1_method_32_code_0 0 rfl rfl rfl)
theorem d_Ip_poolHas_1 : decode prog_1_method_32_code 1 = .ok (.iload_n 1, 1) := zo_27 (zd_b zq_prog_1_method_32_code_0 1 rfl rfl rfl)
theorem d_Ip_poolHas_2 : decode prog_1_method_32_code 2 = .ok (.invokevirtual 265, 3) := zo_182 (d := 1) (e := 9) (zd_b zq_prog_1_method_32_code_0 2 rfl rfl rfl) (zd_b zq_prog_1_method_32_code_0 3 rfl rfl rfl) (zd_b zq_prog_1_method_32_code_0 4 rfl rfl rfl)
theorem ok_Ip_poolHas_Ip_poolOf : z_ok M_Ip_poolHas M_Ip_poolOf 1 := ⟨z_mj5 (i := 27) rfl (by decide +kernel), rfl, ⟨by decide +kernel, by decide +kernel, by decide +kernel⟩, ⟨by decide, by decide⟩, z_mj1 (i := 1) rfl (by decide +kernel), rfl⟩
theorem d_Ip_poolHas_5 : decode prog_1_method_32_code 5 = .ok (.astore_n 3, 1) := zo_78 (zd_b zq_prog_1_method_32_code_0 5 rfl rfl rfl)
theorem d_Ip_poolHas_6 : decode prog_1_method_32_code 6 = .ok (.aload_n 3, 1) := zo_45 (zd_b zq_prog_1_method_32_code_0 6 rfl rfl rfl)
theorem d_Ip_poolHas_7 : decode prog_1_method_32_code 7 = .ok (.ifnonnull 14, 3) := zo_199 (d := 0) (e := 14) (zd_b zq_prog_1_method_32_code_0 7 rfl rfl rfl) (zd_b zq_prog_1_method_32_code_0 8 rfl rfl rfl) (zd_b zq_prog_1_method_32_code_0 9 rfl rfl rfl) (by decide +kernel)
theorem d_Ip_poolHas_21 : decode prog_1_method_32_code 21 = .ok (.iload_n 2, 1) := zo_28 (zd_b zq_prog_1_method_32_code_0 21 rfl rfl rfl)
theorem d_Ip_poolHas_22 : decode prog_1_method_32_code 22 = .ok (.invokestatic 294, 3) := zo_184 (d := 1) (e := 38) (zd_b zq_prog_1_method_32_code_0 22 rfl rfl rfl) (zd_b zq_prog_1_method_32_code_0 23 rfl rfl rfl) (zd_b zq_prog_1_method_32_code_0 24 rfl rfl rfl)
theorem ok_Ip_poolHas_Ip_elementIndex : z_ok M_Ip_poolHas M_Ip_elementIndex 1 := ⟨z_mj5 (i := 74) rfl (by decide +kernel), rfl, ⟨by decide +kernel, by decide +kernel, by decide +kernel⟩, ⟨by decide, by decide⟩, z_mj1 (i := 1) rfl (by decide +kernel), rfl⟩
theorem ln_Ip_294 : Cond.methodLink "Ironpour" 294 M_Ip_elementIndex.1 ∈ z_gw := z_mj5 (i := 72) rfl (by decide +kernel)
theorem w_st_Ip_elementIndex : Cond.static M_Ip_elementIndex.1 ∈ z_gw := z_mj5 (i := 73) rfl (by decide +kernel)
set_option maxHeartbeats 4000000 in
set_option maxRecDepth 100000 in
theorem C_Ip_poolHas103E (g : zG) (a pa ta sa gs co fu la gy du re wm ac : Nat) (gyg : Nat) (gr : Nat → Int64) (ir : Int32) (k : Int32) (hk : z_ix 2 k < 0) : CT g M_Ip_poolHas [.ref a, .int 103, .int k] [(a, .inr (11, [.ref pa, .ref ta, .ref sa, .ref gs, .ref co, .ref fu, .ref la, .ref gy, .ref du, .ref re, .ref wm, .ref ac])), (gy, .inr (6, [.ref gyg, .int ir])), (gyg, .inl (3, 4, .inr (.inl gr)))] (fun o cs1 => o = .inr "java/lang/IllegalArgumentException" ∧ cs1 = [(a, .inr (11, [.ref pa, .ref ta, .ref sa, .ref gs, .ref co, .ref fu, .ref la, .ref gy, .ref du, .ref re, .ref wm, .ref ac])), (gy, .inr (6, [.ref gyg, .int ir])), (gyg, .inl (3, 4, .inr (.inl gr)))]) 1 6 := by
  refine z_of (by decide) rfl (Nat.le_of_ble_eq_true rfl) (fun w0 => ?_)
  refine r_lvE (lv2 := [(0, .ref a), (1, .int 103), (2, .int k)]) rfl ?_
  refine r_aload_n d_Ip_poolHas_0 rfl 0 rfl ?_
  refine r_iload_n d_Ip_poolHas_1 rfl 1 rfl ?_
  refine r_callV (As := [.int 103]) (rest := []) (csC := [(a, .inr (11, [.ref pa, .ref ta, .ref sa, .ref gs, .ref co, .ref fu, .ref la, .ref gy, .ref du, .ref re, .ref wm, .ref ac]))]) (is := [0]) (q0 := 0) rfl rfl ln_Ip_265 w_im_Ip_poolOf w_se_Ip_poolOf ok_Ip_poolHas_Ip_poolOf d_Ip_poolHas_2 (C_Ip_poolOfG g a pa ta sa gs co fu la gy du re wm ac) rfl rfl (Nat.le_of_ble_eq_true rfl) rfl (by decide) (by omega) (by omega) (fun E cs1 hx => ?_) (fun v cs1 hx => ?_)
  · exact absurd hx.1 (by simp)
  · obtain ⟨e1, rfl⟩ := hx
    cases e1
    refine ⟨rfl, ?_⟩
    refine r_st (st2 := [.ref gy]) rfl ?_
    refine r_cs (cs2 := [(a, .inr (11, [.ref pa, .ref ta, .ref sa, .ref gs, .ref co, .ref fu, .ref la, .ref gy, .ref du, .ref re, .ref wm, .ref ac])), (gy, .inr (6, [.ref gyg, .int ir])), (gyg, .inl (3, 4, .inr (.inl gr)))]) rfl ?_
    refine r_astore_n (lv' := [(3, .ref gy), (0, .ref a), (1, .int 103), (2, .int k)]) d_Ip_poolHas_5 rfl (by decide) rfl ?_
    refine r_aload_n d_Ip_poolHas_6 rfl 0 rfl ?_
    refine r_ifnonnull (tgt := 21) d_Ip_poolHas_7 (by decide) ?_
    refine r_iload_n d_Ip_poolHas_21 rfl 3 rfl ?_
    refine r_callS (As := [.int k]) (rest := []) (csC := []) (is := []) ln_Ip_294 w_st_Ip_elementIndex ok_Ip_poolHas_Ip_elementIndex d_Ip_poolHas_22 (C_Ip_elementIndexE g k hk) rfl rfl (Nat.le_of_ble_eq_true rfl) rfl (by decide) (by omega) (by omega) (fun E cs1 hx => ?_) (fun v cs1 hx => ?_)
    · obtain ⟨e1, rfl⟩ := hx
      cases e1
      exact ⟨rfl, rfl, rfl⟩
    · exact absurd hx.1 (by simp)
theorem d_Ip_poolHas_25 : decode prog_1_method_32_code 25 = .ok (.istore 4, 2) := zo_54 (d := 4) (zd_b zq_prog_1_method_32_code_0 25 rfl rfl rfl) (zd_b zq_prog_1_method_32_code_0 26 rfl rfl rfl)
theorem d_Ip_poolHas_27 : decode prog_1_method_32_code 27 = .ok (.aload_n 3, 1) := zo_45 (zd_b zq_prog_1_method_32_code_0 27 rfl rfl rfl)
theorem d_Ip_poolHas_28 : decode prog_1_method_32_code 28 = .ok (.getfield 269, 3) := zo_180 (d := 1) (e := 13) (zd_b zq_prog_1_method_32_code_0 28 rfl rfl rfl) (zd_b zq_prog_1_method_32_code_0 29 rfl rfl rfl) (zd_b zq_prog_1_method_32_code_0 30 rfl rfl rfl)
theorem d_Ip_poolHas_31 : decode prog_1_method_32_code 31 = .ok (.ifCond .gt 14, 3) := zo_157 (d := 0) (e := 14) (zd_b zq_prog_1_method_32_code_0 31 rfl rfl rfl) (zd_b zq_prog_1_method_32_code_1 0 rfl rfl rfl) (zd_b zq_prog_1_method_32_code_1 1 rfl rfl rfl) (by decide +kernel)
theorem d_Ip_poolHas_34 : decode prog_1_method_32_code 34 = .ok (.new 150, 3) := zo_187 (d := 0) (e := 150) (zd_b zq_prog_1_method_32_code_1 2 rfl rfl rfl) (zd_b zq_prog_1_method_32_code_1 3 rfl rfl rfl) (zd_b zq_prog_1_method_32_code_1 4 rfl rfl rfl)
theorem sr_Ip_368 : Cond.stringRef "Ironpour" 368 "no iron in the pool" ∈ lw_tbl := z_tb5 (i := 177) rfl
theorem d_Ip_poolHas_37 : decode prog_1_method_32_code 37 = .ok (.dup, 1) := zo_89 (zd_b zq_prog_1_method_32_code_1 5 rfl rfl rfl)
theorem d_Ip_poolHas_38 : decode prog_1_method_32_code 38 = .ok (.ldc_w 368, 3) := zo_19 (d := 1) (e := 112) (zd_b zq_prog_1_method_32_code_1 6 rfl rfl rfl) (zd_b zq_prog_1_method_32_code_1 7 rfl rfl rfl) (zd_b zq_prog_1_method_32_code_1 8 rfl rfl rfl)
theorem d_Ip_poolHas_41 : decode prog_1_method_32_code 41 = .ok (.invokespecial 154, 3) := zo_183 (d := 0) (e := 154) (zd_b zq_prog_1_method_32_code_1 9 rfl rfl rfl) (zd_b zq_prog_1_method_32_code_1 10 rfl rfl rfl) (zd_b zq_prog_1_method_32_code_1 11 rfl rfl rfl)
theorem d_Ip_poolHas_44 : decode prog_1_method_32_code 44 = .ok (.athrow, 1) := zo_191 (zd_b zq_prog_1_method_32_code_1 12 rfl rfl rfl)
set_option maxHeartbeats 4000000 in
set_option maxRecDepth 100000 in
theorem C_Ip_poolHas103F (g : zG) (a pa ta sa gs co fu la gy du re wm ac : Nat) (gyg : Nat) (gr : Nat → Int64) (ir : Int32) (k : Int32) (e : Nat) (he : e < 4) (hk : z_ix 2 k = nI e) (hi : ir ≤ 0) : CT g M_Ip_poolHas [.ref a, .int 103, .int k] [(a, .inr (11, [.ref pa, .ref ta, .ref sa, .ref gs, .ref co, .ref fu, .ref la, .ref gy, .ref du, .ref re, .ref wm, .ref ac])), (gy, .inr (6, [.ref gyg, .int ir])), (gyg, .inl (3, 4, .inr (.inl gr)))] (fun o cs1 => o = .inr "java/util/NoSuchElementException" ∧ cs1 = [(a, .inr (11, [.ref pa, .ref ta, .ref sa, .ref gs, .ref co, .ref fu, .ref la, .ref gy, .ref du, .ref re, .ref wm, .ref ac])), (gy, .inr (6, [.ref gyg, .int ir])), (gyg, .inl (3, 4, .inr (.inl gr)))]) 2 12 := by
  refine z_of (by decide) rfl (Nat.le_of_ble_eq_true rfl) (fun w0 => ?_)
  refine r_lvE (lv2 := [(0, .ref a), (1, .int 103), (2, .int k)]) rfl ?_
  refine r_aload_n d_Ip_poolHas_0 rfl 0 rfl ?_
  refine r_iload_n d_Ip_poolHas_1 rfl 1 rfl ?_
  refine r_callV (As := [.int 103]) (rest := []) (csC := [(a, .inr (11, [.ref pa, .ref ta, .ref sa, .ref gs, .ref co, .ref fu, .ref la, .ref gy, .ref du, .ref re, .ref wm, .ref ac]))]) (is := [0]) (q0 := 0) rfl rfl ln_Ip_265 w_im_Ip_poolOf w_se_Ip_poolOf ok_Ip_poolHas_Ip_poolOf d_Ip_poolHas_2 (C_Ip_poolOfG g a pa ta sa gs co fu la gy du re wm ac) rfl rfl (Nat.le_of_ble_eq_true rfl) rfl (by decide) (by omega) (by omega) (fun E cs1 hx => ?_) (fun v cs1 hx => ?_)
  · exact absurd hx.1 (by simp)
  · obtain ⟨e1, rfl⟩ := hx
    cases e1
    refine ⟨rfl, ?_⟩
    refine r_st (st2 := [.ref gy]) rfl ?_
    refine r_cs (cs2 := [(a, .inr (11, [.ref pa, .ref ta, .ref sa, .ref gs, .ref co, .ref fu, .ref la, .ref gy, .ref du, .ref re, .ref wm, .ref ac])), (gy, .inr (6, [.ref gyg, .int ir])), (gyg, .inl (3, 4, .inr (.inl gr)))]) rfl ?_
    refine r_astore_n (lv' := [(3, .ref gy), (0, .ref a), (1, .int 103), (2, .int k)]) d_Ip_poolHas_5 rfl (by decide) rfl ?_
    refine r_aload_n d_Ip_poolHas_6 rfl 0 rfl ?_
    refine r_ifnonnull (tgt := 21) d_Ip_poolHas_7 (by decide) ?_
    refine r_iload_n d_Ip_poolHas_21 rfl 3 rfl ?_
    refine r_callS (As := [.int k]) (rest := []) (csC := []) (is := []) ln_Ip_294 w_st_Ip_elementIndex ok_Ip_poolHas_Ip_elementIndex d_Ip_poolHas_22 (C_Ip_elementIndexN g k e he hk) rfl rfl (Nat.le_of_ble_eq_true rfl) rfl (by decide) (by omega) (by omega) (fun E cs1 hx => ?_) (fun v cs1 hx => ?_)
    · exact absurd hx.1 (by simp)
    · obtain ⟨e1, rfl⟩ := hx
      cases e1
      refine ⟨rfl, ?_⟩
      refine r_st (st2 := [.int (nI e)]) rfl ?_
      refine r_cs (cs2 := [(a, .inr (11, [.ref pa, .ref ta, .ref sa, .ref gs, .ref co, .ref fu, .ref la, .ref gy, .ref du, .ref re, .ref wm, .ref ac])), (gy, .inr (6, [.ref gyg, .int ir])), (gyg, .inl (3, 4, .inr (.inl gr)))]) rfl ?_
      refine r_istore (lv' := [(4, .int (nI e)), (3, .ref gy), (0, .ref a), (1, .int 103), (2, .int k)]) d_Ip_poolHas_25 (by decide) rfl ?_
      refine r_aload_n d_Ip_poolHas_27 rfl 1 rfl ?_
      refine r_get fs_Ip_269 d_Ip_poolHas_28 (q0 := 1) rfl rfl ?_
      refine r_if_gt (tgt := 45) d_Ip_poolHas_31 (by decide) (fun c_31 => ?_) (fun c_31 => ?_)
      · exact absurd c_31 (Int32.not_lt.mpr hi)
      · refine r_throwXW tb_Ip_150_154 sr_Ip_368 d_Ip_poolHas_34 d_Ip_poolHas_37 d_Ip_poolHas_38 d_Ip_poolHas_41 d_Ip_poolHas_44 rfl (by decide) (by decide) (Nat.le_of_ble_eq_true rfl) (by omega) (by omega) ?_
        exact ⟨rfl, rfl⟩
theorem d_Ip_poolHas_45 : decode prog_1_method_32_code 45 = .ok (.aload_n 3, 1) := zo_45 (zd_b zq_prog_1_method_32_code_1 13 rfl rfl rfl)
theorem d_Ip_poolHas_46 : decode prog_1_method_32_code 46 = .ok (.iload 4, 2) := zo_21 (d := 4) (zd_b zq_prog_1_method_32_code_1 14 rfl rfl rfl) (zd_b zq_prog_1_method_32_code_1 15 rfl rfl rfl)
theorem d_Ip_poolHas_48 : decode prog_1_method_32_code 48 = .ok (.invokevirtual 300, 3) := zo_182 (d := 1) (e := 44) (zd_b zq_prog_1_method_32_code_1 16 rfl rfl rfl) (zd_b zq_prog_1_method_32_code_1 17 rfl rfl rfl) (zd_b zq_prog_1_method_32_code_1 18 rfl rfl rfl)
theorem ok_Ip_poolHas_Me_partOf : z_ok M_Ip_poolHas M_Me_partOf 1 := ⟨z_mj5 (i := 81) rfl (by decide +kernel), rfl, ⟨by decide +kernel, by decide +kernel, by decide +kernel⟩, ⟨by decide, by decide⟩, z_mj1 (i := 8) rfl (by decide +kernel), rfl⟩
theorem ln_Ip_300 : Cond.methodLink "Ironpour" 300 M_Me_partOf.1 ∈ z_gw := z_mj5 (i := 78) rfl (by decide +kernel)
theorem d_Ip_poolHas_51 : decode prog_1_method_32_code 51 = .ok (.ireturn, 1) := zo_172 (zd_b zq_prog_1_method_32_code_1 19 rfl rfl rfl)
set_option maxHeartbeats 4000000 in
set_option maxRecDepth 100000 in
theorem C_Ip_poolHas103N (g : zG) (a pa ta sa gs co fu la gy du re wm ac : Nat) (gyg : Nat) (gr : Nat → Int64) (ir : Int32) (k : Int32) (e : Nat) (he : e < 4) (hk : z_ix 2 k = nI e) (hi : ¬ ir ≤ 0) : CT g M_Ip_poolHas [.ref a, .int 103, .int k] [(a, .inr (11, [.ref pa, .ref ta, .ref sa, .ref gs, .ref co, .ref fu, .ref la, .ref gy, .ref du, .ref re, .ref wm, .ref ac])), (gy, .inr (6, [.ref gyg, .int ir])), (gyg, .inl (3, 4, .inr (.inl gr)))] (fun o cs1 => o = .inl (some (.int (poI gr ir e))) ∧ cs1 = [(a, .inr (11, [.ref pa, .ref ta, .ref sa, .ref gs, .ref co, .ref fu, .ref la, .ref gy, .ref du, .ref re, .ref wm, .ref ac])), (gy, .inr (6, [.ref gyg, .int ir])), (gyg, .inl (3, 4, .inr (.inl gr)))]) 2 12 := by
  refine z_of (by decide) rfl (Nat.le_of_ble_eq_true rfl) (fun w0 => ?_)
  refine r_lvE (lv2 := [(0, .ref a), (1, .int 103), (2, .int k)]) rfl ?_
  refine r_aload_n d_Ip_poolHas_0 rfl 0 rfl ?_
  refine r_iload_n d_Ip_poolHas_1 rfl 1 rfl ?_
  refine r_callV (As := [.int 103]) (rest := []) (csC := [(a, .inr (11, [.ref pa, .ref ta, .ref sa, .ref gs, .ref co, .ref fu, .ref la, .ref gy, .ref du, .ref re, .ref wm, .ref ac]))]) (is := [0]) (q0 := 0) rfl rfl ln_Ip_265 w_im_Ip_poolOf w_se_Ip_poolOf ok_Ip_poolHas_Ip_poolOf d_Ip_poolHas_2 (C_Ip_poolOfG g a pa ta sa gs co fu la gy du re wm ac) rfl rfl (Nat.le_of_ble_eq_true rfl) rfl (by decide) (by omega) (by omega) (fun E cs1 hx => ?_) (fun v cs1 hx => ?_)
  · exact absurd hx.1 (by simp)
  · obtain ⟨e1, rfl⟩ := hx
    cases e1
    refine ⟨rfl, ?_⟩
    refine r_st (st2 := [.ref gy]) rfl ?_
    refine r_cs (cs2 := [(a, .inr (11, [.ref pa, .ref ta, .ref sa, .ref gs, .ref co, .ref fu, .ref la, .ref gy, .ref du, .ref re, .ref wm, .ref ac])), (gy, .inr (6, [.ref gyg, .int ir])), (gyg, .inl (3, 4, .inr (.inl gr)))]) rfl ?_
    refine r_astore_n (lv' := [(3, .ref gy), (0, .ref a), (1, .int 103), (2, .int k)]) d_Ip_poolHas_5 rfl (by decide) rfl ?_
    refine r_aload_n d_Ip_poolHas_6 rfl 0 rfl ?_
    refine r_ifnonnull (tgt := 21) d_Ip_poolHas_7 (by decide) ?_
    refine r_iload_n d_Ip_poolHas_21 rfl 3 rfl ?_
    refine r_callS (As := [.int k]) (rest := []) (csC := []) (is := []) ln_Ip_294 w_st_Ip_elementIndex ok_Ip_poolHas_Ip_elementIndex d_Ip_poolHas_22 (C_Ip_elementIndexN g k e he hk) rfl rfl (Nat.le_of_ble_eq_true rfl) rfl (by decide) (by omega) (by omega) (fun E cs1 hx => ?_) (fun v cs1 hx => ?_)
    · exact absurd hx.1 (by simp)
    · obtain ⟨e1, rfl⟩ := hx
      cases e1
      refine ⟨rfl, ?_⟩
      refine r_st (st2 := [.int (nI e)]) rfl ?_
      refine r_cs (cs2 := [(a, .inr (11, [.ref pa, .ref ta, .ref sa, .ref gs, .ref co, .ref fu, .ref la, .ref gy, .ref du, .ref re, .ref wm, .ref ac])), (gy, .inr (6, [.ref gyg, .int ir])), (gyg, .inl (3, 4, .inr (.inl gr)))]) rfl ?_
      refine r_istore (lv' := [(4, .int (nI e)), (3, .ref gy), (0, .ref a), (1, .int 103), (2, .int k)]) d_Ip_poolHas_25 (by decide) rfl ?_
      refine r_aload_n d_Ip_poolHas_27 rfl 1 rfl ?_
      refine r_get fs_Ip_269 d_Ip_poolHas_28 (q0 := 1) rfl rfl ?_
      refine r_if_gt (tgt := 45) d_Ip_poolHas_31 (by decide) (fun c_31 => ?_) (fun c_31 => ?_)
      · refine r_aload_n d_Ip_poolHas_45 rfl 1 rfl ?_
        refine r_iload d_Ip_poolHas_46 0 rfl ?_
        refine r_callV (As := [.int (nI e)]) (rest := []) (csC := [(gy, .inr (6, [.ref gyg, .int ir])), (gyg, .inl (3, 4, .inr (.inl gr)))]) (is := [1, 2]) (q0 := 1) rfl rfl ln_Ip_300 w_im_Me_partOf w_se_Me_partOf ok_Ip_poolHas_Me_partOf d_Ip_poolHas_48 (C_Me_partOf g gy gyg gr ir e he) rfl rfl (Nat.le_of_ble_eq_true rfl) rfl (by decide) (by omega) (by omega) (fun E cs1 hx => ?_) (fun v cs1 hx => ?_)
        · exact absurd hx.1 (by simp)
        · obtain ⟨e1, rfl⟩ := hx
          cases e1
          refine ⟨rfl, ?_⟩
          refine r_st (st2 := [.int (poI gr ir e)]) rfl ?_
          refine r_cs (cs2 := [(a, .inr (11, [.ref pa, .ref ta, .ref sa, .ref gs, .ref co, .ref fu, .ref la, .ref gy, .ref du, .ref re, .ref wm, .ref ac])), (gy, .inr (6, [.ref gyg, .int ir])), (gyg, .inl (3, 4, .inr (.inl gr)))]) rfl ?_
          refine r_iret d_Ip_poolHas_51 rfl rfl ?_
          exact ⟨rfl, rfl⟩
      · exact absurd (Int32.not_lt.mp c_31) hi
set_option maxHeartbeats 4000000 in
set_option maxRecDepth 100000 in
theorem C_Ip_pool100 (g : zG) (a pa ta sa gs co fu la gy du re wm ac : Nat) (dug : Nat) (gr : Nat → Int64) (ir : Int32) : CT g M_Ip_pool [.ref a, .int 100] [(a, .inr (11, [.ref pa, .ref ta, .ref sa, .ref gs, .ref co, .ref fu, .ref la, .ref gy, .ref du, .ref re, .ref wm, .ref ac])), (du, .inr (6, [.ref dug, .int ir])), (dug, .inl (3, 4, .inr (.inl gr)))] (fun o cs1 => o = .inl (some (.int ir)) ∧ cs1 = [(a, .inr (11, [.ref pa, .ref ta, .ref sa, .ref gs, .ref co, .ref fu, .ref la, .ref gy, .ref du, .ref re, .ref wm, .ref ac])), (du, .inr (6, [.ref dug, .int ir])), (dug, .inl (3, 4, .inr (.inl gr)))]) 1 6 := by
  refine z_of (by decide) rfl (Nat.le_of_ble_eq_true rfl) (fun w0 => ?_)
  refine r_lvE (lv2 := [(0, .ref a), (1, .int 100)]) rfl ?_
  refine r_aload_n d_Ip_pool_0 rfl 0 rfl ?_
  refine r_iload_n d_Ip_pool_1 rfl 1 rfl ?_
  refine r_callV (As := [.int 100]) (rest := []) (csC := [(a, .inr (11, [.ref pa, .ref ta, .ref sa, .ref gs, .ref co, .ref fu, .ref la, .ref gy, .ref du, .ref re, .ref wm, .ref ac]))]) (is := [0]) (q0 := 0) rfl rfl ln_Ip_265 w_im_Ip_poolOf w_se_Ip_poolOf ok_Ip_pool_Ip_poolOf d_Ip_pool_2 (C_Ip_poolOfD g a pa ta sa gs co fu la gy du re wm ac) rfl rfl (Nat.le_of_ble_eq_true rfl) rfl (by decide) (by omega) (by omega) (fun E cs1 hx => ?_) (fun v cs1 hx => ?_)
  · exact absurd hx.1 (by simp)
  · obtain ⟨e1, rfl⟩ := hx
    cases e1
    refine ⟨rfl, ?_⟩
    refine r_st (st2 := [.ref du]) rfl ?_
    refine r_cs (cs2 := [(a, .inr (11, [.ref pa, .ref ta, .ref sa, .ref gs, .ref co, .ref fu, .ref la, .ref gy, .ref du, .ref re, .ref wm, .ref ac])), (du, .inr (6, [.ref dug, .int ir])), (dug, .inl (3, 4, .inr (.inl gr)))]) rfl ?_
    refine r_astore_n (lv' := [(2, .ref du), (0, .ref a), (1, .int 100)]) d_Ip_pool_5 rfl (by decide) rfl ?_
    refine r_aload_n d_Ip_pool_6 rfl 0 rfl ?_
    refine r_ifnonnull (tgt := 21) d_Ip_pool_7 (by decide) ?_
    refine r_aload_n d_Ip_pool_21 rfl 0 rfl ?_
    refine r_get fs_Ip_269 d_Ip_pool_22 (q0 := 1) rfl rfl ?_
    refine r_iret d_Ip_pool_25 rfl rfl ?_
    exact ⟨rfl, rfl⟩
set_option maxHeartbeats 4000000 in
set_option maxRecDepth 100000 in
theorem C_Ip_poolHas100E (g : zG) (a pa ta sa gs co fu la gy du re wm ac : Nat) (dug : Nat) (gr : Nat → Int64) (ir : Int32) (k : Int32) (hk : z_ix 2 k < 0) : CT g M_Ip_poolHas [.ref a, .int 100, .int k] [(a, .inr (11, [.ref pa, .ref ta, .ref sa, .ref gs, .ref co, .ref fu, .ref la, .ref gy, .ref du, .ref re, .ref wm, .ref ac])), (du, .inr (6, [.ref dug, .int ir])), (dug, .inl (3, 4, .inr (.inl gr)))] (fun o cs1 => o = .inr "java/lang/IllegalArgumentException" ∧ cs1 = [(a, .inr (11, [.ref pa, .ref ta, .ref sa, .ref gs, .ref co, .ref fu, .ref la, .ref gy, .ref du, .ref re, .ref wm, .ref ac])), (du, .inr (6, [.ref dug, .int ir])), (dug, .inl (3, 4, .inr (.inl gr)))]) 1 6 := by
  refine z_of (by decide) rfl (Nat.le_of_ble_eq_true rfl) (fun w0 => ?_)
  refine r_lvE (lv2 := [(0, .ref a), (1, .int 100), (2, .int k)]) rfl ?_
  refine r_aload_n d_Ip_poolHas_0 rfl 0 rfl ?_
  refine r_iload_n d_Ip_poolHas_1 rfl 1 rfl ?_
  refine r_callV (As := [.int 100]) (rest := []) (csC := [(a, .inr (11, [.ref pa, .ref ta, .ref sa, .ref gs, .ref co, .ref fu, .ref la, .ref gy, .ref du, .ref re, .ref wm, .ref ac]))]) (is := [0]) (q0 := 0) rfl rfl ln_Ip_265 w_im_Ip_poolOf w_se_Ip_poolOf ok_Ip_poolHas_Ip_poolOf d_Ip_poolHas_2 (C_Ip_poolOfD g a pa ta sa gs co fu la gy du re wm ac) rfl rfl (Nat.le_of_ble_eq_true rfl) rfl (by decide) (by omega) (by omega) (fun E cs1 hx => ?_) (fun v cs1 hx => ?_)
  · exact absurd hx.1 (by simp)
  · obtain ⟨e1, rfl⟩ := hx
    cases e1
    refine ⟨rfl, ?_⟩
    refine r_st (st2 := [.ref du]) rfl ?_
    refine r_cs (cs2 := [(a, .inr (11, [.ref pa, .ref ta, .ref sa, .ref gs, .ref co, .ref fu, .ref la, .ref gy, .ref du, .ref re, .ref wm, .ref ac])), (du, .inr (6, [.ref dug, .int ir])), (dug, .inl (3, 4, .inr (.inl gr)))]) rfl ?_
    refine r_astore_n (lv' := [(3, .ref du), (0, .ref a), (1, .int 100), (2, .int k)]) d_Ip_poolHas_5 rfl (by decide) rfl ?_
    refine r_aload_n d_Ip_poolHas_6 rfl 0 rfl ?_
    refine r_ifnonnull (tgt := 21) d_Ip_poolHas_7 (by decide) ?_
    refine r_iload_n d_Ip_poolHas_21 rfl 3 rfl ?_
    refine r_callS (As := [.int k]) (rest := []) (csC := []) (is := []) ln_Ip_294 w_st_Ip_elementIndex ok_Ip_poolHas_Ip_elementIndex d_Ip_poolHas_22 (C_Ip_elementIndexE g k hk) rfl rfl (Nat.le_of_ble_eq_true rfl) rfl (by decide) (by omega) (by omega) (fun E cs1 hx => ?_) (fun v cs1 hx => ?_)
    · obtain ⟨e1, rfl⟩ := hx
      cases e1
      exact ⟨rfl, rfl, rfl⟩
    · exact absurd hx.1 (by simp)
set_option maxHeartbeats 4000000 in
set_option maxRecDepth 100000 in
theorem C_Ip_poolHas100F (g : zG) (a pa ta sa gs co fu la gy du re wm ac : Nat) (dug : Nat) (gr : Nat → Int64) (ir : Int32) (k : Int32) (e : Nat) (he : e < 4) (hk : z_ix 2 k = nI e) (hi : ir ≤ 0) : CT g M_Ip_poolHas [.ref a, .int 100, .int k] [(a, .inr (11, [.ref pa, .ref ta, .ref sa, .ref gs, .ref co, .ref fu, .ref la, .ref gy, .ref du, .ref re, .ref wm, .ref ac])), (du, .inr (6, [.ref dug, .int ir])), (dug, .inl (3, 4, .inr (.inl gr)))] (fun o cs1 => o = .inr "java/util/NoSuchElementException" ∧ cs1 = [(a, .inr (11, [.ref pa, .ref ta, .ref sa, .ref gs, .ref co, .ref fu, .ref la, .ref gy, .ref du, .ref re, .ref wm, .ref ac])), (du, .inr (6, [.ref dug, .int ir])), (dug, .inl (3, 4, .inr (.inl gr)))]) 2 12 := by
  refine z_of (by decide) rfl (Nat.le_of_ble_eq_true rfl) (fun w0 => ?_)
  refine r_lvE (lv2 := [(0, .ref a), (1, .int 100), (2, .int k)]) rfl ?_
  refine r_aload_n d_Ip_poolHas_0 rfl 0 rfl ?_
  refine r_iload_n d_Ip_poolHas_1 rfl 1 rfl ?_
  refine r_callV (As := [.int 100]) (rest := []) (csC := [(a, .inr (11, [.ref pa, .ref ta, .ref sa, .ref gs, .ref co, .ref fu, .ref la, .ref gy, .ref du, .ref re, .ref wm, .ref ac]))]) (is := [0]) (q0 := 0) rfl rfl ln_Ip_265 w_im_Ip_poolOf w_se_Ip_poolOf ok_Ip_poolHas_Ip_poolOf d_Ip_poolHas_2 (C_Ip_poolOfD g a pa ta sa gs co fu la gy du re wm ac) rfl rfl (Nat.le_of_ble_eq_true rfl) rfl (by decide) (by omega) (by omega) (fun E cs1 hx => ?_) (fun v cs1 hx => ?_)
  · exact absurd hx.1 (by simp)
  · obtain ⟨e1, rfl⟩ := hx
    cases e1
    refine ⟨rfl, ?_⟩
    refine r_st (st2 := [.ref du]) rfl ?_
    refine r_cs (cs2 := [(a, .inr (11, [.ref pa, .ref ta, .ref sa, .ref gs, .ref co, .ref fu, .ref la, .ref gy, .ref du, .ref re, .ref wm, .ref ac])), (du, .inr (6, [.ref dug, .int ir])), (dug, .inl (3, 4, .inr (.inl gr)))]) rfl ?_
    refine r_astore_n (lv' := [(3, .ref du), (0, .ref a), (1, .int 100), (2, .int k)]) d_Ip_poolHas_5 rfl (by decide) rfl ?_
    refine r_aload_n d_Ip_poolHas_6 rfl 0 rfl ?_
    refine r_ifnonnull (tgt := 21) d_Ip_poolHas_7 (by decide) ?_
    refine r_iload_n d_Ip_poolHas_21 rfl 3 rfl ?_
    refine r_callS (As := [.int k]) (rest := []) (csC := []) (is := []) ln_Ip_294 w_st_Ip_elementIndex ok_Ip_poolHas_Ip_elementIndex d_Ip_poolHas_22 (C_Ip_elementIndexN g k e he hk) rfl rfl (Nat.le_of_ble_eq_true rfl) rfl (by decide) (by omega) (by omega) (fun E cs1 hx => ?_) (fun v cs1 hx => ?_)
    · exact absurd hx.1 (by simp)
    · obtain ⟨e1, rfl⟩ := hx
      cases e1
      refine ⟨rfl, ?_⟩
      refine r_st (st2 := [.int (nI e)]) rfl ?_
      refine r_cs (cs2 := [(a, .inr (11, [.ref pa, .ref ta, .ref sa, .ref gs, .ref co, .ref fu, .ref la, .ref gy, .ref du, .ref re, .ref wm, .ref ac])), (du, .inr (6, [.ref dug, .int ir])), (dug, .inl (3, 4, .inr (.inl gr)))]) rfl ?_
      refine r_istore (lv' := [(4, .int (nI e)), (3, .ref du), (0, .ref a), (1, .int 100), (2, .int k)]) d_Ip_poolHas_25 (by decide) rfl ?_
      refine r_aload_n d_Ip_poolHas_27 rfl 1 rfl ?_
      refine r_get fs_Ip_269 d_Ip_poolHas_28 (q0 := 1) rfl rfl ?_
      refine r_if_gt (tgt := 45) d_Ip_poolHas_31 (by decide) (fun c_31 => ?_) (fun c_31 => ?_)
      · exact absurd c_31 (Int32.not_lt.mpr hi)
      · refine r_throwXW tb_Ip_150_154 sr_Ip_368 d_Ip_poolHas_34 d_Ip_poolHas_37 d_Ip_poolHas_38 d_Ip_poolHas_41 d_Ip_poolHas_44 rfl (by decide) (by decide) (Nat.le_of_ble_eq_true rfl) (by omega) (by omega) ?_
        exact ⟨rfl, rfl⟩
set_option maxHeartbeats 4000000 in
set_option maxRecDepth 100000 in
theorem C_Ip_poolHas100N (g : zG) (a pa ta sa gs co fu la gy du re wm ac : Nat) (dug : Nat) (gr : Nat → Int64) (ir : Int32) (k : Int32) (e : Nat) (he : e < 4) (hk : z_ix 2 k = nI e) (hi : ¬ ir ≤ 0) : CT g M_Ip_poolHas [.ref a, .int 100, .int k] [(a, .inr (11, [.ref pa, .ref ta, .ref sa, .ref gs, .ref co, .ref fu, .ref la, .ref gy, .ref du, .ref re, .ref wm, .ref ac])), (du, .inr (6, [.ref dug, .int ir])), (dug, .inl (3, 4, .inr (.inl gr)))] (fun o cs1 => o = .inl (some (.int (poI gr ir e))) ∧ cs1 = [(a, .inr (11, [.ref pa, .ref ta, .ref sa, .ref gs, .ref co, .ref fu, .ref la, .ref gy, .ref du, .ref re, .ref wm, .ref ac])), (du, .inr (6, [.ref dug, .int ir])), (dug, .inl (3, 4, .inr (.inl gr)))]) 2 12 := by
  refine z_of (by decide) rfl (Nat.le_of_ble_eq_true rfl) (fun w0 => ?_)
  refine r_lvE (lv2 := [(0, .ref a), (1, .int 100), (2, .int k)]) rfl ?_
  refine r_aload_n d_Ip_poolHas_0 rfl 0 rfl ?_
  refine r_iload_n d_Ip_poolHas_1 rfl 1 rfl ?_
  refine r_callV (As := [.int 100]) (rest := []) (csC := [(a, .inr (11, [.ref pa, .ref ta, .ref sa, .ref gs, .ref co, .ref fu, .ref la, .ref gy, .ref du, .ref re, .ref wm, .ref ac]))]) (is := [0]) (q0 := 0) rfl rfl ln_Ip_265 w_im_Ip_poolOf w_se_Ip_poolOf ok_Ip_poolHas_Ip_poolOf d_Ip_poolHas_2 (C_Ip_poolOfD g a pa ta sa gs co fu la gy du re wm ac) rfl rfl (Nat.le_of_ble_eq_true rfl) rfl (by decide) (by omega) (by omega) (fun E cs1 hx => ?_) (fun v cs1 hx => ?_)
  · exact absurd hx.1 (by simp)
  · obtain ⟨e1, rfl⟩ := hx
    cases e1
    refine ⟨rfl, ?_⟩
    refine r_st (st2 := [.ref du]) rfl ?_
    refine r_cs (cs2 := [(a, .inr (11, [.ref pa, .ref ta, .ref sa, .ref gs, .ref co, .ref fu, .ref la, .ref gy, .ref du, .ref re, .ref wm, .ref ac])), (du, .inr (6, [.ref dug, .int ir])), (dug, .inl (3, 4, .inr (.inl gr)))]) rfl ?_
    refine r_astore_n (lv' := [(3, .ref du), (0, .ref a), (1, .int 100), (2, .int k)]) d_Ip_poolHas_5 rfl (by decide) rfl ?_
    refine r_aload_n d_Ip_poolHas_6 rfl 0 rfl ?_
    refine r_ifnonnull (tgt := 21) d_Ip_poolHas_7 (by decide) ?_
    refine r_iload_n d_Ip_poolHas_21 rfl 3 rfl ?_
    refine r_callS (As := [.int k]) (rest := []) (csC := []) (is := []) ln_Ip_294 w_st_Ip_elementIndex ok_Ip_poolHas_Ip_elementIndex d_Ip_poolHas_22 (C_Ip_elementIndexN g k e he hk) rfl rfl (Nat.le_of_ble_eq_true rfl) rfl (by decide) (by omega) (by omega) (fun E cs1 hx => ?_) (fun v cs1 hx => ?_)
    · exact absurd hx.1 (by simp)
    · obtain ⟨e1, rfl⟩ := hx
      cases e1
      refine ⟨rfl, ?_⟩
      refine r_st (st2 := [.int (nI e)]) rfl ?_
      refine r_cs (cs2 := [(a, .inr (11, [.ref pa, .ref ta, .ref sa, .ref gs, .ref co, .ref fu, .ref la, .ref gy, .ref du, .ref re, .ref wm, .ref ac])), (du, .inr (6, [.ref dug, .int ir])), (dug, .inl (3, 4, .inr (.inl gr)))]) rfl ?_
      refine r_istore (lv' := [(4, .int (nI e)), (3, .ref du), (0, .ref a), (1, .int 100), (2, .int k)]) d_Ip_poolHas_25 (by decide) rfl ?_
      refine r_aload_n d_Ip_poolHas_27 rfl 1 rfl ?_
      refine r_get fs_Ip_269 d_Ip_poolHas_28 (q0 := 1) rfl rfl ?_
      refine r_if_gt (tgt := 45) d_Ip_poolHas_31 (by decide) (fun c_31 => ?_) (fun c_31 => ?_)
      · refine r_aload_n d_Ip_poolHas_45 rfl 1 rfl ?_
        refine r_iload d_Ip_poolHas_46 0 rfl ?_
        refine r_callV (As := [.int (nI e)]) (rest := []) (csC := [(du, .inr (6, [.ref dug, .int ir])), (dug, .inl (3, 4, .inr (.inl gr)))]) (is := [1, 2]) (q0 := 1) rfl rfl ln_Ip_300 w_im_Me_partOf w_se_Me_partOf ok_Ip_poolHas_Me_partOf d_Ip_poolHas_48 (C_Me_partOf g du dug gr ir e he) rfl rfl (Nat.le_of_ble_eq_true rfl) rfl (by decide) (by omega) (by omega) (fun E cs1 hx => ?_) (fun v cs1 hx => ?_)
        · exact absurd hx.1 (by simp)
        · obtain ⟨e1, rfl⟩ := hx
          cases e1
          refine ⟨rfl, ?_⟩
          refine r_st (st2 := [.int (poI gr ir e)]) rfl ?_
          refine r_cs (cs2 := [(a, .inr (11, [.ref pa, .ref ta, .ref sa, .ref gs, .ref co, .ref fu, .ref la, .ref gy, .ref du, .ref re, .ref wm, .ref ac])), (du, .inr (6, [.ref dug, .int ir])), (dug, .inl (3, 4, .inr (.inl gr)))]) rfl ?_
          refine r_iret d_Ip_poolHas_51 rfl rfl ?_
          exact ⟨rfl, rfl⟩
      · exact absurd (Int32.not_lt.mp c_31) hi
theorem d_Ip_poolHas_10 : decode prog_1_method_32_code 10 = .ok (.new 89, 3) := zo_187 (d := 0) (e := 89) (zd_b zq_prog_1_method_32_code_0 10 rfl rfl rfl) (zd_b zq_prog_1_method_32_code_0 11 rfl rfl rfl) (zd_b zq_prog_1_method_32_code_0 12 rfl rfl rfl)
theorem d_Ip_poolHas_13 : decode prog_1_method_32_code 13 = .ok (.dup, 1) := zo_89 (zd_b zq_prog_1_method_32_code_0 13 rfl rfl rfl)
theorem d_Ip_poolHas_14 : decode prog_1_method_32_code 14 = .ok (.ldc_w 366, 3) := zo_19 (d := 1) (e := 110) (zd_b zq_prog_1_method_32_code_0 14 rfl rfl rfl) (zd_b zq_prog_1_method_32_code_0 15 rfl rfl rfl) (zd_b zq_prog_1_method_32_code_0 16 rfl rfl rfl)
theorem d_Ip_poolHas_17 : decode prog_1_method_32_code 17 = .ok (.invokespecial 93, 3) := zo_183 (d := 0) (e := 93) (zd_b zq_prog_1_method_32_code_0 17 rfl rfl rfl) (zd_b zq_prog_1_method_32_code_0 18 rfl rfl rfl) (zd_b zq_prog_1_method_32_code_0 19 rfl rfl rfl)
theorem d_Ip_poolHas_20 : decode prog_1_method_32_code 20 = .ok (.athrow, 1) := zo_191 (zd_b zq_prog_1_method_32_code_0 20 rfl rfl rfl)
set_option maxHeartbeats 4000000 in
set_option maxRecDepth 100000 in
theorem C_Ip_poolHasE (g : zG) (a pa ta sa gs co fu la gy du re wm ac : Nat) (k k2 : Int32) (h1 : ¬ k = 103) (h2 : ¬ k = 100) : CT g M_Ip_poolHas [.ref a, .int k, .int k2] [(a, .inr (11, [.ref pa, .ref ta, .ref sa, .ref gs, .ref co, .ref fu, .ref la, .ref gy, .ref du, .ref re, .ref wm, .ref ac]))] (fun o cs1 => o = .inr "java/lang/IllegalArgumentException" ∧ cs1 = [(a, .inr (11, [.ref pa, .ref ta, .ref sa, .ref gs, .ref co, .ref fu, .ref la, .ref gy, .ref du, .ref re, .ref wm, .ref ac]))]) 1 6 := by
  refine z_of (by decide) rfl (Nat.le_of_ble_eq_true rfl) (fun w0 => ?_)
  refine r_lvE (lv2 := [(0, .ref a), (1, .int k), (2, .int k2)]) rfl ?_
  refine r_aload_n d_Ip_poolHas_0 rfl 0 rfl ?_
  refine r_iload_n d_Ip_poolHas_1 rfl 1 rfl ?_
  refine r_callV (As := [.int k]) (rest := []) (csC := [(a, .inr (11, [.ref pa, .ref ta, .ref sa, .ref gs, .ref co, .ref fu, .ref la, .ref gy, .ref du, .ref re, .ref wm, .ref ac]))]) (is := [0]) (q0 := 0) rfl rfl ln_Ip_265 w_im_Ip_poolOf w_se_Ip_poolOf ok_Ip_poolHas_Ip_poolOf d_Ip_poolHas_2 (C_Ip_poolOfO g a pa ta sa gs co fu la gy du re wm ac k h1 h2) rfl rfl (Nat.le_of_ble_eq_true rfl) rfl (by decide) (by omega) (by omega) (fun E cs1 hx => ?_) (fun v cs1 hx => ?_)
  · exact absurd hx.1 (by simp)
  · obtain ⟨e1, rfl⟩ := hx
    cases e1
    refine ⟨rfl, ?_⟩
    refine r_st (st2 := [.null]) rfl ?_
    refine r_cs (cs2 := [(a, .inr (11, [.ref pa, .ref ta, .ref sa, .ref gs, .ref co, .ref fu, .ref la, .ref gy, .ref du, .ref re, .ref wm, .ref ac]))]) rfl ?_
    refine r_astore_nN (lv' := [(3, .null), (0, .ref a), (1, .int k), (2, .int k2)]) d_Ip_poolHas_5 rfl (by decide) rfl ?_
    refine r_aload_nN d_Ip_poolHas_6 rfl 0 rfl ?_
    refine r_ifnonnullN d_Ip_poolHas_7 ?_
    refine r_throwW tb_Ip_89_93 sr_Ip_366 d_Ip_poolHas_10 d_Ip_poolHas_13 d_Ip_poolHas_14 d_Ip_poolHas_17 d_Ip_poolHas_20 rfl (by decide) (by decide) (Nat.le_of_ble_eq_true rfl) (by omega) (by omega) ?_
    exact ⟨rfl, rfl⟩
abbrev M_Ip_furnace : zM := (⟨"Ironpour", "furnace", "(C)I"⟩, prog_1_method_24_code, 3, (Option.some FieldType.int), 9, 200, [])
theorem d_Ip_furnace_0 : decode prog_1_method_24_code 0 = .ok (.iload_n 1, 1) := zo_27 (zd_b zq_prog_1_method_24_code_0 0 rfl rfl rfl)
theorem d_Ip_furnace_1 : decode prog_1_method_24_code 1 = .ok (.invokestatic 294, 3) := zo_184 (d := 1) (e := 38) (zd_b zq_prog_1_method_24_code_0 1 rfl rfl rfl) (zd_b zq_prog_1_method_24_code_0 2 rfl rfl rfl) (zd_b zq_prog_1_method_24_code_0 3 rfl rfl rfl)
theorem ok_Ip_furnace_Ip_elementIndex : z_ok M_Ip_furnace M_Ip_elementIndex 1 := ⟨z_mj5 (i := 74) rfl (by decide +kernel), rfl, ⟨by decide +kernel, by decide +kernel, by decide +kernel⟩, ⟨by decide, by decide⟩, z_mj1 (i := 1) rfl (by decide +kernel), rfl⟩
set_option maxHeartbeats 4000000 in
set_option maxRecDepth 100000 in
theorem C_Ip_furnaceE (g : zG) (a pa ta sa gs co fu la gy du re wm ac : Nat) (fub fubg fut1 fut2 fut3 : Nat) (gr : Nat → Int64) (ir : Int32) (io : Int64) (k : Int32) (hk : z_ix 2 k < 0) : CT g M_Ip_furnace [.ref a, .int k] [(a, .inr (11, [.ref pa, .ref ta, .ref sa, .ref gs, .ref co, .ref fu, .ref la, .ref gy, .ref du, .ref re, .ref wm, .ref ac])), (fu, .inr (3, [.ref fub, .ref fut1, .ref fut2, .ref fut3, .long io])), (fub, .inr (6, [.ref fubg, .int ir])), (fubg, .inl (3, 4, .inr (.inl gr)))] (fun o cs1 => o = .inr "java/lang/IllegalArgumentException" ∧ cs1 = [(a, .inr (11, [.ref pa, .ref ta, .ref sa, .ref gs, .ref co, .ref fu, .ref la, .ref gy, .ref du, .ref re, .ref wm, .ref ac])), (fu, .inr (3, [.ref fub, .ref fut1, .ref fut2, .ref fut3, .long io])), (fub, .inr (6, [.ref fubg, .int ir])), (fubg, .inl (3, 4, .inr (.inl gr)))]) 1 6 := by
  refine z_of (by decide) rfl (Nat.le_of_ble_eq_true rfl) (fun w0 => ?_)
  refine r_lvE (lv2 := [(0, .ref a), (1, .int k)]) rfl ?_
  refine r_iload_n d_Ip_furnace_0 rfl 1 rfl ?_
  refine r_callS (As := [.int k]) (rest := []) (csC := []) (is := []) ln_Ip_294 w_st_Ip_elementIndex ok_Ip_furnace_Ip_elementIndex d_Ip_furnace_1 (C_Ip_elementIndexE g k hk) rfl rfl (Nat.le_of_ble_eq_true rfl) rfl (by decide) (by omega) (by omega) (fun E cs1 hx => ?_) (fun v cs1 hx => ?_)
  · obtain ⟨e1, rfl⟩ := hx
    cases e1
    exact ⟨rfl, rfl, rfl⟩
  · exact absurd hx.1 (by simp)
theorem d_Ip_furnace_4 : decode prog_1_method_24_code 4 = .ok (.istore_n 2, 1) := zo_61 (zd_b zq_prog_1_method_24_code_0 4 rfl rfl rfl)
theorem d_Ip_furnace_5 : decode prog_1_method_24_code 5 = .ok (.aload_n 0, 1) := zo_42 (zd_b zq_prog_1_method_24_code_0 5 rfl rfl rfl)
theorem d_Ip_furnace_6 : decode prog_1_method_24_code 6 = .ok (.getfield 43, 3) := zo_180 (d := 0) (e := 43) (zd_b zq_prog_1_method_24_code_0 6 rfl rfl rfl) (zd_b zq_prog_1_method_24_code_0 7 rfl rfl rfl) (zd_b zq_prog_1_method_24_code_0 8 rfl rfl rfl)
theorem d_Ip_furnace_9 : decode prog_1_method_24_code 9 = .ok (.getfield 277, 3) := zo_180 (d := 1) (e := 21) (zd_b zq_prog_1_method_24_code_0 9 rfl rfl rfl) (zd_b zq_prog_1_method_24_code_0 10 rfl rfl rfl) (zd_b zq_prog_1_method_24_code_0 11 rfl rfl rfl)
theorem d_Ip_furnace_12 : decode prog_1_method_24_code 12 = .ok (.getfield 269, 3) := zo_180 (d := 1) (e := 13) (zd_b zq_prog_1_method_24_code_0 12 rfl rfl rfl) (zd_b zq_prog_1_method_24_code_0 13 rfl rfl rfl) (zd_b zq_prog_1_method_24_code_0 14 rfl rfl rfl)
theorem d_Ip_furnace_15 : decode prog_1_method_24_code 15 = .ok (.ifCond .gt 14, 3) := zo_157 (d := 0) (e := 14) (zd_b zq_prog_1_method_24_code_0 15 rfl rfl rfl) (zd_b zq_prog_1_method_24_code_0 16 rfl rfl rfl) (zd_b zq_prog_1_method_24_code_0 17 rfl rfl rfl) (by decide +kernel)
theorem d_Ip_furnace_18 : decode prog_1_method_24_code 18 = .ok (.new 150, 3) := zo_187 (d := 0) (e := 150) (zd_b zq_prog_1_method_24_code_0 18 rfl rfl rfl) (zd_b zq_prog_1_method_24_code_0 19 rfl rfl rfl) (zd_b zq_prog_1_method_24_code_0 20 rfl rfl rfl)
theorem sr_Ip_298 : Cond.stringRef "Ironpour" 298 "no iron in the furnace" ∈ lw_tbl := z_tb5 (i := 77) rfl
theorem d_Ip_furnace_21 : decode prog_1_method_24_code 21 = .ok (.dup, 1) := zo_89 (zd_b zq_prog_1_method_24_code_0 21 rfl rfl rfl)
theorem d_Ip_furnace_22 : decode prog_1_method_24_code 22 = .ok (.ldc_w 298, 3) := zo_19 (d := 1) (e := 42) (zd_b zq_prog_1_method_24_code_0 22 rfl rfl rfl) (zd_b zq_prog_1_method_24_code_0 23 rfl rfl rfl) (zd_b zq_prog_1_method_24_code_0 24 rfl rfl rfl)
theorem d_Ip_furnace_25 : decode prog_1_method_24_code 25 = .ok (.invokespecial 154, 3) := zo_183 (d := 0) (e := 154) (zd_b zq_prog_1_method_24_code_0 25 rfl rfl rfl) (zd_b zq_prog_1_method_24_code_0 26 rfl rfl rfl) (zd_b zq_prog_1_method_24_code_0 27 rfl rfl rfl)
theorem d_Ip_furnace_28 : decode prog_1_method_24_code 28 = .ok (.athrow, 1) := zo_191 (zd_b zq_prog_1_method_24_code_0 28 rfl rfl rfl)
set_option maxHeartbeats 4000000 in
set_option maxRecDepth 100000 in
theorem C_Ip_furnaceF (g : zG) (a pa ta sa gs co fu la gy du re wm ac : Nat) (fub fubg fut1 fut2 fut3 : Nat) (gr : Nat → Int64) (ir : Int32) (io : Int64) (k : Int32) (e : Nat) (he : e < 4) (hk : z_ix 2 k = nI e) (hi : ir ≤ 0) : CT g M_Ip_furnace [.ref a, .int k] [(a, .inr (11, [.ref pa, .ref ta, .ref sa, .ref gs, .ref co, .ref fu, .ref la, .ref gy, .ref du, .ref re, .ref wm, .ref ac])), (fu, .inr (3, [.ref fub, .ref fut1, .ref fut2, .ref fut3, .long io])), (fub, .inr (6, [.ref fubg, .int ir])), (fubg, .inl (3, 4, .inr (.inl gr)))] (fun o cs1 => o = .inr "java/util/NoSuchElementException" ∧ cs1 = [(a, .inr (11, [.ref pa, .ref ta, .ref sa, .ref gs, .ref co, .ref fu, .ref la, .ref gy, .ref du, .ref re, .ref wm, .ref ac])), (fu, .inr (3, [.ref fub, .ref fut1, .ref fut2, .ref fut3, .long io])), (fub, .inr (6, [.ref fubg, .int ir])), (fubg, .inl (3, 4, .inr (.inl gr)))]) 2 12 := by
  refine z_of (by decide) rfl (Nat.le_of_ble_eq_true rfl) (fun w0 => ?_)
  refine r_lvE (lv2 := [(0, .ref a), (1, .int k)]) rfl ?_
  refine r_iload_n d_Ip_furnace_0 rfl 1 rfl ?_
  refine r_callS (As := [.int k]) (rest := []) (csC := []) (is := []) ln_Ip_294 w_st_Ip_elementIndex ok_Ip_furnace_Ip_elementIndex d_Ip_furnace_1 (C_Ip_elementIndexN g k e he hk) rfl rfl (Nat.le_of_ble_eq_true rfl) rfl (by decide) (by omega) (by omega) (fun E cs1 hx => ?_) (fun v cs1 hx => ?_)
  · exact absurd hx.1 (by simp)
  · obtain ⟨e1, rfl⟩ := hx
    cases e1
    refine ⟨rfl, ?_⟩
    refine r_st (st2 := [.int (nI e)]) rfl ?_
    refine r_cs (cs2 := [(a, .inr (11, [.ref pa, .ref ta, .ref sa, .ref gs, .ref co, .ref fu, .ref la, .ref gy, .ref du, .ref re, .ref wm, .ref ac])), (fu, .inr (3, [.ref fub, .ref fut1, .ref fut2, .ref fut3, .long io])), (fub, .inr (6, [.ref fubg, .int ir])), (fubg, .inl (3, 4, .inr (.inl gr)))]) rfl ?_
    refine r_istore_n (lv' := [(2, .int (nI e)), (0, .ref a), (1, .int k)]) d_Ip_furnace_4 rfl (by decide) rfl ?_
    refine r_aload_n d_Ip_furnace_5 rfl 1 rfl ?_
    refine r_get fs_Ip_43 d_Ip_furnace_6 (q0 := 0) rfl rfl ?_
    refine r_get fs_Ip_277 d_Ip_furnace_9 (q0 := 1) rfl rfl ?_
    refine r_get fs_Ip_269 d_Ip_furnace_12 (q0 := 2) rfl rfl ?_
    refine r_if_gt (tgt := 29) d_Ip_furnace_15 (by decide) (fun c_15 => ?_) (fun c_15 => ?_)
    · exact absurd c_15 (Int32.not_lt.mpr hi)
    · refine r_throwXW tb_Ip_150_154 sr_Ip_298 d_Ip_furnace_18 d_Ip_furnace_21 d_Ip_furnace_22 d_Ip_furnace_25 d_Ip_furnace_28 rfl (by decide) (by decide) (Nat.le_of_ble_eq_true rfl) (by omega) (by omega) ?_
      exact ⟨rfl, rfl⟩
theorem d_Ip_furnace_29 : decode prog_1_method_24_code 29 = .ok (.aload_n 0, 1) := zo_42 (zd_b zq_prog_1_method_24_code_0 29 rfl rfl rfl)
theorem d_Ip_furnace_30 : decode prog_1_method_24_code 30 = .ok (.getfield 43, 3) := zo_180 (d := 0) (e := 43) (zd_b zq_prog_1_method_24_code_0 30 rfl rfl rfl) (zd_b zq_prog_1_method_24_code_0 31 rfl rfl rfl) (zd_b zq_prog_1_method_24_code_1 0 rfl rfl rfl)
theorem d_Ip_furnace_33 : decode prog_1_method_24_code 33 = .ok (.getfield 277, 3) := zo_180 (d := 1) (e := 21) (zd_b zq_prog_1_method_24_code_1 1 rfl rfl rfl) (zd_b zq_prog_1_method_24_code_1 2 rfl rfl rfl) (zd_b zq_prog_1_method_24_code_1 3 rfl rfl rfl)
theorem d_Ip_furnace_36 : decode prog_1_method_24_code 36 = .ok (.iload_n 2, 1) := zo_28 (zd_b zq_prog_1_method_24_code_1 4 rfl rfl rfl)
theorem d_Ip_furnace_37 : decode prog_1_method_24_code 37 = .ok (.invokevirtual 300, 3) := zo_182 (d := 1) (e := 44) (zd_b zq_prog_1_method_24_code_1 5 rfl rfl rfl) (zd_b zq_prog_1_method_24_code_1 6 rfl rfl rfl) (zd_b zq_prog_1_method_24_code_1 7 rfl rfl rfl)
theorem ok_Ip_furnace_Me_partOf : z_ok M_Ip_furnace M_Me_partOf 1 := ⟨z_mj5 (i := 81) rfl (by decide +kernel), rfl, ⟨by decide +kernel, by decide +kernel, by decide +kernel⟩, ⟨by decide, by decide⟩, z_mj1 (i := 8) rfl (by decide +kernel), rfl⟩
theorem d_Ip_furnace_40 : decode prog_1_method_24_code 40 = .ok (.ireturn, 1) := zo_172 (zd_b zq_prog_1_method_24_code_1 8 rfl rfl rfl)
set_option maxHeartbeats 4000000 in
set_option maxRecDepth 100000 in
theorem C_Ip_furnaceN (g : zG) (a pa ta sa gs co fu la gy du re wm ac : Nat) (fub fubg fut1 fut2 fut3 : Nat) (gr : Nat → Int64) (ir : Int32) (io : Int64) (k : Int32) (e : Nat) (he : e < 4) (hk : z_ix 2 k = nI e) (hi : ¬ ir ≤ 0) : CT g M_Ip_furnace [.ref a, .int k] [(a, .inr (11, [.ref pa, .ref ta, .ref sa, .ref gs, .ref co, .ref fu, .ref la, .ref gy, .ref du, .ref re, .ref wm, .ref ac])), (fu, .inr (3, [.ref fub, .ref fut1, .ref fut2, .ref fut3, .long io])), (fub, .inr (6, [.ref fubg, .int ir])), (fubg, .inl (3, 4, .inr (.inl gr)))] (fun o cs1 => o = .inl (some (.int (poI gr ir e))) ∧ cs1 = [(a, .inr (11, [.ref pa, .ref ta, .ref sa, .ref gs, .ref co, .ref fu, .ref la, .ref gy, .ref du, .ref re, .ref wm, .ref ac])), (fu, .inr (3, [.ref fub, .ref fut1, .ref fut2, .ref fut3, .long io])), (fub, .inr (6, [.ref fubg, .int ir])), (fubg, .inl (3, 4, .inr (.inl gr)))]) 2 12 := by
  refine z_of (by decide) rfl (Nat.le_of_ble_eq_true rfl) (fun w0 => ?_)
  refine r_lvE (lv2 := [(0, .ref a), (1, .int k)]) rfl ?_
  refine r_iload_n d_Ip_furnace_0 rfl 1 rfl ?_
  refine r_callS (As := [.int k]) (rest := []) (csC := []) (is := []) ln_Ip_294 w_st_Ip_elementIndex ok_Ip_furnace_Ip_elementIndex d_Ip_furnace_1 (C_Ip_elementIndexN g k e he hk) rfl rfl (Nat.le_of_ble_eq_true rfl) rfl (by decide) (by omega) (by omega) (fun E cs1 hx => ?_) (fun v cs1 hx => ?_)
  · exact absurd hx.1 (by simp)
  · obtain ⟨e1, rfl⟩ := hx
    cases e1
    refine ⟨rfl, ?_⟩
    refine r_st (st2 := [.int (nI e)]) rfl ?_
    refine r_cs (cs2 := [(a, .inr (11, [.ref pa, .ref ta, .ref sa, .ref gs, .ref co, .ref fu, .ref la, .ref gy, .ref du, .ref re, .ref wm, .ref ac])), (fu, .inr (3, [.ref fub, .ref fut1, .ref fut2, .ref fut3, .long io])), (fub, .inr (6, [.ref fubg, .int ir])), (fubg, .inl (3, 4, .inr (.inl gr)))]) rfl ?_
    refine r_istore_n (lv' := [(2, .int (nI e)), (0, .ref a), (1, .int k)]) d_Ip_furnace_4 rfl (by decide) rfl ?_
    refine r_aload_n d_Ip_furnace_5 rfl 1 rfl ?_
    refine r_get fs_Ip_43 d_Ip_furnace_6 (q0 := 0) rfl rfl ?_
    refine r_get fs_Ip_277 d_Ip_furnace_9 (q0 := 1) rfl rfl ?_
    refine r_get fs_Ip_269 d_Ip_furnace_12 (q0 := 2) rfl rfl ?_
    refine r_if_gt (tgt := 29) d_Ip_furnace_15 (by decide) (fun c_15 => ?_) (fun c_15 => ?_)
    · refine r_aload_n d_Ip_furnace_29 rfl 1 rfl ?_
      refine r_get fs_Ip_43 d_Ip_furnace_30 (q0 := 0) rfl rfl ?_
      refine r_get fs_Ip_277 d_Ip_furnace_33 (q0 := 1) rfl rfl ?_
      refine r_iload_n d_Ip_furnace_36 rfl 0 rfl ?_
      refine r_callV (As := [.int (nI e)]) (rest := []) (csC := [(fub, .inr (6, [.ref fubg, .int ir])), (fubg, .inl (3, 4, .inr (.inl gr)))]) (is := [2, 3]) (q0 := 2) rfl rfl ln_Ip_300 w_im_Me_partOf w_se_Me_partOf ok_Ip_furnace_Me_partOf d_Ip_furnace_37 (C_Me_partOf g fub fubg gr ir e he) rfl rfl (Nat.le_of_ble_eq_true rfl) rfl (by decide) (by omega) (by omega) (fun E cs1 hx => ?_) (fun v cs1 hx => ?_)
      · exact absurd hx.1 (by simp)
      · obtain ⟨e1, rfl⟩ := hx
        cases e1
        refine ⟨rfl, ?_⟩
        refine r_st (st2 := [.int (poI gr ir e)]) rfl ?_
        refine r_cs (cs2 := [(a, .inr (11, [.ref pa, .ref ta, .ref sa, .ref gs, .ref co, .ref fu, .ref la, .ref gy, .ref du, .ref re, .ref wm, .ref ac])), (fu, .inr (3, [.ref fub, .ref fut1, .ref fut2, .ref fut3, .long io])), (fub, .inr (6, [.ref fubg, .int ir])), (fubg, .inl (3, 4, .inr (.inl gr)))]) rfl ?_
        refine r_iret d_Ip_furnace_40 rfl rfl ?_
        exact ⟨rfl, rfl⟩
    · exact absurd (Int32.not_lt.mp c_15) hi
abbrev M_Ip_ladle : zM := (⟨"Ironpour", "ladle", "(C)I"⟩, prog_1_method_29_code, 2, (Option.some FieldType.int), 8, 179, [])
theorem d_Ip_ladle_0 : decode prog_1_method_29_code 0 = .ok (.ldc_w 355, 3) := zo_19 (d := 1) (e := 99) (zd_b zq_prog_1_method_29_code_0 0 rfl rfl rfl) (zd_b zq_prog_1_method_29_code_0 1 rfl rfl rfl) (zd_b zq_prog_1_method_29_code_0 2 rfl rfl rfl)
theorem d_Ip_ladle_3 : decode prog_1_method_29_code 3 = .ok (.iload_n 1, 1) := zo_27 (zd_b zq_prog_1_method_29_code_0 3 rfl rfl rfl)
theorem d_Ip_ladle_4 : decode prog_1_method_29_code 4 = .ok (.invokevirtual 83, 3) := zo_182 (d := 0) (e := 83) (zd_b zq_prog_1_method_29_code_0 4 rfl rfl rfl) (zd_b zq_prog_1_method_29_code_0 5 rfl rfl rfl) (zd_b zq_prog_1_method_29_code_0 6 rfl rfl rfl)
theorem ok_Ip_ladle_String_indexOf_0 : z_ok M_Ip_ladle M_String_indexOf_0 1 := ⟨z_mj3 (i := 58) rfl (by decide +kernel), rfl, ⟨by decide +kernel, by decide +kernel, by decide +kernel⟩, ⟨by decide, by decide⟩, z_mj1 (i := 15) rfl (by decide +kernel), rfl⟩
theorem d_Ip_ladle_7 : decode prog_1_method_29_code 7 = .ok (.ifCond .ge 14, 3) := zo_156 (d := 0) (e := 14) (zd_b zq_prog_1_method_29_code_0 7 rfl rfl rfl) (zd_b zq_prog_1_method_29_code_0 8 rfl rfl rfl) (zd_b zq_prog_1_method_29_code_0 9 rfl rfl rfl) (by decide +kernel)
theorem d_Ip_ladle_10 : decode prog_1_method_29_code 10 = .ok (.new 89, 3) := zo_187 (d := 0) (e := 89) (zd_b zq_prog_1_method_29_code_0 10 rfl rfl rfl) (zd_b zq_prog_1_method_29_code_0 11 rfl rfl rfl) (zd_b zq_prog_1_method_29_code_0 12 rfl rfl rfl)
theorem sr_Ip_357 : Cond.stringRef "Ironpour" 357 "a ladle has no such thing" ∈ lw_tbl := z_tb5 (i := 154) rfl
theorem d_Ip_ladle_13 : decode prog_1_method_29_code 13 = .ok (.dup, 1) := zo_89 (zd_b zq_prog_1_method_29_code_0 13 rfl rfl rfl)
theorem d_Ip_ladle_14 : decode prog_1_method_29_code 14 = .ok (.ldc_w 357, 3) := zo_19 (d := 1) (e := 101) (zd_b zq_prog_1_method_29_code_0 14 rfl rfl rfl) (zd_b zq_prog_1_method_29_code_0 15 rfl rfl rfl) (zd_b zq_prog_1_method_29_code_0 16 rfl rfl rfl)
theorem d_Ip_ladle_17 : decode prog_1_method_29_code 17 = .ok (.invokespecial 93, 3) := zo_183 (d := 0) (e := 93) (zd_b zq_prog_1_method_29_code_0 17 rfl rfl rfl) (zd_b zq_prog_1_method_29_code_0 18 rfl rfl rfl) (zd_b zq_prog_1_method_29_code_0 19 rfl rfl rfl)
theorem d_Ip_ladle_20 : decode prog_1_method_29_code 20 = .ok (.athrow, 1) := zo_191 (zd_b zq_prog_1_method_29_code_0 20 rfl rfl rfl)
set_option maxHeartbeats 4000000 in
set_option maxRecDepth 100000 in
theorem C_Ip_ladleE (g : zG) (a pa ta sa gs co fu la gy du re wm ac : Nat) (lab labg : Nat) (gr : Nat → Int64) (he mg wd ir : Int32) (w : Int32) (hw : z_ix 3 w < 0) : CT g M_Ip_ladle [.ref a, .int w] [(a, .inr (11, [.ref pa, .ref ta, .ref sa, .ref gs, .ref co, .ref fu, .ref la, .ref gy, .ref du, .ref re, .ref wm, .ref ac])), (la, .inr (5, [.ref lab, .int he, .int mg, .int wd])), (lab, .inr (6, [.ref labg, .int ir])), (labg, .inl (3, 4, .inr (.inl gr)))] (fun o cs1 => o = .inr "java/lang/IllegalArgumentException" ∧ cs1 = [(a, .inr (11, [.ref pa, .ref ta, .ref sa, .ref gs, .ref co, .ref fu, .ref la, .ref gy, .ref du, .ref re, .ref wm, .ref ac])), (la, .inr (5, [.ref lab, .int he, .int mg, .int wd])), (lab, .inr (6, [.ref labg, .int ir])), (labg, .inl (3, 4, .inr (.inl gr)))]) 1 6 := by
  refine z_of (by decide) rfl (Nat.le_of_ble_eq_true rfl) (fun w0 => ?_)
  refine r_lvE (lv2 := [(0, .ref a), (1, .int w)]) rfl ?_
  refine r_ldcWS (own := "Ironpour") (i := 3) (by decide) d_Ip_ladle_0 ?_
  refine r_iload_n d_Ip_ladle_3 rfl 1 rfl ?_
  refine r_callVS (As := [.int w]) (rest := []) (csC := []) (is := []) (i := 3) (by first | assumption | decide) rfl ln_Ip_83 w_im_String_indexOf_0 w_se_String_indexOf_0 ok_Ip_ladle_String_indexOf_0 d_Ip_ladle_4 (C_St_indexOf g 3 (by decide) w) rfl rfl (Nat.le_of_ble_eq_true rfl) rfl (by decide) (by omega) (by omega) (fun E cs1 hx => ?_) (fun v cs1 hx => ?_)
  · exact absurd hx.1 (by simp)
  · obtain ⟨e1, rfl⟩ := hx
    cases e1
    refine ⟨rfl, ?_⟩
    refine r_st (st2 := [.int (z_ix 3 w)]) rfl ?_
    refine r_cs (cs2 := [(a, .inr (11, [.ref pa, .ref ta, .ref sa, .ref gs, .ref co, .ref fu, .ref la, .ref gy, .ref du, .ref re, .ref wm, .ref ac])), (la, .inr (5, [.ref lab, .int he, .int mg, .int wd])), (lab, .inr (6, [.ref labg, .int ir])), (labg, .inl (3, 4, .inr (.inl gr)))]) rfl ?_
    refine r_if_ge (tgt := 21) d_Ip_ladle_7 (by decide) (fun c_7 => ?_) (fun c_7 => ?_)
    · exact absurd hw (Int32.not_lt.mpr c_7)
    · refine r_throwW tb_Ip_89_93 sr_Ip_357 d_Ip_ladle_10 d_Ip_ladle_13 d_Ip_ladle_14 d_Ip_ladle_17 d_Ip_ladle_20 rfl (by decide) (by decide) (Nat.le_of_ble_eq_true rfl) (by omega) (by omega) ?_
      exact ⟨rfl, rfl⟩
theorem d_Ip_ladle_21 : decode prog_1_method_29_code 21 = .ok (.aload_n 0, 1) := zo_42 (zd_b zq_prog_1_method_29_code_0 21 rfl rfl rfl)
theorem d_Ip_ladle_22 : decode prog_1_method_29_code 22 = .ok (.getfield 50, 3) := zo_180 (d := 0) (e := 50) (zd_b zq_prog_1_method_29_code_0 22 rfl rfl rfl) (zd_b zq_prog_1_method_29_code_0 23 rfl rfl rfl) (zd_b zq_prog_1_method_29_code_0 24 rfl rfl rfl)
theorem d_Ip_ladle_25 : decode prog_1_method_29_code 25 = .ok (.invokevirtual 314, 3) := zo_182 (d := 1) (e := 58) (zd_b zq_prog_1_method_29_code_0 25 rfl rfl rfl) (zd_b zq_prog_1_method_29_code_0 26 rfl rfl rfl) (zd_b zq_prog_1_method_29_code_0 27 rfl rfl rfl)
theorem ok_Ip_ladle_La_isEmpty : z_ok M_Ip_ladle M_La_isEmpty 0 := ⟨z_mj5 (i := 110) rfl (by decide +kernel), rfl, ⟨by decide +kernel, by decide +kernel, by decide +kernel⟩, ⟨by decide, by decide⟩, z_mj1 (i := 9) rfl (by decide +kernel), rfl⟩
theorem d_Ip_ladle_28 : decode prog_1_method_29_code 28 = .ok (.ifCond .eq 5, 3) := zo_153 (d := 0) (e := 5) (zd_b zq_prog_1_method_29_code_0 28 rfl rfl rfl) (zd_b zq_prog_1_method_29_code_0 29 rfl rfl rfl) (zd_b zq_prog_1_method_29_code_0 30 rfl rfl rfl) (by decide +kernel)
theorem d_Ip_ladle_31 : decode prog_1_method_29_code 31 = .ok (.iconst 0, 1) := zo_3 (zd_b zq_prog_1_method_29_code_0 31 rfl rfl rfl)
theorem d_Ip_ladle_32 : decode prog_1_method_29_code 32 = .ok (.ireturn, 1) := zo_172 (zd_b zq_prog_1_method_29_code_1 0 rfl rfl rfl)
set_option maxHeartbeats 4000000 in
set_option maxRecDepth 100000 in
theorem C_Ip_ladle0 (g : zG) (a pa ta sa gs co fu la gy du re wm ac : Nat) (lab labg : Nat) (gr : Nat → Int64) (he mg wd ir : Int32) (w : Int32) (hw : ¬ z_ix 3 w < 0) (he0 : ir = 0) : CT g M_Ip_ladle [.ref a, .int w] [(a, .inr (11, [.ref pa, .ref ta, .ref sa, .ref gs, .ref co, .ref fu, .ref la, .ref gy, .ref du, .ref re, .ref wm, .ref ac])), (la, .inr (5, [.ref lab, .int he, .int mg, .int wd])), (lab, .inr (6, [.ref labg, .int ir])), (labg, .inl (3, 4, .inr (.inl gr)))] (fun o cs1 => o = .inl (some (.int 0)) ∧ cs1 = [(a, .inr (11, [.ref pa, .ref ta, .ref sa, .ref gs, .ref co, .ref fu, .ref la, .ref gy, .ref du, .ref re, .ref wm, .ref ac])), (la, .inr (5, [.ref lab, .int he, .int mg, .int wd])), (lab, .inr (6, [.ref labg, .int ir])), (labg, .inl (3, 4, .inr (.inl gr)))]) 1 6 := by
  refine z_of (by decide) rfl (Nat.le_of_ble_eq_true rfl) (fun w0 => ?_)
  refine r_lvE (lv2 := [(0, .ref a), (1, .int w)]) rfl ?_
  refine r_ldcWS (own := "Ironpour") (i := 3) (by decide) d_Ip_ladle_0 ?_
  refine r_iload_n d_Ip_ladle_3 rfl 1 rfl ?_
  refine r_callVS (As := [.int w]) (rest := []) (csC := []) (is := []) (i := 3) (by first | assumption | decide) rfl ln_Ip_83 w_im_String_indexOf_0 w_se_String_indexOf_0 ok_Ip_ladle_String_indexOf_0 d_Ip_ladle_4 (C_St_indexOf g 3 (by decide) w) rfl rfl (Nat.le_of_ble_eq_true rfl) rfl (by decide) (by omega) (by omega) (fun E cs1 hx => ?_) (fun v cs1 hx => ?_)
  · exact absurd hx.1 (by simp)
  · obtain ⟨e1, rfl⟩ := hx
    cases e1
    refine ⟨rfl, ?_⟩
    refine r_st (st2 := [.int (z_ix 3 w)]) rfl ?_
    refine r_cs (cs2 := [(a, .inr (11, [.ref pa, .ref ta, .ref sa, .ref gs, .ref co, .ref fu, .ref la, .ref gy, .ref du, .ref re, .ref wm, .ref ac])), (la, .inr (5, [.ref lab, .int he, .int mg, .int wd])), (lab, .inr (6, [.ref labg, .int ir])), (labg, .inl (3, 4, .inr (.inl gr)))]) rfl ?_
    refine r_if_ge (tgt := 21) d_Ip_ladle_7 (by decide) (fun c_7 => ?_) (fun c_7 => ?_)
    · refine r_aload_n d_Ip_ladle_21 rfl 0 rfl ?_
      refine r_get fs_Ip_50 d_Ip_ladle_22 (q0 := 0) rfl rfl ?_
      refine r_callV (As := []) (rest := []) (csC := [(la, .inr (5, [.ref lab, .int he, .int mg, .int wd])), (lab, .inr (6, [.ref labg, .int ir])), (labg, .inl (3, 4, .inr (.inl gr)))]) (is := [1, 2, 3]) (q0 := 1) rfl rfl ln_Ip_314 w_im_La_isEmpty w_se_La_isEmpty ok_Ip_ladle_La_isEmpty d_Ip_ladle_25 (C_La_isEmpty g la lab labg gr he mg wd ir) rfl rfl (Nat.le_of_ble_eq_true rfl) rfl (by decide) (by omega) (by omega) (fun E cs1 hx => ?_) (fun v cs1 hx => ?_)
      · exact absurd hx.1 (by simp)
      · obtain ⟨e1, rfl⟩ := hx
        cases e1
        refine ⟨rfl, ?_⟩
        refine r_st (st2 := [.int (if ir = 0 then 1 else 0)]) rfl ?_
        refine r_cs (cs2 := [(a, .inr (11, [.ref pa, .ref ta, .ref sa, .ref gs, .ref co, .ref fu, .ref la, .ref gy, .ref du, .ref re, .ref wm, .ref ac])), (la, .inr (5, [.ref lab, .int he, .int mg, .int wd])), (lab, .inr (6, [.ref labg, .int ir])), (labg, .inl (3, 4, .inr (.inl gr)))]) rfl ?_
        refine r_if_eq (tgt := 33) d_Ip_ladle_28 (by decide) (fun c_28 => ?_) (fun c_28 => ?_)
        · exact absurd he0 (z_b0 c_28)
        · refine r_iconst d_Ip_ladle_31 (v := 0) (by decide) ?_
          refine r_iret d_Ip_ladle_32 rfl rfl ?_
          exact ⟨rfl, rfl⟩
    · exact absurd (Int32.not_le.mp c_7) hw
theorem d_Ip_ladle_33 : decode prog_1_method_29_code 33 = .ok (.iload_n 1, 1) := zo_27 (zd_b zq_prog_1_method_29_code_1 1 rfl rfl rfl)
theorem d_Ip_ladle_34 : decode prog_1_method_29_code 34 = .ok (.lookupswitch 45 #[(104, 37), (119, 26)], 26) := by decide +kernel
theorem d_Ip_ladle_60 : decode prog_1_method_29_code 60 = .ok (.aload_n 0, 1) := zo_42 (zd_b zq_prog_1_method_29_code_1 28 rfl rfl rfl)
theorem d_Ip_ladle_61 : decode prog_1_method_29_code 61 = .ok (.getfield 50, 3) := zo_180 (d := 0) (e := 50) (zd_b zq_prog_1_method_29_code_1 29 rfl rfl rfl) (zd_b zq_prog_1_method_29_code_1 30 rfl rfl rfl) (zd_b zq_prog_1_method_29_code_1 31 rfl rfl rfl)
theorem d_Ip_ladle_64 : decode prog_1_method_29_code 64 = .ok (.getfield 359, 3) := zo_180 (d := 1) (e := 103) (zd_b zq_prog_1_method_29_code_2 0 rfl rfl rfl) (zd_b zq_prog_1_method_29_code_2 1 rfl rfl rfl) (zd_b zq_prog_1_method_29_code_2 2 rfl rfl rfl)
theorem d_Ip_ladle_67 : decode prog_1_method_29_code 67 = .ok (.getfield 269, 3) := zo_180 (d := 1) (e := 13) (zd_b zq_prog_1_method_29_code_2 3 rfl rfl rfl) (zd_b zq_prog_1_method_29_code_2 4 rfl rfl rfl) (zd_b zq_prog_1_method_29_code_2 5 rfl rfl rfl)
theorem d_Ip_ladle_70 : decode prog_1_method_29_code 70 = .ok (.ireturn, 1) := zo_172 (zd_b zq_prog_1_method_29_code_2 6 rfl rfl rfl)
set_option maxHeartbeats 4000000 in
set_option maxRecDepth 100000 in
theorem C_Ip_ladle119 (g : zG) (a pa ta sa gs co fu la gy du re wm ac : Nat) (lab labg : Nat) (gr : Nat → Int64) (he mg wd ir : Int32) (he0 : ¬ ir = 0) : CT g M_Ip_ladle [.ref a, .int 119] [(a, .inr (11, [.ref pa, .ref ta, .ref sa, .ref gs, .ref co, .ref fu, .ref la, .ref gy, .ref du, .ref re, .ref wm, .ref ac])), (la, .inr (5, [.ref lab, .int he, .int mg, .int wd])), (lab, .inr (6, [.ref labg, .int ir])), (labg, .inl (3, 4, .inr (.inl gr)))] (fun o cs1 => o = .inl (some (.int ir)) ∧ cs1 = [(a, .inr (11, [.ref pa, .ref ta, .ref sa, .ref gs, .ref co, .ref fu, .ref la, .ref gy, .ref du, .ref re, .ref wm, .ref ac])), (la, .inr (5, [.ref lab, .int he, .int mg, .int wd])), (lab, .inr (6, [.ref labg, .int ir])), (labg, .inl (3, 4, .inr (.inl gr)))]) 1 6 := by
  refine z_of (by decide) rfl (Nat.le_of_ble_eq_true rfl) (fun w0 => ?_)
  refine r_lvE (lv2 := [(0, .ref a), (1, .int 119)]) rfl ?_
  refine r_ldcWS (own := "Ironpour") (i := 3) (by decide) d_Ip_ladle_0 ?_
  refine r_iload_n d_Ip_ladle_3 rfl 1 rfl ?_
  refine r_callVS (As := [.int 119]) (rest := []) (csC := []) (is := []) (i := 3) (by first | assumption | decide) rfl ln_Ip_83 w_im_String_indexOf_0 w_se_String_indexOf_0 ok_Ip_ladle_String_indexOf_0 d_Ip_ladle_4 (C_St_indexOf g 3 (by decide) 119) rfl rfl (Nat.le_of_ble_eq_true rfl) rfl (by decide) (by omega) (by omega) (fun E cs1 hx => ?_) (fun v cs1 hx => ?_)
  · exact absurd hx.1 (by simp)
  · obtain ⟨e1, rfl⟩ := hx
    cases e1
    refine ⟨rfl, ?_⟩
    refine r_st (st2 := [.int (z_ix 3 119)]) rfl ?_
    refine r_cs (cs2 := [(a, .inr (11, [.ref pa, .ref ta, .ref sa, .ref gs, .ref co, .ref fu, .ref la, .ref gy, .ref du, .ref re, .ref wm, .ref ac])), (la, .inr (5, [.ref lab, .int he, .int mg, .int wd])), (lab, .inr (6, [.ref labg, .int ir])), (labg, .inl (3, 4, .inr (.inl gr)))]) rfl ?_
    refine r_if_ge (tgt := 21) d_Ip_ladle_7 (by decide) (fun c_7 => ?_) (fun c_7 => ?_)
    · refine r_aload_n d_Ip_ladle_21 rfl 0 rfl ?_
      refine r_get fs_Ip_50 d_Ip_ladle_22 (q0 := 0) rfl rfl ?_
      refine r_callV (As := []) (rest := []) (csC := [(la, .inr (5, [.ref lab, .int he, .int mg, .int wd])), (lab, .inr (6, [.ref labg, .int ir])), (labg, .inl (3, 4, .inr (.inl gr)))]) (is := [1, 2, 3]) (q0 := 1) rfl rfl ln_Ip_314 w_im_La_isEmpty w_se_La_isEmpty ok_Ip_ladle_La_isEmpty d_Ip_ladle_25 (C_La_isEmpty g la lab labg gr he mg wd ir) rfl rfl (Nat.le_of_ble_eq_true rfl) rfl (by decide) (by omega) (by omega) (fun E cs1 hx => ?_) (fun v cs1 hx => ?_)
      · exact absurd hx.1 (by simp)
      · obtain ⟨e1, rfl⟩ := hx
        cases e1
        refine ⟨rfl, ?_⟩
        refine r_st (st2 := [.int (if ir = 0 then 1 else 0)]) rfl ?_
        refine r_cs (cs2 := [(a, .inr (11, [.ref pa, .ref ta, .ref sa, .ref gs, .ref co, .ref fu, .ref la, .ref gy, .ref du, .ref re, .ref wm, .ref ac])), (la, .inr (5, [.ref lab, .int he, .int mg, .int wd])), (lab, .inr (6, [.ref labg, .int ir])), (labg, .inl (3, 4, .inr (.inl gr)))]) rfl ?_
        refine r_if_eq (tgt := 33) d_Ip_ladle_28 (by decide) (fun c_28 => ?_) (fun c_28 => ?_)
        · refine r_iload_n d_Ip_ladle_33 rfl 1 rfl ?_
          · refine r_lookup (off := 26) (tgt := 60) d_Ip_ladle_34 (by decide) (by decide) (by decide) ?_
            refine r_aload_n d_Ip_ladle_60 rfl 0 rfl ?_
            refine r_get fs_Ip_50 d_Ip_ladle_61 (q0 := 0) rfl rfl ?_
            refine r_get fs_Ip_359 d_Ip_ladle_64 (q0 := 1) rfl rfl ?_
            refine r_get fs_Ip_269 d_Ip_ladle_67 (q0 := 2) rfl rfl ?_
            refine r_iret d_Ip_ladle_70 rfl rfl ?_
            exact ⟨rfl, rfl⟩
        · exact absurd (z_b1 c_28) he0
    · exact absurd c_7 (by decide)
theorem d_Ip_ladle_71 : decode prog_1_method_29_code 71 = .ok (.aload_n 0, 1) := zo_42 (zd_b zq_prog_1_method_29_code_2 7 rfl rfl rfl)
theorem d_Ip_ladle_72 : decode prog_1_method_29_code 72 = .ok (.getfield 50, 3) := zo_180 (d := 0) (e := 50) (zd_b zq_prog_1_method_29_code_2 8 rfl rfl rfl) (zd_b zq_prog_1_method_29_code_2 9 rfl rfl rfl) (zd_b zq_prog_1_method_29_code_2 10 rfl rfl rfl)
theorem d_Ip_ladle_75 : decode prog_1_method_29_code 75 = .ok (.getfield 353, 3) := zo_180 (d := 1) (e := 97) (zd_b zq_prog_1_method_29_code_2 11 rfl rfl rfl) (zd_b zq_prog_1_method_29_code_2 12 rfl rfl rfl) (zd_b zq_prog_1_method_29_code_2 13 rfl rfl rfl)
theorem fs_Ip_353 : z_fs "Ironpour" 353 5 1 := ⟨R_La, "Ironpour$Ladle", F_La, 4, rfl, u_La, by decide, Or.inr ⟨"Ironpour", z_mk2 (i := 2) rfl (by decide +kernel), rfl⟩⟩
theorem d_Ip_ladle_78 : decode prog_1_method_29_code 78 = .ok (.ireturn, 1) := zo_172 (zd_b zq_prog_1_method_29_code_2 14 rfl rfl rfl)
set_option maxHeartbeats 4000000 in
set_option maxRecDepth 100000 in
theorem C_Ip_ladle104 (g : zG) (a pa ta sa gs co fu la gy du re wm ac : Nat) (lab labg : Nat) (gr : Nat → Int64) (he mg wd ir : Int32) (he0 : ¬ ir = 0) : CT g M_Ip_ladle [.ref a, .int 104] [(a, .inr (11, [.ref pa, .ref ta, .ref sa, .ref gs, .ref co, .ref fu, .ref la, .ref gy, .ref du, .ref re, .ref wm, .ref ac])), (la, .inr (5, [.ref lab, .int he, .int mg, .int wd])), (lab, .inr (6, [.ref labg, .int ir])), (labg, .inl (3, 4, .inr (.inl gr)))] (fun o cs1 => o = .inl (some (.int he)) ∧ cs1 = [(a, .inr (11, [.ref pa, .ref ta, .ref sa, .ref gs, .ref co, .ref fu, .ref la, .ref gy, .ref du, .ref re, .ref wm, .ref ac])), (la, .inr (5, [.ref lab, .int he, .int mg, .int wd])), (lab, .inr (6, [.ref labg, .int ir])), (labg, .inl (3, 4, .inr (.inl gr)))]) 1 6 := by
  refine z_of (by decide) rfl (Nat.le_of_ble_eq_true rfl) (fun w0 => ?_)
  refine r_lvE (lv2 := [(0, .ref a), (1, .int 104)]) rfl ?_
  refine r_ldcWS (own := "Ironpour") (i := 3) (by decide) d_Ip_ladle_0 ?_
  refine r_iload_n d_Ip_ladle_3 rfl 1 rfl ?_
  refine r_callVS (As := [.int 104]) (rest := []) (csC := []) (is := []) (i := 3) (by first | assumption | decide) rfl ln_Ip_83 w_im_String_indexOf_0 w_se_String_indexOf_0 ok_Ip_ladle_String_indexOf_0 d_Ip_ladle_4 (C_St_indexOf g 3 (by decide) 104) rfl rfl (Nat.le_of_ble_eq_true rfl) rfl (by decide) (by omega) (by omega) (fun E cs1 hx => ?_) (fun v cs1 hx => ?_)
  · exact absurd hx.1 (by simp)
  · obtain ⟨e1, rfl⟩ := hx
    cases e1
    refine ⟨rfl, ?_⟩
    refine r_st (st2 := [.int (z_ix 3 104)]) rfl ?_
    refine r_cs (cs2 := [(a, .inr (11, [.ref pa, .ref ta, .ref sa, .ref gs, .ref co, .ref fu, .ref la, .ref gy, .ref du, .ref re, .ref wm, .ref ac])), (la, .inr (5, [.ref lab, .int he, .int mg, .int wd])), (lab, .inr (6, [.ref labg, .int ir])), (labg, .inl (3, 4, .inr (.inl gr)))]) rfl ?_
    refine r_if_ge (tgt := 21) d_Ip_ladle_7 (by decide) (fun c_7 => ?_) (fun c_7 => ?_)
    · refine r_aload_n d_Ip_ladle_21 rfl 0 rfl ?_
      refine r_get fs_Ip_50 d_Ip_ladle_22 (q0 := 0) rfl rfl ?_
      refine r_callV (As := []) (rest := []) (csC := [(la, .inr (5, [.ref lab, .int he, .int mg, .int wd])), (lab, .inr (6, [.ref labg, .int ir])), (labg, .inl (3, 4, .inr (.inl gr)))]) (is := [1, 2, 3]) (q0 := 1) rfl rfl ln_Ip_314 w_im_La_isEmpty w_se_La_isEmpty ok_Ip_ladle_La_isEmpty d_Ip_ladle_25 (C_La_isEmpty g la lab labg gr he mg wd ir) rfl rfl (Nat.le_of_ble_eq_true rfl) rfl (by decide) (by omega) (by omega) (fun E cs1 hx => ?_) (fun v cs1 hx => ?_)
      · exact absurd hx.1 (by simp)
      · obtain ⟨e1, rfl⟩ := hx
        cases e1
        refine ⟨rfl, ?_⟩
        refine r_st (st2 := [.int (if ir = 0 then 1 else 0)]) rfl ?_
        refine r_cs (cs2 := [(a, .inr (11, [.ref pa, .ref ta, .ref sa, .ref gs, .ref co, .ref fu, .ref la, .ref gy, .ref du, .ref re, .ref wm, .ref ac])), (la, .inr (5, [.ref lab, .int he, .int mg, .int wd])), (lab, .inr (6, [.ref labg, .int ir])), (labg, .inl (3, 4, .inr (.inl gr)))]) rfl ?_
        refine r_if_eq (tgt := 33) d_Ip_ladle_28 (by decide) (fun c_28 => ?_) (fun c_28 => ?_)
        · refine r_iload_n d_Ip_ladle_33 rfl 1 rfl ?_
          · refine r_lookup (off := 37) (tgt := 71) d_Ip_ladle_34 (by decide) (by decide) (by decide) ?_
            refine r_aload_n d_Ip_ladle_71 rfl 0 rfl ?_
            refine r_get fs_Ip_50 d_Ip_ladle_72 (q0 := 0) rfl rfl ?_
            refine r_get fs_Ip_353 d_Ip_ladle_75 (q0 := 1) rfl rfl ?_
            refine r_iret d_Ip_ladle_78 rfl rfl ?_
            exact ⟨rfl, rfl⟩
        · exact absurd (z_b1 c_28) he0
    · exact absurd c_7 (by decide)
theorem d_Ip_ladle_79 : decode prog_1_method_29_code 79 = .ok (.aload_n 0, 1) := zo_42 (zd_b zq_prog_1_method_29_code_2 15 rfl rfl rfl)
theorem d_Ip_ladle_80 : decode prog_1_method_29_code 80 = .ok (.getfield 50, 3) := zo_180 (d := 0) (e := 50) (zd_b zq_prog_1_method_29_code_2 16 rfl rfl rfl) (zd_b zq_prog_1_method_29_code_2 17 rfl rfl rfl) (zd_b zq_prog_1_method_29_code_2 18 rfl rfl rfl)
theorem d_Ip_ladle_83 : decode prog_1_method_29_code 83 = .ok (.getfield 328, 3) := zo_180 (d := 1) (e := 72) (zd_b zq_prog_1_method_29_code_2 19 rfl rfl rfl) (zd_b zq_prog_1_method_29_code_2 20 rfl rfl rfl) (zd_b zq_prog_1_method_29_code_2 21 rfl rfl rfl)
theorem d_Ip_ladle_86 : decode prog_1_method_29_code 86 = .ok (.ireturn, 1) := zo_172 (zd_b zq_prog_1_method_29_code_2 22 rfl rfl rfl)
set_option maxHeartbeats 4000000 in
set_option maxRecDepth 100000 in
theorem C_Ip_ladle109 (g : zG) (a pa ta sa gs co fu la gy du re wm ac : Nat) (lab labg : Nat) (gr : Nat → Int64) (he mg wd ir : Int32) (he0 : ¬ ir = 0) : CT g M_Ip_ladle [.ref a, .int 109] [(a, .inr (11, [.ref pa, .ref ta, .ref sa, .ref gs, .ref co, .ref fu, .ref la, .ref gy, .ref du, .ref re, .ref wm, .ref ac])), (la, .inr (5, [.ref lab, .int he, .int mg, .int wd])), (lab, .inr (6, [.ref labg, .int ir])), (labg, .inl (3, 4, .inr (.inl gr)))] (fun o cs1 => o = .inl (some (.int mg)) ∧ cs1 = [(a, .inr (11, [.ref pa, .ref ta, .ref sa, .ref gs, .ref co, .ref fu, .ref la, .ref gy, .ref du, .ref re, .ref wm, .ref ac])), (la, .inr (5, [.ref lab, .int he, .int mg, .int wd])), (lab, .inr (6, [.ref labg, .int ir])), (labg, .inl (3, 4, .inr (.inl gr)))]) 1 6 := by
  refine z_of (by decide) rfl (Nat.le_of_ble_eq_true rfl) (fun w0 => ?_)
  refine r_lvE (lv2 := [(0, .ref a), (1, .int 109)]) rfl ?_
  refine r_ldcWS (own := "Ironpour") (i := 3) (by decide) d_Ip_ladle_0 ?_
  refine r_iload_n d_Ip_ladle_3 rfl 1 rfl ?_
  refine r_callVS (As := [.int 109]) (rest := []) (csC := []) (is := []) (i := 3) (by first | assumption | decide) rfl ln_Ip_83 w_im_String_indexOf_0 w_se_String_indexOf_0 ok_Ip_ladle_String_indexOf_0 d_Ip_ladle_4 (C_St_indexOf g 3 (by decide) 109) rfl rfl (Nat.le_of_ble_eq_true rfl) rfl (by decide) (by omega) (by omega) (fun E cs1 hx => ?_) (fun v cs1 hx => ?_)
  · exact absurd hx.1 (by simp)
  · obtain ⟨e1, rfl⟩ := hx
    cases e1
    refine ⟨rfl, ?_⟩
    refine r_st (st2 := [.int (z_ix 3 109)]) rfl ?_
    refine r_cs (cs2 := [(a, .inr (11, [.ref pa, .ref ta, .ref sa, .ref gs, .ref co, .ref fu, .ref la, .ref gy, .ref du, .ref re, .ref wm, .ref ac])), (la, .inr (5, [.ref lab, .int he, .int mg, .int wd])), (lab, .inr (6, [.ref labg, .int ir])), (labg, .inl (3, 4, .inr (.inl gr)))]) rfl ?_
    refine r_if_ge (tgt := 21) d_Ip_ladle_7 (by decide) (fun c_7 => ?_) (fun c_7 => ?_)
    · refine r_aload_n d_Ip_ladle_21 rfl 0 rfl ?_
      refine r_get fs_Ip_50 d_Ip_ladle_22 (q0 := 0) rfl rfl ?_
      refine r_callV (As := []) (rest := []) (csC := [(la, .inr (5, [.ref lab, .int he, .int mg, .int wd])), (lab, .inr (6, [.ref labg, .int ir])), (labg, .inl (3, 4, .inr (.inl gr)))]) (is := [1, 2, 3]) (q0 := 1) rfl rfl ln_Ip_314 w_im_La_isEmpty w_se_La_isEmpty ok_Ip_ladle_La_isEmpty d_Ip_ladle_25 (C_La_isEmpty g la lab labg gr he mg wd ir) rfl rfl (Nat.le_of_ble_eq_true rfl) rfl (by decide) (by omega) (by omega) (fun E cs1 hx => ?_) (fun v cs1 hx => ?_)
      · exact absurd hx.1 (by simp)
      · obtain ⟨e1, rfl⟩ := hx
        cases e1
        refine ⟨rfl, ?_⟩
        refine r_st (st2 := [.int (if ir = 0 then 1 else 0)]) rfl ?_
        refine r_cs (cs2 := [(a, .inr (11, [.ref pa, .ref ta, .ref sa, .ref gs, .ref co, .ref fu, .ref la, .ref gy, .ref du, .ref re, .ref wm, .ref ac])), (la, .inr (5, [.ref lab, .int he, .int mg, .int wd])), (lab, .inr (6, [.ref labg, .int ir])), (labg, .inl (3, 4, .inr (.inl gr)))]) rfl ?_
        refine r_if_eq (tgt := 33) d_Ip_ladle_28 (by decide) (fun c_28 => ?_) (fun c_28 => ?_)
        · refine r_iload_n d_Ip_ladle_33 rfl 1 rfl ?_
          · refine r_lookup (off := 45) (tgt := 79) d_Ip_ladle_34 (by decide) (by decide) (by decide) ?_
            refine r_aload_n d_Ip_ladle_79 rfl 0 rfl ?_
            refine r_get fs_Ip_50 d_Ip_ladle_80 (q0 := 0) rfl rfl ?_
            refine r_get fs_Ip_328 d_Ip_ladle_83 (q0 := 1) rfl rfl ?_
            refine r_iret d_Ip_ladle_86 rfl rfl ?_
            exact ⟨rfl, rfl⟩
        · exact absurd (z_b1 c_28) he0
    · exact absurd c_7 (by decide)
abbrev M_Ip_cheapest : zM := (⟨"Ironpour", "cheapest", "(C)I"⟩, prog_1_method_34_code, 2, (Option.some FieldType.int), 8, 179, [])
theorem d_Ip_cheapest_0 : decode prog_1_method_34_code 0 = .ok (.ldc_w 380, 3) := zo_19 (d := 1) (e := 124) (zd_b zq_prog_1_method_34_code_0 0 rfl rfl rfl) (zd_b zq_prog_1_method_34_code_0 1 rfl rfl rfl) (zd_b zq_prog_1_method_34_code_0 2 rfl rfl rfl)
theorem d_Ip_cheapest_3 : decode prog_1_method_34_code 3 = .ok (.iload_n 1, 1) := zo_27 (zd_b zq_prog_1_method_34_code_0 3 rfl rfl rfl)
theorem d_Ip_cheapest_4 : decode prog_1_method_34_code 4 = .ok (.invokevirtual 83, 3) := zo_182 (d := 0) (e := 83) (zd_b zq_prog_1_method_34_code_0 4 rfl rfl rfl) (zd_b zq_prog_1_method_34_code_0 5 rfl rfl rfl) (zd_b zq_prog_1_method_34_code_0 6 rfl rfl rfl)
theorem ok_Ip_cheapest_String_indexOf_0 : z_ok M_Ip_cheapest M_String_indexOf_0 1 := ⟨z_mj3 (i := 58) rfl (by decide +kernel), rfl, ⟨by decide +kernel, by decide +kernel, by decide +kernel⟩, ⟨by decide, by decide⟩, z_mj1 (i := 15) rfl (by decide +kernel), rfl⟩
theorem d_Ip_cheapest_7 : decode prog_1_method_34_code 7 = .ok (.ifCond .ge 14, 3) := zo_156 (d := 0) (e := 14) (zd_b zq_prog_1_method_34_code_0 7 rfl rfl rfl) (zd_b zq_prog_1_method_34_code_0 8 rfl rfl rfl) (zd_b zq_prog_1_method_34_code_0 9 rfl rfl rfl) (by decide +kernel)
theorem d_Ip_cheapest_10 : decode prog_1_method_34_code 10 = .ok (.new 89, 3) := zo_187 (d := 0) (e := 89) (zd_b zq_prog_1_method_34_code_0 10 rfl rfl rfl) (zd_b zq_prog_1_method_34_code_0 11 rfl rfl rfl) (zd_b zq_prog_1_method_34_code_0 12 rfl rfl rfl)
theorem sr_Ip_382 : Cond.stringRef "Ironpour" 382 "no such kind" ∈ lw_tbl := z_tb5 (i := 206) rfl
theorem d_Ip_cheapest_13 : decode prog_1_method_34_code 13 = .ok (.dup, 1) := zo_89 (zd_b zq_prog_1_method_34_code_0 13 rfl rfl rfl)
theorem d_Ip_cheapest_14 : decode prog_1_method_34_code 14 = .ok (.ldc_w 382, 3) := zo_19 (d := 1) (e := 126) (zd_b zq_prog_1_method_34_code_0 14 rfl rfl rfl) (zd_b zq_prog_1_method_34_code_0 15 rfl rfl rfl) (zd_b zq_prog_1_method_34_code_0 16 rfl rfl rfl)
theorem d_Ip_cheapest_17 : decode prog_1_method_34_code 17 = .ok (.invokespecial 93, 3) := zo_183 (d := 0) (e := 93) (zd_b zq_prog_1_method_34_code_0 17 rfl rfl rfl) (zd_b zq_prog_1_method_34_code_0 18 rfl rfl rfl) (zd_b zq_prog_1_method_34_code_0 19 rfl rfl rfl)
theorem d_Ip_cheapest_20 : decode prog_1_method_34_code 20 = .ok (.athrow, 1) := zo_191 (zd_b zq_prog_1_method_34_code_0 20 rfl rfl rfl)
set_option maxHeartbeats 4000000 in
set_option maxRecDepth 100000 in
theorem C_Ip_cheapestE (g : zG) (a pa ta sa gs co fu la gy du re wm ac : Nat) (p0 a0 f0 : Int32) (w : Int32) (hw : z_ix 4 w < 0) : CT g M_Ip_cheapest [.ref a, .int w] [(a, .inr (11, [.ref pa, .ref ta, .ref sa, .ref gs, .ref co, .ref fu, .ref la, .ref gy, .ref du, .ref re, .ref wm, .ref ac])), (re, .inr (9, [.int p0, .int a0, .int f0]))] (fun o cs1 => o = .inr "java/lang/IllegalArgumentException" ∧ cs1 = [(a, .inr (11, [.ref pa, .ref ta, .ref sa, .ref gs, .ref co, .ref fu, .ref la, .ref gy, .ref du, .ref re, .ref wm, .ref ac])), (re, .inr (9, [.int p0, .int a0, .int f0]))]) 1 6 := by
  refine z_of (by decide) rfl (Nat.le_of_ble_eq_true rfl) (fun w0 => ?_)
  refine r_lvE (lv2 := [(0, .ref a), (1, .int w)]) rfl ?_
  refine r_ldcWS (own := "Ironpour") (i := 4) (by decide) d_Ip_cheapest_0 ?_
  refine r_iload_n d_Ip_cheapest_3 rfl 1 rfl ?_
  refine r_callVS (As := [.int w]) (rest := []) (csC := []) (is := []) (i := 4) (by first | assumption | decide) rfl ln_Ip_83 w_im_String_indexOf_0 w_se_String_indexOf_0 ok_Ip_cheapest_String_indexOf_0 d_Ip_cheapest_4 (C_St_indexOf g 4 (by decide) w) rfl rfl (Nat.le_of_ble_eq_true rfl) rfl (by decide) (by omega) (by omega) (fun E cs1 hx => ?_) (fun v cs1 hx => ?_)
  · exact absurd hx.1 (by simp)
  · obtain ⟨e1, rfl⟩ := hx
    cases e1
    refine ⟨rfl, ?_⟩
    refine r_st (st2 := [.int (z_ix 4 w)]) rfl ?_
    refine r_cs (cs2 := [(a, .inr (11, [.ref pa, .ref ta, .ref sa, .ref gs, .ref co, .ref fu, .ref la, .ref gy, .ref du, .ref re, .ref wm, .ref ac])), (re, .inr (9, [.int p0, .int a0, .int f0]))]) rfl ?_
    refine r_if_ge (tgt := 21) d_Ip_cheapest_7 (by decide) (fun c_7 => ?_) (fun c_7 => ?_)
    · exact absurd hw (Int32.not_lt.mpr c_7)
    · refine r_throwW tb_Ip_89_93 sr_Ip_382 d_Ip_cheapest_10 d_Ip_cheapest_13 d_Ip_cheapest_14 d_Ip_cheapest_17 d_Ip_cheapest_20 rfl (by decide) (by decide) (Nat.le_of_ble_eq_true rfl) (by omega) (by omega) ?_
      exact ⟨rfl, rfl⟩
theorem d_Ip_cheapest_21 : decode prog_1_method_34_code 21 = .ok (.aload_n 0, 1) := zo_42 (zd_b zq_prog_1_method_34_code_0 21 rfl rfl rfl)
theorem d_Ip_cheapest_22 : decode prog_1_method_34_code 22 = .ok (.getfield 67, 3) := zo_180 (d := 0) (e := 67) (zd_b zq_prog_1_method_34_code_0 22 rfl rfl rfl) (zd_b zq_prog_1_method_34_code_0 23 rfl rfl rfl) (zd_b zq_prog_1_method_34_code_0 24 rfl rfl rfl)
theorem fs_Ip_67 : z_fs "Ironpour" 67 11 9 := ⟨R_Ip, "Ironpour", F_Ip, 12, rfl, u_Ip, by decide, Or.inl ⟨z_mj2 (i := 72) rfl (by decide +kernel), Or.inl rfl⟩⟩
theorem d_Ip_cheapest_25 : decode prog_1_method_34_code 25 = .ok (.getfield 384, 3) := zo_180 (d := 1) (e := 128) (zd_b zq_prog_1_method_34_code_0 25 rfl rfl rfl) (zd_b zq_prog_1_method_34_code_0 26 rfl rfl rfl) (zd_b zq_prog_1_method_34_code_0 27 rfl rfl rfl)
theorem fs_Ip_384 : z_fs "Ironpour" 384 9 2 := ⟨R_Re, "Ironpour$Recipe", F_Re, 3, rfl, u_Re, by decide, Or.inr ⟨"Ironpour", z_mk2 (i := 29) rfl (by decide +kernel), rfl⟩⟩
theorem d_Ip_cheapest_28 : decode prog_1_method_34_code 28 = .ok (.ifCond .ne 14, 3) := zo_154 (d := 0) (e := 14) (zd_b zq_prog_1_method_34_code_0 28 rfl rfl rfl) (zd_b zq_prog_1_method_34_code_0 29 rfl rfl rfl) (zd_b zq_prog_1_method_34_code_0 30 rfl rfl rfl) (by decide +kernel)
theorem d_Ip_cheapest_31 : decode prog_1_method_34_code 31 = .ok (.new 242, 3) := zo_187 (d := 0) (e := 242) (zd_b zq_prog_1_method_34_code_0 31 rfl rfl rfl) (zd_b zq_prog_1_method_34_code_1 0 rfl rfl rfl) (zd_b zq_prog_1_method_34_code_1 1 rfl rfl rfl)
theorem sr_Ip_387 : Cond.stringRef "Ironpour" 387 "none was found yet" ∈ lw_tbl := z_tb5 (i := 207) rfl
theorem d_Ip_cheapest_34 : decode prog_1_method_34_code 34 = .ok (.dup, 1) := zo_89 (zd_b zq_prog_1_method_34_code_1 2 rfl rfl rfl)
theorem d_Ip_cheapest_35 : decode prog_1_method_34_code 35 = .ok (.ldc_w 387, 3) := zo_19 (d := 1) (e := 131) (zd_b zq_prog_1_method_34_code_1 3 rfl rfl rfl) (zd_b zq_prog_1_method_34_code_1 4 rfl rfl rfl) (zd_b zq_prog_1_method_34_code_1 5 rfl rfl rfl)
theorem d_Ip_cheapest_38 : decode prog_1_method_34_code 38 = .ok (.invokespecial 246, 3) := zo_183 (d := 0) (e := 246) (zd_b zq_prog_1_method_34_code_1 6 rfl rfl rfl) (zd_b zq_prog_1_method_34_code_1 7 rfl rfl rfl) (zd_b zq_prog_1_method_34_code_1 8 rfl rfl rfl)
theorem d_Ip_cheapest_41 : decode prog_1_method_34_code 41 = .ok (.athrow, 1) := zo_191 (zd_b zq_prog_1_method_34_code_1 9 rfl rfl rfl)
set_option maxHeartbeats 4000000 in
set_option maxRecDepth 100000 in
theorem C_Ip_cheapestF (g : zG) (a pa ta sa gs co fu la gy du re wm ac : Nat) (p0 a0 f0 : Int32) (w : Int32) (hw : ¬ z_ix 4 w < 0) (hf : f0 = 0) : CT g M_Ip_cheapest [.ref a, .int w] [(a, .inr (11, [.ref pa, .ref ta, .ref sa, .ref gs, .ref co, .ref fu, .ref la, .ref gy, .ref du, .ref re, .ref wm, .ref ac])), (re, .inr (9, [.int p0, .int a0, .int f0]))] (fun o cs1 => o = .inr "java/lang/IllegalStateException" ∧ cs1 = [(a, .inr (11, [.ref pa, .ref ta, .ref sa, .ref gs, .ref co, .ref fu, .ref la, .ref gy, .ref du, .ref re, .ref wm, .ref ac])), (re, .inr (9, [.int p0, .int a0, .int f0]))]) 1 6 := by
  refine z_of (by decide) rfl (Nat.le_of_ble_eq_true rfl) (fun w0 => ?_)
  refine r_lvE (lv2 := [(0, .ref a), (1, .int w)]) rfl ?_
  refine r_ldcWS (own := "Ironpour") (i := 4) (by decide) d_Ip_cheapest_0 ?_
  refine r_iload_n d_Ip_cheapest_3 rfl 1 rfl ?_
  refine r_callVS (As := [.int w]) (rest := []) (csC := []) (is := []) (i := 4) (by first | assumption | decide) rfl ln_Ip_83 w_im_String_indexOf_0 w_se_String_indexOf_0 ok_Ip_cheapest_String_indexOf_0 d_Ip_cheapest_4 (C_St_indexOf g 4 (by decide) w) rfl rfl (Nat.le_of_ble_eq_true rfl) rfl (by decide) (by omega) (by omega) (fun E cs1 hx => ?_) (fun v cs1 hx => ?_)
  · exact absurd hx.1 (by simp)
  · obtain ⟨e1, rfl⟩ := hx
    cases e1
    refine ⟨rfl, ?_⟩
    refine r_st (st2 := [.int (z_ix 4 w)]) rfl ?_
    refine r_cs (cs2 := [(a, .inr (11, [.ref pa, .ref ta, .ref sa, .ref gs, .ref co, .ref fu, .ref la, .ref gy, .ref du, .ref re, .ref wm, .ref ac])), (re, .inr (9, [.int p0, .int a0, .int f0]))]) rfl ?_
    refine r_if_ge (tgt := 21) d_Ip_cheapest_7 (by decide) (fun c_7 => ?_) (fun c_7 => ?_)
    · refine r_aload_n d_Ip_cheapest_21 rfl 0 rfl ?_
      refine r_get fs_Ip_67 d_Ip_cheapest_22 (q0 := 0) rfl rfl ?_
      refine r_get fs_Ip_384 d_Ip_cheapest_25 (q0 := 1) rfl rfl ?_
      refine r_if_ne (tgt := 42) d_Ip_cheapest_28 (by decide) (fun c_28 => ?_) (fun c_28 => ?_)
      · exact absurd hf c_28
      · refine r_throwW tb_Ip_242_246 sr_Ip_387 d_Ip_cheapest_31 d_Ip_cheapest_34 d_Ip_cheapest_35 d_Ip_cheapest_38 d_Ip_cheapest_41 rfl (by decide) (by decide) (Nat.le_of_ble_eq_true rfl) (by omega) (by omega) ?_
        exact ⟨rfl, rfl⟩
    · exact absurd (Int32.not_le.mp c_7) hw
theorem d_Ip_cheapest_42 : decode prog_1_method_34_code 42 = .ok (.iload_n 1, 1) := zo_27 (zd_b zq_prog_1_method_34_code_1 10 rfl rfl rfl)
theorem d_Ip_cheapest_43 : decode prog_1_method_34_code 43 = .ok (.lookupswitch 41 #[(112, 25), (115, 33)], 25) := by decide +kernel
theorem d_Ip_cheapest_68 : decode prog_1_method_34_code 68 = .ok (.aload_n 0, 1) := zo_42 (zd_b zq_prog_1_method_34_code_2 4 rfl rfl rfl)
theorem d_Ip_cheapest_69 : decode prog_1_method_34_code 69 = .ok (.getfield 67, 3) := zo_180 (d := 0) (e := 67) (zd_b zq_prog_1_method_34_code_2 5 rfl rfl rfl) (zd_b zq_prog_1_method_34_code_2 6 rfl rfl rfl) (zd_b zq_prog_1_method_34_code_2 7 rfl rfl rfl)
theorem d_Ip_cheapest_72 : decode prog_1_method_34_code 72 = .ok (.getfield 389, 3) := zo_180 (d := 1) (e := 133) (zd_b zq_prog_1_method_34_code_2 8 rfl rfl rfl) (zd_b zq_prog_1_method_34_code_2 9 rfl rfl rfl) (zd_b zq_prog_1_method_34_code_2 10 rfl rfl rfl)
theorem fs_Ip_389 : z_fs "Ironpour" 389 9 0 := ⟨R_Re, "Ironpour$Recipe", F_Re, 3, rfl, u_Re, by decide, Or.inr ⟨"Ironpour", z_mk2 (i := 25) rfl (by decide +kernel), rfl⟩⟩
theorem d_Ip_cheapest_75 : decode prog_1_method_34_code 75 = .ok (.ireturn, 1) := zo_172 (zd_b zq_prog_1_method_34_code_2 11 rfl rfl rfl)
set_option maxHeartbeats 4000000 in
set_option maxRecDepth 100000 in
theorem C_Ip_cheapest112 (g : zG) (a pa ta sa gs co fu la gy du re wm ac : Nat) (p0 a0 f0 : Int32) (hf : ¬ f0 = 0) : CT g M_Ip_cheapest [.ref a, .int 112] [(a, .inr (11, [.ref pa, .ref ta, .ref sa, .ref gs, .ref co, .ref fu, .ref la, .ref gy, .ref du, .ref re, .ref wm, .ref ac])), (re, .inr (9, [.int p0, .int a0, .int f0]))] (fun o cs1 => o = .inl (some (.int p0)) ∧ cs1 = [(a, .inr (11, [.ref pa, .ref ta, .ref sa, .ref gs, .ref co, .ref fu, .ref la, .ref gy, .ref du, .ref re, .ref wm, .ref ac])), (re, .inr (9, [.int p0, .int a0, .int f0]))]) 1 6 := by
  refine z_of (by decide) rfl (Nat.le_of_ble_eq_true rfl) (fun w0 => ?_)
  refine r_lvE (lv2 := [(0, .ref a), (1, .int 112)]) rfl ?_
  refine r_ldcWS (own := "Ironpour") (i := 4) (by decide) d_Ip_cheapest_0 ?_
  refine r_iload_n d_Ip_cheapest_3 rfl 1 rfl ?_
  refine r_callVS (As := [.int 112]) (rest := []) (csC := []) (is := []) (i := 4) (by first | assumption | decide) rfl ln_Ip_83 w_im_String_indexOf_0 w_se_String_indexOf_0 ok_Ip_cheapest_String_indexOf_0 d_Ip_cheapest_4 (C_St_indexOf g 4 (by decide) 112) rfl rfl (Nat.le_of_ble_eq_true rfl) rfl (by decide) (by omega) (by omega) (fun E cs1 hx => ?_) (fun v cs1 hx => ?_)
  · exact absurd hx.1 (by simp)
  · obtain ⟨e1, rfl⟩ := hx
    cases e1
    refine ⟨rfl, ?_⟩
    refine r_st (st2 := [.int (z_ix 4 112)]) rfl ?_
    refine r_cs (cs2 := [(a, .inr (11, [.ref pa, .ref ta, .ref sa, .ref gs, .ref co, .ref fu, .ref la, .ref gy, .ref du, .ref re, .ref wm, .ref ac])), (re, .inr (9, [.int p0, .int a0, .int f0]))]) rfl ?_
    refine r_if_ge (tgt := 21) d_Ip_cheapest_7 (by decide) (fun c_7 => ?_) (fun c_7 => ?_)
    · refine r_aload_n d_Ip_cheapest_21 rfl 0 rfl ?_
      refine r_get fs_Ip_67 d_Ip_cheapest_22 (q0 := 0) rfl rfl ?_
      refine r_get fs_Ip_384 d_Ip_cheapest_25 (q0 := 1) rfl rfl ?_
      refine r_if_ne (tgt := 42) d_Ip_cheapest_28 (by decide) (fun c_28 => ?_) (fun c_28 => ?_)
      · refine r_iload_n d_Ip_cheapest_42 rfl 1 rfl ?_
        · refine r_lookup (off := 25) (tgt := 68) d_Ip_cheapest_43 (by decide) (by decide) (by decide) ?_
          refine r_aload_n d_Ip_cheapest_68 rfl 0 rfl ?_
          refine r_get fs_Ip_67 d_Ip_cheapest_69 (q0 := 0) rfl rfl ?_
          refine r_get fs_Ip_389 d_Ip_cheapest_72 (q0 := 1) rfl rfl ?_
          refine r_iret d_Ip_cheapest_75 rfl rfl ?_
          exact ⟨rfl, rfl⟩
      · exact absurd c_28 hf
    · exact absurd c_7 (by decide)
theorem d_Ip_cheapest_76 : decode prog_1_method_34_code 76 = .ok (.aload_n 0, 1) := zo_42 (zd_b zq_prog_1_method_34_code_2 12 rfl rfl rfl)
theorem d_Ip_cheapest_77 : decode prog_1_method_34_code 77 = .ok (.getfield 67, 3) := zo_180 (d := 0) (e := 67) (zd_b zq_prog_1_method_34_code_2 13 rfl rfl rfl) (zd_b zq_prog_1_method_34_code_2 14 rfl rfl rfl) (zd_b zq_prog_1_method_34_code_2 15 rfl rfl rfl)
theorem d_Ip_cheapest_80 : decode prog_1_method_34_code 80 = .ok (.invokevirtual 392, 3) := zo_182 (d := 1) (e := 136) (zd_b zq_prog_1_method_34_code_2 16 rfl rfl rfl) (zd_b zq_prog_1_method_34_code_2 17 rfl rfl rfl) (zd_b zq_prog_1_method_34_code_2 18 rfl rfl rfl)
theorem ok_Ip_cheapest_Re_scrapParts : z_ok M_Ip_cheapest M_Re_scrapParts 0 := ⟨z_mj5 (i := 211) rfl (by decide +kernel), rfl, ⟨by decide +kernel, by decide +kernel, by decide +kernel⟩, ⟨by decide, by decide⟩, z_mj1 (i := 10) rfl (by decide +kernel), rfl⟩
theorem ln_Ip_392 : Cond.methodLink "Ironpour" 392 M_Re_scrapParts.1 ∈ z_gw := z_mj5 (i := 208) rfl (by decide +kernel)
theorem w_im_Re_scrapParts : Cond.instanceMethod M_Re_scrapParts.1 ∈ z_gw := z_mj5 (i := 209) rfl (by decide +kernel)
theorem w_se_Re_scrapParts : Cond.selects M_Re_scrapParts.1.cls M_Re_scrapParts.1 M_Re_scrapParts.1 ∈ z_gw := z_mj5 (i := 210) rfl (by decide +kernel)
theorem d_Ip_cheapest_83 : decode prog_1_method_34_code 83 = .ok (.ireturn, 1) := zo_172 (zd_b zq_prog_1_method_34_code_2 19 rfl rfl rfl)
set_option maxHeartbeats 4000000 in
set_option maxRecDepth 100000 in
theorem C_Ip_cheapest115 (g : zG) (a pa ta sa gs co fu la gy du re wm ac : Nat) (p0 a0 f0 : Int32) (hf : ¬ f0 = 0) : CT g M_Ip_cheapest [.ref a, .int 115] [(a, .inr (11, [.ref pa, .ref ta, .ref sa, .ref gs, .ref co, .ref fu, .ref la, .ref gy, .ref du, .ref re, .ref wm, .ref ac])), (re, .inr (9, [.int p0, .int a0, .int f0]))] (fun o cs1 => o = .inl (some (.int (S_Re_scrapParts re p0 a0 f0))) ∧ cs1 = [(a, .inr (11, [.ref pa, .ref ta, .ref sa, .ref gs, .ref co, .ref fu, .ref la, .ref gy, .ref du, .ref re, .ref wm, .ref ac])), (re, .inr (9, [.int p0, .int a0, .int f0]))]) 1 6 := by
  refine z_of (by decide) rfl (Nat.le_of_ble_eq_true rfl) (fun w0 => ?_)
  refine r_lvE (lv2 := [(0, .ref a), (1, .int 115)]) rfl ?_
  refine r_ldcWS (own := "Ironpour") (i := 4) (by decide) d_Ip_cheapest_0 ?_
  refine r_iload_n d_Ip_cheapest_3 rfl 1 rfl ?_
  refine r_callVS (As := [.int 115]) (rest := []) (csC := []) (is := []) (i := 4) (by first | assumption | decide) rfl ln_Ip_83 w_im_String_indexOf_0 w_se_String_indexOf_0 ok_Ip_cheapest_String_indexOf_0 d_Ip_cheapest_4 (C_St_indexOf g 4 (by decide) 115) rfl rfl (Nat.le_of_ble_eq_true rfl) rfl (by decide) (by omega) (by omega) (fun E cs1 hx => ?_) (fun v cs1 hx => ?_)
  · exact absurd hx.1 (by simp)
  · obtain ⟨e1, rfl⟩ := hx
    cases e1
    refine ⟨rfl, ?_⟩
    refine r_st (st2 := [.int (z_ix 4 115)]) rfl ?_
    refine r_cs (cs2 := [(a, .inr (11, [.ref pa, .ref ta, .ref sa, .ref gs, .ref co, .ref fu, .ref la, .ref gy, .ref du, .ref re, .ref wm, .ref ac])), (re, .inr (9, [.int p0, .int a0, .int f0]))]) rfl ?_
    refine r_if_ge (tgt := 21) d_Ip_cheapest_7 (by decide) (fun c_7 => ?_) (fun c_7 => ?_)
    · refine r_aload_n d_Ip_cheapest_21 rfl 0 rfl ?_
      refine r_get fs_Ip_67 d_Ip_cheapest_22 (q0 := 0) rfl rfl ?_
      refine r_get fs_Ip_384 d_Ip_cheapest_25 (q0 := 1) rfl rfl ?_
      refine r_if_ne (tgt := 42) d_Ip_cheapest_28 (by decide) (fun c_28 => ?_) (fun c_28 => ?_)
      · refine r_iload_n d_Ip_cheapest_42 rfl 1 rfl ?_
        · refine r_lookup (off := 33) (tgt := 76) d_Ip_cheapest_43 (by decide) (by decide) (by decide) ?_
          refine r_aload_n d_Ip_cheapest_76 rfl 0 rfl ?_
          refine r_get fs_Ip_67 d_Ip_cheapest_77 (q0 := 0) rfl rfl ?_
          refine r_callV (As := []) (rest := []) (csC := [(re, .inr (9, [.int p0, .int a0, .int f0]))]) (is := [1]) (q0 := 1) rfl rfl ln_Ip_392 w_im_Re_scrapParts w_se_Re_scrapParts ok_Ip_cheapest_Re_scrapParts d_Ip_cheapest_80 (C_Re_scrapParts g re p0 a0 f0) rfl rfl (Nat.le_of_ble_eq_true rfl) rfl (by decide) (by omega) (by omega) (fun E cs1 hx => ?_) (fun v cs1 hx => ?_)
          · exact absurd hx.1 (by simp)
          · obtain ⟨e1, rfl⟩ := hx
            cases e1
            refine ⟨rfl, ?_⟩
            refine r_st (st2 := [.int (S_Re_scrapParts re p0 a0 f0)]) rfl ?_
            refine r_cs (cs2 := [(a, .inr (11, [.ref pa, .ref ta, .ref sa, .ref gs, .ref co, .ref fu, .ref la, .ref gy, .ref du, .ref re, .ref wm, .ref ac])), (re, .inr (9, [.int p0, .int a0, .int f0]))]) rfl ?_
            refine r_iret d_Ip_cheapest_83 rfl rfl ?_
            exact ⟨rfl, rfl⟩
      · exact absurd c_28 hf
    · exact absurd c_7 (by decide)
theorem d_Ip_cheapest_84 : decode prog_1_method_34_code 84 = .ok (.aload_n 0, 1) := zo_42 (zd_b zq_prog_1_method_34_code_2 20 rfl rfl rfl)
theorem d_Ip_cheapest_85 : decode prog_1_method_34_code 85 = .ok (.getfield 67, 3) := zo_180 (d := 0) (e := 67) (zd_b zq_prog_1_method_34_code_2 21 rfl rfl rfl) (zd_b zq_prog_1_method_34_code_2 22 rfl rfl rfl) (zd_b zq_prog_1_method_34_code_2 23 rfl rfl rfl)
theorem d_Ip_cheapest_88 : decode prog_1_method_34_code 88 = .ok (.getfield 395, 3) := zo_180 (d := 1) (e := 139) (zd_b zq_prog_1_method_34_code_2 24 rfl rfl rfl) (zd_b zq_prog_1_method_34_code_2 25 rfl rfl rfl) (zd_b zq_prog_1_method_34_code_2 26 rfl rfl rfl)
theorem fs_Ip_395 : z_fs "Ironpour" 395 9 1 := ⟨R_Re, "Ironpour$Recipe", F_Re, 3, rfl, u_Re, by decide, Or.inr ⟨"Ironpour", z_mk2 (i := 27) rfl (by decide +kernel), rfl⟩⟩
theorem d_Ip_cheapest_91 : decode prog_1_method_34_code 91 = .ok (.ireturn, 1) := zo_172 (zd_b zq_prog_1_method_34_code_2 27 rfl rfl rfl)
set_option maxHeartbeats 4000000 in
set_option maxRecDepth 100000 in
theorem C_Ip_cheapest102 (g : zG) (a pa ta sa gs co fu la gy du re wm ac : Nat) (p0 a0 f0 : Int32) (hf : ¬ f0 = 0) : CT g M_Ip_cheapest [.ref a, .int 102] [(a, .inr (11, [.ref pa, .ref ta, .ref sa, .ref gs, .ref co, .ref fu, .ref la, .ref gy, .ref du, .ref re, .ref wm, .ref ac])), (re, .inr (9, [.int p0, .int a0, .int f0]))] (fun o cs1 => o = .inl (some (.int a0)) ∧ cs1 = [(a, .inr (11, [.ref pa, .ref ta, .ref sa, .ref gs, .ref co, .ref fu, .ref la, .ref gy, .ref du, .ref re, .ref wm, .ref ac])), (re, .inr (9, [.int p0, .int a0, .int f0]))]) 1 6 := by
  refine z_of (by decide) rfl (Nat.le_of_ble_eq_true rfl) (fun w0 => ?_)
  refine r_lvE (lv2 := [(0, .ref a), (1, .int 102)]) rfl ?_
  refine r_ldcWS (own := "Ironpour") (i := 4) (by decide) d_Ip_cheapest_0 ?_
  refine r_iload_n d_Ip_cheapest_3 rfl 1 rfl ?_
  refine r_callVS (As := [.int 102]) (rest := []) (csC := []) (is := []) (i := 4) (by first | assumption | decide) rfl ln_Ip_83 w_im_String_indexOf_0 w_se_String_indexOf_0 ok_Ip_cheapest_String_indexOf_0 d_Ip_cheapest_4 (C_St_indexOf g 4 (by decide) 102) rfl rfl (Nat.le_of_ble_eq_true rfl) rfl (by decide) (by omega) (by omega) (fun E cs1 hx => ?_) (fun v cs1 hx => ?_)
  · exact absurd hx.1 (by simp)
  · obtain ⟨e1, rfl⟩ := hx
    cases e1
    refine ⟨rfl, ?_⟩
    refine r_st (st2 := [.int (z_ix 4 102)]) rfl ?_
    refine r_cs (cs2 := [(a, .inr (11, [.ref pa, .ref ta, .ref sa, .ref gs, .ref co, .ref fu, .ref la, .ref gy, .ref du, .ref re, .ref wm, .ref ac])), (re, .inr (9, [.int p0, .int a0, .int f0]))]) rfl ?_
    refine r_if_ge (tgt := 21) d_Ip_cheapest_7 (by decide) (fun c_7 => ?_) (fun c_7 => ?_)
    · refine r_aload_n d_Ip_cheapest_21 rfl 0 rfl ?_
      refine r_get fs_Ip_67 d_Ip_cheapest_22 (q0 := 0) rfl rfl ?_
      refine r_get fs_Ip_384 d_Ip_cheapest_25 (q0 := 1) rfl rfl ?_
      refine r_if_ne (tgt := 42) d_Ip_cheapest_28 (by decide) (fun c_28 => ?_) (fun c_28 => ?_)
      · refine r_iload_n d_Ip_cheapest_42 rfl 1 rfl ?_
        · refine r_lookup (off := 41) (tgt := 84) d_Ip_cheapest_43 (by decide) (by decide) (by decide) ?_
          refine r_aload_n d_Ip_cheapest_84 rfl 0 rfl ?_
          refine r_get fs_Ip_67 d_Ip_cheapest_85 (q0 := 0) rfl rfl ?_
          refine r_get fs_Ip_395 d_Ip_cheapest_88 (q0 := 1) rfl rfl ?_
          refine r_iret d_Ip_cheapest_91 rfl rfl ?_
          exact ⟨rfl, rfl⟩
      · exact absurd c_28 hf
    · exact absurd c_7 (by decide)
abbrev M_Ip_leastCost : zM := (⟨"Ironpour", "leastCost", "(IIIIII)I"⟩, prog_1_method_33_code, 8, (Option.some FieldType.int), 6, 100, [])
theorem d_Ip_leastCost_0 : decode prog_1_method_33_code 0 = .ok (.iload_n 1, 1) := zo_27 (zd_b zq_prog_1_method_33_code_0 0 rfl rfl rfl)
theorem d_Ip_leastCost_1 : decode prog_1_method_33_code 1 = .ok (.iconst 0, 1) := zo_3 (zd_b zq_prog_1_method_33_code_0 1 rfl rfl rfl)
theorem d_Ip_leastCost_2 : decode prog_1_method_33_code 2 = .ok (.sipush 450, 3) := zo_17 (d := 1) (e := 194) (zd_b zq_prog_1_method_33_code_0 2 rfl rfl rfl) (zd_b zq_prog_1_method_33_code_0 3 rfl rfl rfl) (zd_b zq_prog_1_method_33_code_0 4 rfl rfl rfl) (by decide +kernel)
theorem d_Ip_leastCost_5 : decode prog_1_method_33_code 5 = .ok (.invokestatic 203, 3) := zo_184 (d := 0) (e := 203) (zd_b zq_prog_1_method_33_code_0 5 rfl rfl rfl) (zd_b zq_prog_1_method_33_code_0 6 rfl rfl rfl) (zd_b zq_prog_1_method_33_code_0 7 rfl rfl rfl)
theorem ok_Ip_leastCost_Ip_isWithin : z_ok M_Ip_leastCost M_Ip_isWithin 3 := ⟨z_mj4 (i := 97) rfl (by decide +kernel), rfl, ⟨by decide +kernel, by decide +kernel, by decide +kernel⟩, ⟨by decide, by decide⟩, z_mj1 (i := 1) rfl (by decide +kernel), rfl⟩
theorem d_Ip_leastCost_8 : decode prog_1_method_33_code 8 = .ok (.ifCond .eq 25, 3) := zo_153 (d := 0) (e := 25) (zd_b zq_prog_1_method_33_code_0 8 rfl rfl rfl) (zd_b zq_prog_1_method_33_code_0 9 rfl rfl rfl) (zd_b zq_prog_1_method_33_code_0 10 rfl rfl rfl) (by decide +kernel)
theorem d_Ip_leastCost_33 : decode prog_1_method_33_code 33 = .ok (.new 89, 3) := zo_187 (d := 0) (e := 89) (zd_b zq_prog_1_method_33_code_1 1 rfl rfl rfl) (zd_b zq_prog_1_method_33_code_1 2 rfl rfl rfl) (zd_b zq_prog_1_method_33_code_1 3 rfl rfl rfl)
theorem sr_Ip_370 : Cond.stringRef "Ironpour" 370 "contents are 0 to 450, the most not below the least" ∈ lw_tbl := z_tb5 (i := 185) rfl
theorem d_Ip_leastCost_36 : decode prog_1_method_33_code 36 = .ok (.dup, 1) := zo_89 (zd_b zq_prog_1_method_33_code_1 4 rfl rfl rfl)
theorem d_Ip_leastCost_37 : decode prog_1_method_33_code 37 = .ok (.ldc_w 370, 3) := zo_19 (d := 1) (e := 114) (zd_b zq_prog_1_method_33_code_1 5 rfl rfl rfl) (zd_b zq_prog_1_method_33_code_1 6 rfl rfl rfl) (zd_b zq_prog_1_method_33_code_1 7 rfl rfl rfl)
theorem d_Ip_leastCost_40 : decode prog_1_method_33_code 40 = .ok (.invokespecial 93, 3) := zo_183 (d := 0) (e := 93) (zd_b zq_prog_1_method_33_code_1 8 rfl rfl rfl) (zd_b zq_prog_1_method_33_code_1 9 rfl rfl rfl) (zd_b zq_prog_1_method_33_code_1 10 rfl rfl rfl)
theorem d_Ip_leastCost_43 : decode prog_1_method_33_code 43 = .ok (.athrow, 1) := zo_191 (zd_b zq_prog_1_method_33_code_1 11 rfl rfl rfl)
theorem d_Ip_leastCost_11 : decode prog_1_method_33_code 11 = .ok (.iload_n 2, 1) := zo_28 (zd_b zq_prog_1_method_33_code_0 11 rfl rfl rfl)
theorem d_Ip_leastCost_12 : decode prog_1_method_33_code 12 = .ok (.iload_n 1, 1) := zo_27 (zd_b zq_prog_1_method_33_code_0 12 rfl rfl rfl)
theorem d_Ip_leastCost_13 : decode prog_1_method_33_code 13 = .ok (.sipush 450, 3) := zo_17 (d := 1) (e := 194) (zd_b zq_prog_1_method_33_code_0 13 rfl rfl rfl) (zd_b zq_prog_1_method_33_code_0 14 rfl rfl rfl) (zd_b zq_prog_1_method_33_code_0 15 rfl rfl rfl) (by decide +kernel)
theorem d_Ip_leastCost_16 : decode prog_1_method_33_code 16 = .ok (.invokestatic 203, 3) := zo_184 (d := 0) (e := 203) (zd_b zq_prog_1_method_33_code_0 16 rfl rfl rfl) (zd_b zq_prog_1_method_33_code_0 17 rfl rfl rfl) (zd_b zq_prog_1_method_33_code_0 18 rfl rfl rfl)
theorem d_Ip_leastCost_19 : decode prog_1_method_33_code 19 = .ok (.ifCond .eq 14, 3) := zo_153 (d := 0) (e := 14) (zd_b zq_prog_1_method_33_code_0 19 rfl rfl rfl) (zd_b zq_prog_1_method_33_code_0 20 rfl rfl rfl) (zd_b zq_prog_1_method_33_code_0 21 rfl rfl rfl) (by decide +kernel)
theorem d_Ip_leastCost_22 : decode prog_1_method_33_code 22 = .ok (.iload_n 3, 1) := zo_29 (zd_b zq_prog_1_method_33_code_0 22 rfl rfl rfl)
theorem d_Ip_leastCost_23 : decode prog_1_method_33_code 23 = .ok (.iconst 0, 1) := zo_3 (zd_b zq_prog_1_method_33_code_0 23 rfl rfl rfl)
theorem d_Ip_leastCost_24 : decode prog_1_method_33_code 24 = .ok (.sipush 450, 3) := zo_17 (d := 1) (e := 194) (zd_b zq_prog_1_method_33_code_0 24 rfl rfl rfl) (zd_b zq_prog_1_method_33_code_0 25 rfl rfl rfl) (zd_b zq_prog_1_method_33_code_0 26 rfl rfl rfl) (by decide +kernel)
theorem d_Ip_leastCost_27 : decode prog_1_method_33_code 27 = .ok (.invokestatic 203, 3) := zo_184 (d := 0) (e := 203) (zd_b zq_prog_1_method_33_code_0 27 rfl rfl rfl) (zd_b zq_prog_1_method_33_code_0 28 rfl rfl rfl) (zd_b zq_prog_1_method_33_code_0 29 rfl rfl rfl)
theorem d_Ip_leastCost_30 : decode prog_1_method_33_code 30 = .ok (.ifCond .ne 14, 3) := zo_154 (d := 0) (e := 14) (zd_b zq_prog_1_method_33_code_0 30 rfl rfl rfl) (zd_b zq_prog_1_method_33_code_0 31 rfl rfl rfl) (zd_b zq_prog_1_method_33_code_1 0 rfl rfl rfl) (by decide +kernel)
theorem d_Ip_leastCost_44 : decode prog_1_method_33_code 44 = .ok (.iload 4, 2) := zo_21 (d := 4) (zd_b zq_prog_1_method_33_code_1 12 rfl rfl rfl) (zd_b zq_prog_1_method_33_code_1 13 rfl rfl rfl)
theorem d_Ip_leastCost_46 : decode prog_1_method_33_code 46 = .ok (.iconst 1, 1) := zo_4 (zd_b zq_prog_1_method_33_code_1 14 rfl rfl rfl)
theorem d_Ip_leastCost_47 : decode prog_1_method_33_code 47 = .ok (.sipush 1000, 3) := zo_17 (d := 3) (e := 232) (zd_b zq_prog_1_method_33_code_1 15 rfl rfl rfl) (zd_b zq_prog_1_method_33_code_1 16 rfl rfl rfl) (zd_b zq_prog_1_method_33_code_1 17 rfl rfl rfl) (by decide +kernel)
theorem d_Ip_leastCost_50 : decode prog_1_method_33_code 50 = .ok (.invokestatic 203, 3) := zo_184 (d := 0) (e := 203) (zd_b zq_prog_1_method_33_code_1 18 rfl rfl rfl) (zd_b zq_prog_1_method_33_code_1 19 rfl rfl rfl) (zd_b zq_prog_1_method_33_code_1 20 rfl rfl rfl)
theorem d_Ip_leastCost_53 : decode prog_1_method_33_code 53 = .ok (.ifCond .eq 27, 3) := zo_153 (d := 0) (e := 27) (zd_b zq_prog_1_method_33_code_1 21 rfl rfl rfl) (zd_b zq_prog_1_method_33_code_1 22 rfl rfl rfl) (zd_b zq_prog_1_method_33_code_1 23 rfl rfl rfl) (by decide +kernel)
theorem d_Ip_leastCost_80 : decode prog_1_method_33_code 80 = .ok (.new 89, 3) := zo_187 (d := 0) (e := 89) (zd_b zq_prog_1_method_33_code_2 16 rfl rfl rfl) (zd_b zq_prog_1_method_33_code_2 17 rfl rfl rfl) (zd_b zq_prog_1_method_33_code_2 18 rfl rfl rfl)
theorem sr_Ip_372 : Cond.stringRef "Ironpour" 372 "prices are 1 to 1000" ∈ lw_tbl := z_tb5 (i := 186) rfl
theorem d_Ip_leastCost_83 : decode prog_1_method_33_code 83 = .ok (.dup, 1) := zo_89 (zd_b zq_prog_1_method_33_code_2 19 rfl rfl rfl)
theorem d_Ip_leastCost_84 : decode prog_1_method_33_code 84 = .ok (.ldc_w 372, 3) := zo_19 (d := 1) (e := 116) (zd_b zq_prog_1_method_33_code_2 20 rfl rfl rfl) (zd_b zq_prog_1_method_33_code_2 21 rfl rfl rfl) (zd_b zq_prog_1_method_33_code_2 22 rfl rfl rfl)
theorem d_Ip_leastCost_87 : decode prog_1_method_33_code 87 = .ok (.invokespecial 93, 3) := zo_183 (d := 0) (e := 93) (zd_b zq_prog_1_method_33_code_2 23 rfl rfl rfl) (zd_b zq_prog_1_method_33_code_2 24 rfl rfl rfl) (zd_b zq_prog_1_method_33_code_2 25 rfl rfl rfl)
theorem d_Ip_leastCost_90 : decode prog_1_method_33_code 90 = .ok (.athrow, 1) := zo_191 (zd_b zq_prog_1_method_33_code_2 26 rfl rfl rfl)
theorem d_Ip_leastCost_56 : decode prog_1_method_33_code 56 = .ok (.iload 5, 2) := zo_21 (d := 5) (zd_b zq_prog_1_method_33_code_1 24 rfl rfl rfl) (zd_b zq_prog_1_method_33_code_1 25 rfl rfl rfl)
theorem d_Ip_leastCost_58 : decode prog_1_method_33_code 58 = .ok (.iconst 1, 1) := zo_4 (zd_b zq_prog_1_method_33_code_1 26 rfl rfl rfl)
theorem d_Ip_leastCost_59 : decode prog_1_method_33_code 59 = .ok (.sipush 1000, 3) := zo_17 (d := 3) (e := 232) (zd_b zq_prog_1_method_33_code_1 27 rfl rfl rfl) (zd_b zq_prog_1_method_33_code_1 28 rfl rfl rfl) (zd_b zq_prog_1_method_33_code_1 29 rfl rfl rfl) (by decide +kernel)
theorem d_Ip_leastCost_62 : decode prog_1_method_33_code 62 = .ok (.invokestatic 203, 3) := zo_184 (d := 0) (e := 203) (zd_b zq_prog_1_method_33_code_1 30 rfl rfl rfl) (zd_b zq_prog_1_method_33_code_1 31 rfl rfl rfl) (zd_b zq_prog_1_method_33_code_2 0 rfl rfl rfl)
theorem d_Ip_leastCost_65 : decode prog_1_method_33_code 65 = .ok (.ifCond .eq 15, 3) := zo_153 (d := 0) (e := 15) (zd_b zq_prog_1_method_33_code_2 1 rfl rfl rfl) (zd_b zq_prog_1_method_33_code_2 2 rfl rfl rfl) (zd_b zq_prog_1_method_33_code_2 3 rfl rfl rfl) (by decide +kernel)
theorem d_Ip_leastCost_68 : decode prog_1_method_33_code 68 = .ok (.iload 6, 2) := zo_21 (d := 6) (zd_b zq_prog_1_method_33_code_2 4 rfl rfl rfl) (zd_b zq_prog_1_method_33_code_2 5 rfl rfl rfl)
theorem d_Ip_leastCost_70 : decode prog_1_method_33_code 70 = .ok (.iconst 1, 1) := zo_4 (zd_b zq_prog_1_method_33_code_2 6 rfl rfl rfl)
theorem d_Ip_leastCost_71 : decode prog_1_method_33_code 71 = .ok (.sipush 1000, 3) := zo_17 (d := 3) (e := 232) (zd_b zq_prog_1_method_33_code_2 7 rfl rfl rfl) (zd_b zq_prog_1_method_33_code_2 8 rfl rfl rfl) (zd_b zq_prog_1_method_33_code_2 9 rfl rfl rfl) (by decide +kernel)
theorem d_Ip_leastCost_74 : decode prog_1_method_33_code 74 = .ok (.invokestatic 203, 3) := zo_184 (d := 0) (e := 203) (zd_b zq_prog_1_method_33_code_2 10 rfl rfl rfl) (zd_b zq_prog_1_method_33_code_2 11 rfl rfl rfl) (zd_b zq_prog_1_method_33_code_2 12 rfl rfl rfl)
theorem d_Ip_leastCost_77 : decode prog_1_method_33_code 77 = .ok (.ifCond .ne 14, 3) := zo_154 (d := 0) (e := 14) (zd_b zq_prog_1_method_33_code_2 13 rfl rfl rfl) (zd_b zq_prog_1_method_33_code_2 14 rfl rfl rfl) (zd_b zq_prog_1_method_33_code_2 15 rfl rfl rfl) (by decide +kernel)
set_option maxHeartbeats 4000000 in
set_option maxRecDepth 100000 in
theorem C_Ip_leastCostE (g : zG) (a pa ta sa gs co fu la gy du re wm ac : Nat) (p0 a0 f0 : Int32) (le mo si pp ps pa_ : Int32) (hw : ¬ ((0 ≤ le ∧ le ≤ 450) ∧ (le ≤ mo ∧ mo ≤ 450) ∧ (0 ≤ si ∧ si ≤ 450) ∧ (1 ≤ pp ∧ pp ≤ 1000) ∧ (1 ≤ ps ∧ ps ≤ 1000) ∧ (1 ≤ pa_ ∧ pa_ ≤ 1000))) : CT g M_Ip_leastCost [.ref a, .int le, .int mo, .int si, .int pp, .int ps, .int pa_] [(a, .inr (11, [.ref pa, .ref ta, .ref sa, .ref gs, .ref co, .ref fu, .ref la, .ref gy, .ref du, .ref re, .ref wm, .ref ac])), (re, .inr (9, [.int p0, .int a0, .int f0]))] (fun o cs1 => o = .inr "java/lang/IllegalArgumentException" ∧ cs1 = [(a, .inr (11, [.ref pa, .ref ta, .ref sa, .ref gs, .ref co, .ref fu, .ref la, .ref gy, .ref du, .ref re, .ref wm, .ref ac])), (re, .inr (9, [.int p0, .int a0, .int f0]))]) 1 6 := by
  refine z_of (by decide) rfl (Nat.le_of_ble_eq_true rfl) (fun w0 => ?_)
  refine r_lvE (lv2 := [(0, .ref a), (1, .int le), (2, .int mo), (3, .int si), (4, .int pp), (5, .int ps), (6, .int pa_)]) rfl ?_
  refine r_iload_n d_Ip_leastCost_0 rfl 1 rfl ?_
  refine r_iconst d_Ip_leastCost_1 (v := 0) (by decide) ?_
  refine r_sipush d_Ip_leastCost_2 (v := 450) (by decide) ?_
  refine r_callS (As := [.int le, .int 0, .int 450]) (rest := []) (csC := []) (is := []) ln_Ip_203 w_st_Ip_isWithin ok_Ip_leastCost_Ip_isWithin d_Ip_leastCost_5 (C_Ip_isWithin g le 0 450) rfl rfl (Nat.le_of_ble_eq_true rfl) rfl (by decide) (by omega) (by omega) (fun E cs1 hx => ?_) (fun v cs1 hx => ?_)
  · exact absurd hx.1 (by simp)
  · obtain ⟨e1, rfl⟩ := hx
    cases e1
    refine ⟨rfl, ?_⟩
    refine r_st (st2 := [.int (if 0 ≤ le ∧ le ≤ 450 then 1 else 0)]) rfl ?_
    refine r_cs (cs2 := [(a, .inr (11, [.ref pa, .ref ta, .ref sa, .ref gs, .ref co, .ref fu, .ref la, .ref gy, .ref du, .ref re, .ref wm, .ref ac])), (re, .inr (9, [.int p0, .int a0, .int f0]))]) rfl ?_
    refine r_if_eq (tgt := 33) d_Ip_leastCost_8 (by decide) (fun c_8 => ?_) (fun c_8 => ?_)
    · refine r_throwW tb_Ip_89_93 sr_Ip_370 d_Ip_leastCost_33 d_Ip_leastCost_36 d_Ip_leastCost_37 d_Ip_leastCost_40 d_Ip_leastCost_43 rfl (by decide) (by decide) (Nat.le_of_ble_eq_true rfl) (by omega) (by omega) ?_
      exact ⟨rfl, rfl⟩
    · refine r_iload_n d_Ip_leastCost_11 rfl 2 rfl ?_
      refine r_iload_n d_Ip_leastCost_12 rfl 1 rfl ?_
      refine r_sipush d_Ip_leastCost_13 (v := 450) (by decide) ?_
      refine r_callS (As := [.int mo, .int le, .int 450]) (rest := []) (csC := []) (is := []) ln_Ip_203 w_st_Ip_isWithin ok_Ip_leastCost_Ip_isWithin d_Ip_leastCost_16 (C_Ip_isWithin g mo le 450) rfl rfl (Nat.le_of_ble_eq_true rfl) rfl (by decide) (by omega) (by omega) (fun E cs1 hx => ?_) (fun v cs1 hx => ?_)
      · exact absurd hx.1 (by simp)
      · obtain ⟨e1, rfl⟩ := hx
        cases e1
        refine ⟨rfl, ?_⟩
        refine r_st (st2 := [.int (if le ≤ mo ∧ mo ≤ 450 then 1 else 0)]) rfl ?_
        refine r_cs (cs2 := [(a, .inr (11, [.ref pa, .ref ta, .ref sa, .ref gs, .ref co, .ref fu, .ref la, .ref gy, .ref du, .ref re, .ref wm, .ref ac])), (re, .inr (9, [.int p0, .int a0, .int f0]))]) rfl ?_
        refine r_if_eq (tgt := 33) d_Ip_leastCost_19 (by decide) (fun c_19 => ?_) (fun c_19 => ?_)
        · refine r_throwW tb_Ip_89_93 sr_Ip_370 d_Ip_leastCost_33 d_Ip_leastCost_36 d_Ip_leastCost_37 d_Ip_leastCost_40 d_Ip_leastCost_43 rfl (by decide) (by decide) (Nat.le_of_ble_eq_true rfl) (by omega) (by omega) ?_
          exact ⟨rfl, rfl⟩
        · refine r_iload_n d_Ip_leastCost_22 rfl 3 rfl ?_
          refine r_iconst d_Ip_leastCost_23 (v := 0) (by decide) ?_
          refine r_sipush d_Ip_leastCost_24 (v := 450) (by decide) ?_
          refine r_callS (As := [.int si, .int 0, .int 450]) (rest := []) (csC := []) (is := []) ln_Ip_203 w_st_Ip_isWithin ok_Ip_leastCost_Ip_isWithin d_Ip_leastCost_27 (C_Ip_isWithin g si 0 450) rfl rfl (Nat.le_of_ble_eq_true rfl) rfl (by decide) (by omega) (by omega) (fun E cs1 hx => ?_) (fun v cs1 hx => ?_)
          · exact absurd hx.1 (by simp)
          · obtain ⟨e1, rfl⟩ := hx
            cases e1
            refine ⟨rfl, ?_⟩
            refine r_st (st2 := [.int (if 0 ≤ si ∧ si ≤ 450 then 1 else 0)]) rfl ?_
            refine r_cs (cs2 := [(a, .inr (11, [.ref pa, .ref ta, .ref sa, .ref gs, .ref co, .ref fu, .ref la, .ref gy, .ref du, .ref re, .ref wm, .ref ac])), (re, .inr (9, [.int p0, .int a0, .int f0]))]) rfl ?_
            refine r_if_ne (tgt := 44) d_Ip_leastCost_30 (by decide) (fun c_30 => ?_) (fun c_30 => ?_)
            · refine r_iload d_Ip_leastCost_44 4 rfl ?_
              refine r_iconst d_Ip_leastCost_46 (v := 1) (by decide) ?_
              refine r_sipush d_Ip_leastCost_47 (v := 1000) (by decide) ?_
              refine r_callS (As := [.int pp, .int 1, .int 1000]) (rest := []) (csC := []) (is := []) ln_Ip_203 w_st_Ip_isWithin ok_Ip_leastCost_Ip_isWithin d_Ip_leastCost_50 (C_Ip_isWithin g pp 1 1000) rfl rfl (Nat.le_of_ble_eq_true rfl) rfl (by decide) (by omega) (by omega) (fun E cs1 hx => ?_) (fun v cs1 hx => ?_)
              · exact absurd hx.1 (by simp)
              · obtain ⟨e1, rfl⟩ := hx
                cases e1
                refine ⟨rfl, ?_⟩
                refine r_st (st2 := [.int (if 1 ≤ pp ∧ pp ≤ 1000 then 1 else 0)]) rfl ?_
                refine r_cs (cs2 := [(a, .inr (11, [.ref pa, .ref ta, .ref sa, .ref gs, .ref co, .ref fu, .ref la, .ref gy, .ref du, .ref re, .ref wm, .ref ac])), (re, .inr (9, [.int p0, .int a0, .int f0]))]) rfl ?_
                refine r_if_eq (tgt := 80) d_Ip_leastCost_53 (by decide) (fun c_53 => ?_) (fun c_53 => ?_)
                · refine r_throwW tb_Ip_89_93 sr_Ip_372 d_Ip_leastCost_80 d_Ip_leastCost_83 d_Ip_leastCost_84 d_Ip_leastCost_87 d_Ip_leastCost_90 rfl (by decide) (by decide) (Nat.le_of_ble_eq_true rfl) (by omega) (by omega) ?_
                  exact ⟨rfl, rfl⟩
                · refine r_iload d_Ip_leastCost_56 5 rfl ?_
                  refine r_iconst d_Ip_leastCost_58 (v := 1) (by decide) ?_
                  refine r_sipush d_Ip_leastCost_59 (v := 1000) (by decide) ?_
                  refine r_callS (As := [.int ps, .int 1, .int 1000]) (rest := []) (csC := []) (is := []) ln_Ip_203 w_st_Ip_isWithin ok_Ip_leastCost_Ip_isWithin d_Ip_leastCost_62 (C_Ip_isWithin g ps 1 1000) rfl rfl (Nat.le_of_ble_eq_true rfl) rfl (by decide) (by omega) (by omega) (fun E cs1 hx => ?_) (fun v cs1 hx => ?_)
                  · exact absurd hx.1 (by simp)
                  · obtain ⟨e1, rfl⟩ := hx
                    cases e1
                    refine ⟨rfl, ?_⟩
                    refine r_st (st2 := [.int (if 1 ≤ ps ∧ ps ≤ 1000 then 1 else 0)]) rfl ?_
                    refine r_cs (cs2 := [(a, .inr (11, [.ref pa, .ref ta, .ref sa, .ref gs, .ref co, .ref fu, .ref la, .ref gy, .ref du, .ref re, .ref wm, .ref ac])), (re, .inr (9, [.int p0, .int a0, .int f0]))]) rfl ?_
                    refine r_if_eq (tgt := 80) d_Ip_leastCost_65 (by decide) (fun c_65 => ?_) (fun c_65 => ?_)
                    · refine r_throwW tb_Ip_89_93 sr_Ip_372 d_Ip_leastCost_80 d_Ip_leastCost_83 d_Ip_leastCost_84 d_Ip_leastCost_87 d_Ip_leastCost_90 rfl (by decide) (by decide) (Nat.le_of_ble_eq_true rfl) (by omega) (by omega) ?_
                      exact ⟨rfl, rfl⟩
                    · refine r_iload d_Ip_leastCost_68 6 rfl ?_
                      refine r_iconst d_Ip_leastCost_70 (v := 1) (by decide) ?_
                      refine r_sipush d_Ip_leastCost_71 (v := 1000) (by decide) ?_
                      refine r_callS (As := [.int pa_, .int 1, .int 1000]) (rest := []) (csC := []) (is := []) ln_Ip_203 w_st_Ip_isWithin ok_Ip_leastCost_Ip_isWithin d_Ip_leastCost_74 (C_Ip_isWithin g pa_ 1 1000) rfl rfl (Nat.le_of_ble_eq_true rfl) rfl (by decide) (by omega) (by omega) (fun E cs1 hx => ?_) (fun v cs1 hx => ?_)
                      · exact absurd hx.1 (by simp)
                      · obtain ⟨e1, rfl⟩ := hx
                        cases e1
                        refine ⟨rfl, ?_⟩
                        refine r_st (st2 := [.int (if 1 ≤ pa_ ∧ pa_ ≤ 1000 then 1 else 0)]) rfl ?_
                        refine r_cs (cs2 := [(a, .inr (11, [.ref pa, .ref ta, .ref sa, .ref gs, .ref co, .ref fu, .ref la, .ref gy, .ref du, .ref re, .ref wm, .ref ac])), (re, .inr (9, [.int p0, .int a0, .int f0]))]) rfl ?_
                        refine r_if_ne (tgt := 91) d_Ip_leastCost_77 (by decide) (fun c_77 => ?_) (fun c_77 => ?_)
                        · exact absurd ⟨z_b1 c_8, z_b1 c_19, z_b1 c_30, z_b1 c_53, z_b1 c_65, z_b1 c_77⟩ hw
                        · refine r_throwW tb_Ip_89_93 sr_Ip_372 d_Ip_leastCost_80 d_Ip_leastCost_83 d_Ip_leastCost_84 d_Ip_leastCost_87 d_Ip_leastCost_90 rfl (by decide) (by decide) (Nat.le_of_ble_eq_true rfl) (by omega) (by omega) ?_
                          exact ⟨rfl, rfl⟩
            · refine r_throwW tb_Ip_89_93 sr_Ip_370 d_Ip_leastCost_33 d_Ip_leastCost_36 d_Ip_leastCost_37 d_Ip_leastCost_40 d_Ip_leastCost_43 rfl (by decide) (by decide) (Nat.le_of_ble_eq_true rfl) (by omega) (by omega) ?_
              exact ⟨rfl, rfl⟩
theorem d_Ip_leastCost_91 : decode prog_1_method_33_code 91 = .ok (.aload_n 0, 1) := zo_42 (zd_b zq_prog_1_method_33_code_2 27 rfl rfl rfl)
theorem d_Ip_leastCost_92 : decode prog_1_method_33_code 92 = .ok (.getfield 67, 3) := zo_180 (d := 0) (e := 67) (zd_b zq_prog_1_method_33_code_2 28 rfl rfl rfl) (zd_b zq_prog_1_method_33_code_2 29 rfl rfl rfl) (zd_b zq_prog_1_method_33_code_2 30 rfl rfl rfl)
theorem d_Ip_leastCost_95 : decode prog_1_method_33_code 95 = .ok (.iload_n 1, 1) := zo_27 (zd_b zq_prog_1_method_33_code_2 31 rfl rfl rfl)
theorem d_Ip_leastCost_96 : decode prog_1_method_33_code 96 = .ok (.iload_n 2, 1) := zo_28 (zd_b zq_prog_1_method_33_code_3 0 rfl rfl rfl)
theorem d_Ip_leastCost_97 : decode prog_1_method_33_code 97 = .ok (.iload_n 3, 1) := zo_29 (zd_b zq_prog_1_method_33_code_3 1 rfl rfl rfl)
theorem d_Ip_leastCost_98 : decode prog_1_method_33_code 98 = .ok (.iload 4, 2) := zo_21 (d := 4) (zd_b zq_prog_1_method_33_code_3 2 rfl rfl rfl) (zd_b zq_prog_1_method_33_code_3 3 rfl rfl rfl)
theorem d_Ip_leastCost_100 : decode prog_1_method_33_code 100 = .ok (.iload 5, 2) := zo_21 (d := 5) (zd_b zq_prog_1_method_33_code_3 4 rfl rfl rfl) (zd_b zq_prog_1_method_33_code_3 5 rfl rfl rfl)
theorem d_Ip_leastCost_102 : decode prog_1_method_33_code 102 = .ok (.iload 6, 2) := zo_21 (d := 6) (zd_b zq_prog_1_method_33_code_3 6 rfl rfl rfl) (zd_b zq_prog_1_method_33_code_3 7 rfl rfl rfl)
theorem d_Ip_leastCost_104 : decode prog_1_method_33_code 104 = .ok (.invokevirtual 374, 3) := zo_182 (d := 1) (e := 118) (zd_b zq_prog_1_method_33_code_3 8 rfl rfl rfl) (zd_b zq_prog_1_method_33_code_3 9 rfl rfl rfl) (zd_b zq_prog_1_method_33_code_3 10 rfl rfl rfl)
theorem ok_Ip_leastCost_Re_search : z_ok M_Ip_leastCost M_Re_search 6 := ⟨z_mj5 (i := 190) rfl (by decide +kernel), rfl, ⟨by decide +kernel, by decide +kernel, by decide +kernel⟩, ⟨by decide, by decide⟩, z_mj1 (i := 10) rfl (by decide +kernel), rfl⟩
theorem ln_Ip_374 : Cond.methodLink "Ironpour" 374 M_Re_search.1 ∈ z_gw := z_mj5 (i := 187) rfl (by decide +kernel)
theorem w_im_Re_search : Cond.instanceMethod M_Re_search.1 ∈ z_gw := z_mj5 (i := 188) rfl (by decide +kernel)
theorem w_se_Re_search : Cond.selects M_Re_search.1.cls M_Re_search.1 M_Re_search.1 ∈ z_gw := z_mj5 (i := 189) rfl (by decide +kernel)
theorem d_Ip_leastCost_107 : decode prog_1_method_33_code 107 = .ok (.istore 7, 2) := zo_54 (d := 7) (zd_b zq_prog_1_method_33_code_3 11 rfl rfl rfl) (zd_b zq_prog_1_method_33_code_3 12 rfl rfl rfl)
theorem d_Ip_leastCost_109 : decode prog_1_method_33_code 109 = .ok (.iload 7, 2) := zo_21 (d := 7) (zd_b zq_prog_1_method_33_code_3 13 rfl rfl rfl) (zd_b zq_prog_1_method_33_code_3 14 rfl rfl rfl)
theorem d_Ip_leastCost_111 : decode prog_1_method_33_code 111 = .ok (.ifCond .ge 14, 3) := zo_156 (d := 0) (e := 14) (zd_b zq_prog_1_method_33_code_3 15 rfl rfl rfl) (zd_b zq_prog_1_method_33_code_3 16 rfl rfl rfl) (zd_b zq_prog_1_method_33_code_3 17 rfl rfl rfl) (by decide +kernel)
theorem d_Ip_leastCost_114 : decode prog_1_method_33_code 114 = .ok (.new 150, 3) := zo_187 (d := 0) (e := 150) (zd_b zq_prog_1_method_33_code_3 18 rfl rfl rfl) (zd_b zq_prog_1_method_33_code_3 19 rfl rfl rfl) (zd_b zq_prog_1_method_33_code_3 20 rfl rfl rfl)
theorem sr_Ip_378 : Cond.stringRef "Ironpour" 378 "no charge is such" ∈ lw_tbl := z_tb5 (i := 197) rfl
theorem d_Ip_leastCost_117 : decode prog_1_method_33_code 117 = .ok (.dup, 1) := zo_89 (zd_b zq_prog_1_method_33_code_3 21 rfl rfl rfl)
theorem d_Ip_leastCost_118 : decode prog_1_method_33_code 118 = .ok (.ldc_w 378, 3) := zo_19 (d := 1) (e := 122) (zd_b zq_prog_1_method_33_code_3 22 rfl rfl rfl) (zd_b zq_prog_1_method_33_code_3 23 rfl rfl rfl) (zd_b zq_prog_1_method_33_code_3 24 rfl rfl rfl)
theorem d_Ip_leastCost_121 : decode prog_1_method_33_code 121 = .ok (.invokespecial 154, 3) := zo_183 (d := 0) (e := 154) (zd_b zq_prog_1_method_33_code_3 25 rfl rfl rfl) (zd_b zq_prog_1_method_33_code_3 26 rfl rfl rfl) (zd_b zq_prog_1_method_33_code_3 27 rfl rfl rfl)
theorem d_Ip_leastCost_124 : decode prog_1_method_33_code 124 = .ok (.athrow, 1) := zo_191 (zd_b zq_prog_1_method_33_code_3 28 rfl rfl rfl)
set_option maxHeartbeats 4000000 in
set_option maxRecDepth 100000 in
theorem C_Ip_leastCostF (g : zG) (a pa ta sa gs co fu la gy du re wm ac : Nat) (p0 a0 f0 : Int32) (le mo si pp ps pa_ : Int32) (hw : ((0 ≤ le ∧ le ≤ 450) ∧ (le ≤ mo ∧ mo ≤ 450) ∧ (0 ≤ si ∧ si ≤ 450) ∧ (1 ≤ pp ∧ pp ≤ 1000) ∧ (1 ≤ ps ∧ ps ≤ 1000) ∧ (1 ≤ pa_ ∧ pa_ ≤ 1000))) (hs : (rcO le mo si pp ps pa_ (-1, p0, a0, f0) 11).1 < 0) : CT g M_Ip_leastCost [.ref a, .int le, .int mo, .int si, .int pp, .int ps, .int pa_] [(a, .inr (11, [.ref pa, .ref ta, .ref sa, .ref gs, .ref co, .ref fu, .ref la, .ref gy, .ref du, .ref re, .ref wm, .ref ac])), (re, .inr (9, [.int p0, .int a0, .int f0]))] (fun o cs1 => o = .inr "java/util/NoSuchElementException" ∧ cs1 = [(a, .inr (11, [.ref pa, .ref ta, .ref sa, .ref gs, .ref co, .ref fu, .ref la, .ref gy, .ref du, .ref re, .ref wm, .ref ac])), (re, .inr (9, [.int ((rcO le mo si pp ps pa_ (-1, p0, a0, f0) 11).2.1), .int ((rcO le mo si pp ps pa_ (-1, p0, a0, f0) 11).2.2.1), .int ((rcO le mo si pp ps pa_ (-1, p0, a0, f0) 11).2.2.2)]))]) 2 12 := by
  refine z_of (by decide) rfl (Nat.le_of_ble_eq_true rfl) (fun w0 => ?_)
  refine r_lvE (lv2 := [(0, .ref a), (1, .int le), (2, .int mo), (3, .int si), (4, .int pp), (5, .int ps), (6, .int pa_)]) rfl ?_
  refine r_iload_n d_Ip_leastCost_0 rfl 1 rfl ?_
  refine r_iconst d_Ip_leastCost_1 (v := 0) (by decide) ?_
  refine r_sipush d_Ip_leastCost_2 (v := 450) (by decide) ?_
  refine r_callS (As := [.int le, .int 0, .int 450]) (rest := []) (csC := []) (is := []) ln_Ip_203 w_st_Ip_isWithin ok_Ip_leastCost_Ip_isWithin d_Ip_leastCost_5 (C_Ip_isWithin g le 0 450) rfl rfl (Nat.le_of_ble_eq_true rfl) rfl (by decide) (by omega) (by omega) (fun E cs1 hx => ?_) (fun v cs1 hx => ?_)
  · exact absurd hx.1 (by simp)
  · obtain ⟨e1, rfl⟩ := hx
    cases e1
    refine ⟨rfl, ?_⟩
    refine r_st (st2 := [.int (if 0 ≤ le ∧ le ≤ 450 then 1 else 0)]) rfl ?_
    refine r_cs (cs2 := [(a, .inr (11, [.ref pa, .ref ta, .ref sa, .ref gs, .ref co, .ref fu, .ref la, .ref gy, .ref du, .ref re, .ref wm, .ref ac])), (re, .inr (9, [.int p0, .int a0, .int f0]))]) rfl ?_
    refine r_if_eq (tgt := 33) d_Ip_leastCost_8 (by decide) (fun c_8 => ?_) (fun c_8 => ?_)
    · exact absurd hw.1 (z_b0 c_8)
    · refine r_iload_n d_Ip_leastCost_11 rfl 2 rfl ?_
      refine r_iload_n d_Ip_leastCost_12 rfl 1 rfl ?_
      refine r_sipush d_Ip_leastCost_13 (v := 450) (by decide) ?_
      refine r_callS (As := [.int mo, .int le, .int 450]) (rest := []) (csC := []) (is := []) ln_Ip_203 w_st_Ip_isWithin ok_Ip_leastCost_Ip_isWithin d_Ip_leastCost_16 (C_Ip_isWithin g mo le 450) rfl rfl (Nat.le_of_ble_eq_true rfl) rfl (by decide) (by omega) (by omega) (fun E cs1 hx => ?_) (fun v cs1 hx => ?_)
      · exact absurd hx.1 (by simp)
      · obtain ⟨e1, rfl⟩ := hx
        cases e1
        refine ⟨rfl, ?_⟩
        refine r_st (st2 := [.int (if le ≤ mo ∧ mo ≤ 450 then 1 else 0)]) rfl ?_
        refine r_cs (cs2 := [(a, .inr (11, [.ref pa, .ref ta, .ref sa, .ref gs, .ref co, .ref fu, .ref la, .ref gy, .ref du, .ref re, .ref wm, .ref ac])), (re, .inr (9, [.int p0, .int a0, .int f0]))]) rfl ?_
        refine r_if_eq (tgt := 33) d_Ip_leastCost_19 (by decide) (fun c_19 => ?_) (fun c_19 => ?_)
        · exact absurd hw.2.1 (z_b0 c_19)
        · refine r_iload_n d_Ip_leastCost_22 rfl 3 rfl ?_
          refine r_iconst d_Ip_leastCost_23 (v := 0) (by decide) ?_
          refine r_sipush d_Ip_leastCost_24 (v := 450) (by decide) ?_
          refine r_callS (As := [.int si, .int 0, .int 450]) (rest := []) (csC := []) (is := []) ln_Ip_203 w_st_Ip_isWithin ok_Ip_leastCost_Ip_isWithin d_Ip_leastCost_27 (C_Ip_isWithin g si 0 450) rfl rfl (Nat.le_of_ble_eq_true rfl) rfl (by decide) (by omega) (by omega) (fun E cs1 hx => ?_) (fun v cs1 hx => ?_)
          · exact absurd hx.1 (by simp)
          · obtain ⟨e1, rfl⟩ := hx
            cases e1
            refine ⟨rfl, ?_⟩
            refine r_st (st2 := [.int (if 0 ≤ si ∧ si ≤ 450 then 1 else 0)]) rfl ?_
            refine r_cs (cs2 := [(a, .inr (11, [.ref pa, .ref ta, .ref sa, .ref gs, .ref co, .ref fu, .ref la, .ref gy, .ref du, .ref re, .ref wm, .ref ac])), (re, .inr (9, [.int p0, .int a0, .int f0]))]) rfl ?_
            refine r_if_ne (tgt := 44) d_Ip_leastCost_30 (by decide) (fun c_30 => ?_) (fun c_30 => ?_)
            · refine r_iload d_Ip_leastCost_44 4 rfl ?_
              refine r_iconst d_Ip_leastCost_46 (v := 1) (by decide) ?_
              refine r_sipush d_Ip_leastCost_47 (v := 1000) (by decide) ?_
              refine r_callS (As := [.int pp, .int 1, .int 1000]) (rest := []) (csC := []) (is := []) ln_Ip_203 w_st_Ip_isWithin ok_Ip_leastCost_Ip_isWithin d_Ip_leastCost_50 (C_Ip_isWithin g pp 1 1000) rfl rfl (Nat.le_of_ble_eq_true rfl) rfl (by decide) (by omega) (by omega) (fun E cs1 hx => ?_) (fun v cs1 hx => ?_)
              · exact absurd hx.1 (by simp)
              · obtain ⟨e1, rfl⟩ := hx
                cases e1
                refine ⟨rfl, ?_⟩
                refine r_st (st2 := [.int (if 1 ≤ pp ∧ pp ≤ 1000 then 1 else 0)]) rfl ?_
                refine r_cs (cs2 := [(a, .inr (11, [.ref pa, .ref ta, .ref sa, .ref gs, .ref co, .ref fu, .ref la, .ref gy, .ref du, .ref re, .ref wm, .ref ac])), (re, .inr (9, [.int p0, .int a0, .int f0]))]) rfl ?_
                refine r_if_eq (tgt := 80) d_Ip_leastCost_53 (by decide) (fun c_53 => ?_) (fun c_53 => ?_)
                · exact absurd hw.2.2.2.1 (z_b0 c_53)
                · refine r_iload d_Ip_leastCost_56 5 rfl ?_
                  refine r_iconst d_Ip_leastCost_58 (v := 1) (by decide) ?_
                  refine r_sipush d_Ip_leastCost_59 (v := 1000) (by decide) ?_
                  refine r_callS (As := [.int ps, .int 1, .int 1000]) (rest := []) (csC := []) (is := []) ln_Ip_203 w_st_Ip_isWithin ok_Ip_leastCost_Ip_isWithin d_Ip_leastCost_62 (C_Ip_isWithin g ps 1 1000) rfl rfl (Nat.le_of_ble_eq_true rfl) rfl (by decide) (by omega) (by omega) (fun E cs1 hx => ?_) (fun v cs1 hx => ?_)
                  · exact absurd hx.1 (by simp)
                  · obtain ⟨e1, rfl⟩ := hx
                    cases e1
                    refine ⟨rfl, ?_⟩
                    refine r_st (st2 := [.int (if 1 ≤ ps ∧ ps ≤ 1000 then 1 else 0)]) rfl ?_
                    refine r_cs (cs2 := [(a, .inr (11, [.ref pa, .ref ta, .ref sa, .ref gs, .ref co, .ref fu, .ref la, .ref gy, .ref du, .ref re, .ref wm, .ref ac])), (re, .inr (9, [.int p0, .int a0, .int f0]))]) rfl ?_
                    refine r_if_eq (tgt := 80) d_Ip_leastCost_65 (by decide) (fun c_65 => ?_) (fun c_65 => ?_)
                    · exact absurd hw.2.2.2.2.1 (z_b0 c_65)
                    · refine r_iload d_Ip_leastCost_68 6 rfl ?_
                      refine r_iconst d_Ip_leastCost_70 (v := 1) (by decide) ?_
                      refine r_sipush d_Ip_leastCost_71 (v := 1000) (by decide) ?_
                      refine r_callS (As := [.int pa_, .int 1, .int 1000]) (rest := []) (csC := []) (is := []) ln_Ip_203 w_st_Ip_isWithin ok_Ip_leastCost_Ip_isWithin d_Ip_leastCost_74 (C_Ip_isWithin g pa_ 1 1000) rfl rfl (Nat.le_of_ble_eq_true rfl) rfl (by decide) (by omega) (by omega) (fun E cs1 hx => ?_) (fun v cs1 hx => ?_)
                      · exact absurd hx.1 (by simp)
                      · obtain ⟨e1, rfl⟩ := hx
                        cases e1
                        refine ⟨rfl, ?_⟩
                        refine r_st (st2 := [.int (if 1 ≤ pa_ ∧ pa_ ≤ 1000 then 1 else 0)]) rfl ?_
                        refine r_cs (cs2 := [(a, .inr (11, [.ref pa, .ref ta, .ref sa, .ref gs, .ref co, .ref fu, .ref la, .ref gy, .ref du, .ref re, .ref wm, .ref ac])), (re, .inr (9, [.int p0, .int a0, .int f0]))]) rfl ?_
                        refine r_if_ne (tgt := 91) d_Ip_leastCost_77 (by decide) (fun c_77 => ?_) (fun c_77 => ?_)
                        · refine r_aload_n d_Ip_leastCost_91 rfl 0 rfl ?_
                          refine r_get fs_Ip_67 d_Ip_leastCost_92 (q0 := 0) rfl rfl ?_
                          refine r_iload_n d_Ip_leastCost_95 rfl 1 rfl ?_
                          refine r_iload_n d_Ip_leastCost_96 rfl 2 rfl ?_
                          refine r_iload_n d_Ip_leastCost_97 rfl 3 rfl ?_
                          refine r_iload d_Ip_leastCost_98 4 rfl ?_
                          refine r_iload d_Ip_leastCost_100 5 rfl ?_
                          refine r_iload d_Ip_leastCost_102 6 rfl ?_
                          refine r_callV (As := [.int le, .int mo, .int si, .int pp, .int ps, .int pa_]) (rest := []) (csC := [(re, .inr (9, [.int p0, .int a0, .int f0]))]) (is := [1]) (q0 := 1) rfl rfl ln_Ip_374 w_im_Re_search w_se_Re_search ok_Ip_leastCost_Re_search d_Ip_leastCost_104 (C_Re_search g re p0 a0 f0 le mo si pp ps pa_) rfl rfl (Nat.le_of_ble_eq_true rfl) rfl (by decide) (by omega) (by omega) (fun E cs1 hx => ?_) (fun v cs1 hx => ?_)
                          · exact absurd hx.1 (by simp)
                          · obtain ⟨e1, rfl⟩ := hx
                            cases e1
                            refine ⟨rfl, ?_⟩
                            refine r_st (st2 := [.int ((rcO le mo si pp ps pa_ (-1, p0, a0, f0) 11).1)]) rfl ?_
                            refine r_cs (cs2 := [(a, .inr (11, [.ref pa, .ref ta, .ref sa, .ref gs, .ref co, .ref fu, .ref la, .ref gy, .ref du, .ref re, .ref wm, .ref ac])), (re, .inr (9, [.int ((rcO le mo si pp ps pa_ (-1, p0, a0, f0) 11).2.1), .int ((rcO le mo si pp ps pa_ (-1, p0, a0, f0) 11).2.2.1), .int ((rcO le mo si pp ps pa_ (-1, p0, a0, f0) 11).2.2.2)]))]) rfl ?_
                            refine r_istore (lv' := [(7, .int ((rcO le mo si pp ps pa_ (-1, p0, a0, f0) 11).1)), (0, .ref a), (1, .int le), (2, .int mo), (3, .int si), (4, .int pp), (5, .int ps), (6, .int pa_)]) d_Ip_leastCost_107 (by decide) rfl ?_
                            refine r_iload d_Ip_leastCost_109 0 rfl ?_
                            refine r_if_ge (tgt := 125) d_Ip_leastCost_111 (by decide) (fun c_111 => ?_) (fun c_111 => ?_)
                            · exact absurd hs (Int32.not_lt.mpr c_111)
                            · refine r_throwXW tb_Ip_150_154 sr_Ip_378 d_Ip_leastCost_114 d_Ip_leastCost_117 d_Ip_leastCost_118 d_Ip_leastCost_121 d_Ip_leastCost_124 rfl (by decide) (by decide) (Nat.le_of_ble_eq_true rfl) (by omega) (by omega) ?_
                              exact ⟨rfl, rfl⟩
                        · exact absurd hw.2.2.2.2.2 (z_b0 c_77)
            · exact absurd hw.2.2.1 (z_b0 c_30)
theorem d_Ip_leastCost_125 : decode prog_1_method_33_code 125 = .ok (.iload 7, 2) := zo_21 (d := 7) (zd_b zq_prog_1_method_33_code_3 29 rfl rfl rfl) (zd_b zq_prog_1_method_33_code_3 30 rfl rfl rfl)
theorem d_Ip_leastCost_127 : decode prog_1_method_33_code 127 = .ok (.ireturn, 1) := zo_172 (zd_b zq_prog_1_method_33_code_3 31 rfl rfl rfl)
set_option maxHeartbeats 4000000 in
set_option maxRecDepth 100000 in
theorem C_Ip_leastCostN (g : zG) (a pa ta sa gs co fu la gy du re wm ac : Nat) (p0 a0 f0 : Int32) (le mo si pp ps pa_ : Int32) (hw : ((0 ≤ le ∧ le ≤ 450) ∧ (le ≤ mo ∧ mo ≤ 450) ∧ (0 ≤ si ∧ si ≤ 450) ∧ (1 ≤ pp ∧ pp ≤ 1000) ∧ (1 ≤ ps ∧ ps ≤ 1000) ∧ (1 ≤ pa_ ∧ pa_ ≤ 1000))) (hs : ¬ (rcO le mo si pp ps pa_ (-1, p0, a0, f0) 11).1 < 0) : CT g M_Ip_leastCost [.ref a, .int le, .int mo, .int si, .int pp, .int ps, .int pa_] [(a, .inr (11, [.ref pa, .ref ta, .ref sa, .ref gs, .ref co, .ref fu, .ref la, .ref gy, .ref du, .ref re, .ref wm, .ref ac])), (re, .inr (9, [.int p0, .int a0, .int f0]))] (fun o cs1 => o = .inl (some (.int ((rcO le mo si pp ps pa_ (-1, p0, a0, f0) 11).1))) ∧ cs1 = [(a, .inr (11, [.ref pa, .ref ta, .ref sa, .ref gs, .ref co, .ref fu, .ref la, .ref gy, .ref du, .ref re, .ref wm, .ref ac])), (re, .inr (9, [.int ((rcO le mo si pp ps pa_ (-1, p0, a0, f0) 11).2.1), .int ((rcO le mo si pp ps pa_ (-1, p0, a0, f0) 11).2.2.1), .int ((rcO le mo si pp ps pa_ (-1, p0, a0, f0) 11).2.2.2)]))]) 2 12 := by
  refine z_of (by decide) rfl (Nat.le_of_ble_eq_true rfl) (fun w0 => ?_)
  refine r_lvE (lv2 := [(0, .ref a), (1, .int le), (2, .int mo), (3, .int si), (4, .int pp), (5, .int ps), (6, .int pa_)]) rfl ?_
  refine r_iload_n d_Ip_leastCost_0 rfl 1 rfl ?_
  refine r_iconst d_Ip_leastCost_1 (v := 0) (by decide) ?_
  refine r_sipush d_Ip_leastCost_2 (v := 450) (by decide) ?_
  refine r_callS (As := [.int le, .int 0, .int 450]) (rest := []) (csC := []) (is := []) ln_Ip_203 w_st_Ip_isWithin ok_Ip_leastCost_Ip_isWithin d_Ip_leastCost_5 (C_Ip_isWithin g le 0 450) rfl rfl (Nat.le_of_ble_eq_true rfl) rfl (by decide) (by omega) (by omega) (fun E cs1 hx => ?_) (fun v cs1 hx => ?_)
  · exact absurd hx.1 (by simp)
  · obtain ⟨e1, rfl⟩ := hx
    cases e1
    refine ⟨rfl, ?_⟩
    refine r_st (st2 := [.int (if 0 ≤ le ∧ le ≤ 450 then 1 else 0)]) rfl ?_
    refine r_cs (cs2 := [(a, .inr (11, [.ref pa, .ref ta, .ref sa, .ref gs, .ref co, .ref fu, .ref la, .ref gy, .ref du, .ref re, .ref wm, .ref ac])), (re, .inr (9, [.int p0, .int a0, .int f0]))]) rfl ?_
    refine r_if_eq (tgt := 33) d_Ip_leastCost_8 (by decide) (fun c_8 => ?_) (fun c_8 => ?_)
    · exact absurd hw.1 (z_b0 c_8)
    · refine r_iload_n d_Ip_leastCost_11 rfl 2 rfl ?_
      refine r_iload_n d_Ip_leastCost_12 rfl 1 rfl ?_
      refine r_sipush d_Ip_leastCost_13 (v := 450) (by decide) ?_
      refine r_callS (As := [.int mo, .int le, .int 450]) (rest := []) (csC := []) (is := []) ln_Ip_203 w_st_Ip_isWithin ok_Ip_leastCost_Ip_isWithin d_Ip_leastCost_16 (C_Ip_isWithin g mo le 450) rfl rfl (Nat.le_of_ble_eq_true rfl) rfl (by decide) (by omega) (by omega) (fun E cs1 hx => ?_) (fun v cs1 hx => ?_)
      · exact absurd hx.1 (by simp)
      · obtain ⟨e1, rfl⟩ := hx
        cases e1
        refine ⟨rfl, ?_⟩
        refine r_st (st2 := [.int (if le ≤ mo ∧ mo ≤ 450 then 1 else 0)]) rfl ?_
        refine r_cs (cs2 := [(a, .inr (11, [.ref pa, .ref ta, .ref sa, .ref gs, .ref co, .ref fu, .ref la, .ref gy, .ref du, .ref re, .ref wm, .ref ac])), (re, .inr (9, [.int p0, .int a0, .int f0]))]) rfl ?_
        refine r_if_eq (tgt := 33) d_Ip_leastCost_19 (by decide) (fun c_19 => ?_) (fun c_19 => ?_)
        · exact absurd hw.2.1 (z_b0 c_19)
        · refine r_iload_n d_Ip_leastCost_22 rfl 3 rfl ?_
          refine r_iconst d_Ip_leastCost_23 (v := 0) (by decide) ?_
          refine r_sipush d_Ip_leastCost_24 (v := 450) (by decide) ?_
          refine r_callS (As := [.int si, .int 0, .int 450]) (rest := []) (csC := []) (is := []) ln_Ip_203 w_st_Ip_isWithin ok_Ip_leastCost_Ip_isWithin d_Ip_leastCost_27 (C_Ip_isWithin g si 0 450) rfl rfl (Nat.le_of_ble_eq_true rfl) rfl (by decide) (by omega) (by omega) (fun E cs1 hx => ?_) (fun v cs1 hx => ?_)
          · exact absurd hx.1 (by simp)
          · obtain ⟨e1, rfl⟩ := hx
            cases e1
            refine ⟨rfl, ?_⟩
            refine r_st (st2 := [.int (if 0 ≤ si ∧ si ≤ 450 then 1 else 0)]) rfl ?_
            refine r_cs (cs2 := [(a, .inr (11, [.ref pa, .ref ta, .ref sa, .ref gs, .ref co, .ref fu, .ref la, .ref gy, .ref du, .ref re, .ref wm, .ref ac])), (re, .inr (9, [.int p0, .int a0, .int f0]))]) rfl ?_
            refine r_if_ne (tgt := 44) d_Ip_leastCost_30 (by decide) (fun c_30 => ?_) (fun c_30 => ?_)
            · refine r_iload d_Ip_leastCost_44 4 rfl ?_
              refine r_iconst d_Ip_leastCost_46 (v := 1) (by decide) ?_
              refine r_sipush d_Ip_leastCost_47 (v := 1000) (by decide) ?_
              refine r_callS (As := [.int pp, .int 1, .int 1000]) (rest := []) (csC := []) (is := []) ln_Ip_203 w_st_Ip_isWithin ok_Ip_leastCost_Ip_isWithin d_Ip_leastCost_50 (C_Ip_isWithin g pp 1 1000) rfl rfl (Nat.le_of_ble_eq_true rfl) rfl (by decide) (by omega) (by omega) (fun E cs1 hx => ?_) (fun v cs1 hx => ?_)
              · exact absurd hx.1 (by simp)
              · obtain ⟨e1, rfl⟩ := hx
                cases e1
                refine ⟨rfl, ?_⟩
                refine r_st (st2 := [.int (if 1 ≤ pp ∧ pp ≤ 1000 then 1 else 0)]) rfl ?_
                refine r_cs (cs2 := [(a, .inr (11, [.ref pa, .ref ta, .ref sa, .ref gs, .ref co, .ref fu, .ref la, .ref gy, .ref du, .ref re, .ref wm, .ref ac])), (re, .inr (9, [.int p0, .int a0, .int f0]))]) rfl ?_
                refine r_if_eq (tgt := 80) d_Ip_leastCost_53 (by decide) (fun c_53 => ?_) (fun c_53 => ?_)
                · exact absurd hw.2.2.2.1 (z_b0 c_53)
                · refine r_iload d_Ip_leastCost_56 5 rfl ?_
                  refine r_iconst d_Ip_leastCost_58 (v := 1) (by decide) ?_
                  refine r_sipush d_Ip_leastCost_59 (v := 1000) (by decide) ?_
                  refine r_callS (As := [.int ps, .int 1, .int 1000]) (rest := []) (csC := []) (is := []) ln_Ip_203 w_st_Ip_isWithin ok_Ip_leastCost_Ip_isWithin d_Ip_leastCost_62 (C_Ip_isWithin g ps 1 1000) rfl rfl (Nat.le_of_ble_eq_true rfl) rfl (by decide) (by omega) (by omega) (fun E cs1 hx => ?_) (fun v cs1 hx => ?_)
                  · exact absurd hx.1 (by simp)
                  · obtain ⟨e1, rfl⟩ := hx
                    cases e1
                    refine ⟨rfl, ?_⟩
                    refine r_st (st2 := [.int (if 1 ≤ ps ∧ ps ≤ 1000 then 1 else 0)]) rfl ?_
                    refine r_cs (cs2 := [(a, .inr (11, [.ref pa, .ref ta, .ref sa, .ref gs, .ref co, .ref fu, .ref la, .ref gy, .ref du, .ref re, .ref wm, .ref ac])), (re, .inr (9, [.int p0, .int a0, .int f0]))]) rfl ?_
                    refine r_if_eq (tgt := 80) d_Ip_leastCost_65 (by decide) (fun c_65 => ?_) (fun c_65 => ?_)
                    · exact absurd hw.2.2.2.2.1 (z_b0 c_65)
                    · refine r_iload d_Ip_leastCost_68 6 rfl ?_
                      refine r_iconst d_Ip_leastCost_70 (v := 1) (by decide) ?_
                      refine r_sipush d_Ip_leastCost_71 (v := 1000) (by decide) ?_
                      refine r_callS (As := [.int pa_, .int 1, .int 1000]) (rest := []) (csC := []) (is := []) ln_Ip_203 w_st_Ip_isWithin ok_Ip_leastCost_Ip_isWithin d_Ip_leastCost_74 (C_Ip_isWithin g pa_ 1 1000) rfl rfl (Nat.le_of_ble_eq_true rfl) rfl (by decide) (by omega) (by omega) (fun E cs1 hx => ?_) (fun v cs1 hx => ?_)
                      · exact absurd hx.1 (by simp)
                      · obtain ⟨e1, rfl⟩ := hx
                        cases e1
                        refine ⟨rfl, ?_⟩
                        refine r_st (st2 := [.int (if 1 ≤ pa_ ∧ pa_ ≤ 1000 then 1 else 0)]) rfl ?_
                        refine r_cs (cs2 := [(a, .inr (11, [.ref pa, .ref ta, .ref sa, .ref gs, .ref co, .ref fu, .ref la, .ref gy, .ref du, .ref re, .ref wm, .ref ac])), (re, .inr (9, [.int p0, .int a0, .int f0]))]) rfl ?_
                        refine r_if_ne (tgt := 91) d_Ip_leastCost_77 (by decide) (fun c_77 => ?_) (fun c_77 => ?_)
                        · refine r_aload_n d_Ip_leastCost_91 rfl 0 rfl ?_
                          refine r_get fs_Ip_67 d_Ip_leastCost_92 (q0 := 0) rfl rfl ?_
                          refine r_iload_n d_Ip_leastCost_95 rfl 1 rfl ?_
                          refine r_iload_n d_Ip_leastCost_96 rfl 2 rfl ?_
                          refine r_iload_n d_Ip_leastCost_97 rfl 3 rfl ?_
                          refine r_iload d_Ip_leastCost_98 4 rfl ?_
                          refine r_iload d_Ip_leastCost_100 5 rfl ?_
                          refine r_iload d_Ip_leastCost_102 6 rfl ?_
                          refine r_callV (As := [.int le, .int mo, .int si, .int pp, .int ps, .int pa_]) (rest := []) (csC := [(re, .inr (9, [.int p0, .int a0, .int f0]))]) (is := [1]) (q0 := 1) rfl rfl ln_Ip_374 w_im_Re_search w_se_Re_search ok_Ip_leastCost_Re_search d_Ip_leastCost_104 (C_Re_search g re p0 a0 f0 le mo si pp ps pa_) rfl rfl (Nat.le_of_ble_eq_true rfl) rfl (by decide) (by omega) (by omega) (fun E cs1 hx => ?_) (fun v cs1 hx => ?_)
                          · exact absurd hx.1 (by simp)
                          · obtain ⟨e1, rfl⟩ := hx
                            cases e1
                            refine ⟨rfl, ?_⟩
                            refine r_st (st2 := [.int ((rcO le mo si pp ps pa_ (-1, p0, a0, f0) 11).1)]) rfl ?_
                            refine r_cs (cs2 := [(a, .inr (11, [.ref pa, .ref ta, .ref sa, .ref gs, .ref co, .ref fu, .ref la, .ref gy, .ref du, .ref re, .ref wm, .ref ac])), (re, .inr (9, [.int ((rcO le mo si pp ps pa_ (-1, p0, a0, f0) 11).2.1), .int ((rcO le mo si pp ps pa_ (-1, p0, a0, f0) 11).2.2.1), .int ((rcO le mo si pp ps pa_ (-1, p0, a0, f0) 11).2.2.2)]))]) rfl ?_
                            refine r_istore (lv' := [(7, .int ((rcO le mo si pp ps pa_ (-1, p0, a0, f0) 11).1)), (0, .ref a), (1, .int le), (2, .int mo), (3, .int si), (4, .int pp), (5, .int ps), (6, .int pa_)]) d_Ip_leastCost_107 (by decide) rfl ?_
                            refine r_iload d_Ip_leastCost_109 0 rfl ?_
                            refine r_if_ge (tgt := 125) d_Ip_leastCost_111 (by decide) (fun c_111 => ?_) (fun c_111 => ?_)
                            · refine r_iload d_Ip_leastCost_125 0 rfl ?_
                              refine r_iret d_Ip_leastCost_127 rfl rfl ?_
                              exact ⟨rfl, rfl⟩
                            · exact absurd (Int32.not_le.mp c_111) hs
                        · exact absurd hw.2.2.2.2.2 (z_b0 c_77)
            · exact absurd hw.2.2.1 (z_b0 c_30)
end
section
abbrev M_AL_grow_1 : zM := (⟨"java/util/ArrayList", "grow", "(I)[Ljava/lang/Object;"⟩, prog_40_method_6_code, 4, (Option.some (FieldType.array (FieldType.object "java/lang/Object"))), 4, 144, [])
theorem d_AL_grow_1_0 : decode prog_40_method_6_code 0 = .ok (.aload_n 0, 1) := zo_42 (zd_b zq_prog_40_method_6_code_0 0 rfl rfl rfl)
theorem d_AL_grow_1_1 : decode prog_40_method_6_code 1 = .ok (.getfield 9, 3) := zo_180 (d := 0) (e := 9) (zd_b zq_prog_40_method_6_code_0 1 rfl rfl rfl) (zd_b zq_prog_40_method_6_code_0 2 rfl rfl rfl) (zd_b zq_prog_40_method_6_code_0 3 rfl rfl rfl)
theorem fs_AL_9 : z_fs "java/util/ArrayList" 9 13 1 := ⟨R_AL, "java/util/ArrayList", F_AL, 3, rfl, u_AL, by decide, Or.inl ⟨z_mj2 (i := 51) rfl (by decide +kernel), Or.inl rfl⟩⟩
theorem d_AL_grow_1_4 : decode prog_40_method_6_code 4 = .ok (.arraylength, 1) := zo_190 (zd_b zq_prog_40_method_6_code_0 4 rfl rfl rfl)
theorem d_AL_grow_1_5 : decode prog_40_method_6_code 5 = .ok (.istore_n 2, 1) := zo_61 (zd_b zq_prog_40_method_6_code_0 5 rfl rfl rfl)
theorem d_AL_grow_1_6 : decode prog_40_method_6_code 6 = .ok (.iload_n 2, 1) := zo_28 (zd_b zq_prog_40_method_6_code_0 6 rfl rfl rfl)
theorem d_AL_grow_1_7 : decode prog_40_method_6_code 7 = .ok (.ifCond .gt 13, 3) := zo_157 (d := 0) (e := 13) (zd_b zq_prog_40_method_6_code_0 7 rfl rfl rfl) (zd_b zq_prog_40_method_6_code_0 8 rfl rfl rfl) (zd_b zq_prog_40_method_6_code_0 9 rfl rfl rfl) (by decide +kernel)
theorem d_AL_grow_1_10 : decode prog_40_method_6_code 10 = .ok (.aload_n 0, 1) := zo_42 (zd_b zq_prog_40_method_6_code_0 10 rfl rfl rfl)
theorem d_AL_grow_1_11 : decode prog_40_method_6_code 11 = .ok (.getfield 9, 3) := zo_180 (d := 0) (e := 9) (zd_b zq_prog_40_method_6_code_0 11 rfl rfl rfl) (zd_b zq_prog_40_method_6_code_0 12 rfl rfl rfl) (zd_b zq_prog_40_method_6_code_0 13 rfl rfl rfl)
theorem d_AL_grow_1_14 : decode prog_40_method_6_code 14 = .ok (.getstatic 39, 3) := zo_178 (d := 0) (e := 39) (zd_b zq_prog_40_method_6_code_0 14 rfl rfl rfl) (zd_b zq_prog_40_method_6_code_0 15 rfl rfl rfl) (zd_b zq_prog_40_method_6_code_0 16 rfl rfl rfl)
theorem d_AL_grow_1_17 : decode prog_40_method_6_code 17 = .ok (.if_acmp .eq 28, 3) := zo_165 (d := 0) (e := 28) (zd_b zq_prog_40_method_6_code_0 17 rfl rfl rfl) (zd_b zq_prog_40_method_6_code_0 18 rfl rfl rfl) (zd_b zq_prog_40_method_6_code_0 19 rfl rfl rfl) (by decide +kernel)
theorem d_AL_grow_1_45 : decode prog_40_method_6_code 45 = .ok (.aload_n 0, 1) := zo_42 (zd_b zq_prog_40_method_6_code_1 13 rfl rfl rfl)
theorem d_AL_grow_1_46 : decode prog_40_method_6_code 46 = .ok (.bipush 10, 2) := zo_16 (d := 10) (zd_b zq_prog_40_method_6_code_1 14 rfl rfl rfl) (zd_b zq_prog_40_method_6_code_1 15 rfl rfl rfl) (by decide +kernel)
theorem d_AL_grow_1_48 : decode prog_40_method_6_code 48 = .ok (.iload_n 1, 1) := zo_27 (zd_b zq_prog_40_method_6_code_1 16 rfl rfl rfl)
theorem d_AL_grow_1_49 : decode prog_40_method_6_code 49 = .ok (.invokestatic 79, 3) := zo_184 (d := 0) (e := 79) (zd_b zq_prog_40_method_6_code_1 17 rfl rfl rfl) (zd_b zq_prog_40_method_6_code_1 18 rfl rfl rfl) (zd_b zq_prog_40_method_6_code_1 19 rfl rfl rfl)
theorem ln_AL_79 : Cond.methodLink "java/util/ArrayList" 79 Lib.Math.max.name ∈ z_gw := z_mj6 (i := 91) rfl (by decide +kernel)
theorem d_AL_grow_1_52 : decode prog_40_method_6_code 52 = .ok (.anewarray 7, 3) := zo_189 (d := 0) (e := 7) (zd_b zq_prog_40_method_6_code_1 20 rfl rfl rfl) (zd_b zq_prog_40_method_6_code_1 21 rfl rfl rfl) (zd_b zq_prog_40_method_6_code_1 22 rfl rfl rfl)
theorem lo_AL_7 : Cond.classLink "java/util/ArrayList" 7 "java/lang/Object" ∈ z_gw := z_mj6 (i := 92) rfl (by decide +kernel)
theorem d_AL_grow_1_55 : decode prog_40_method_6_code 55 = .ok (.dup_x1, 1) := zo_90 (zd_b zq_prog_40_method_6_code_1 23 rfl rfl rfl)
theorem d_AL_grow_1_56 : decode prog_40_method_6_code 56 = .ok (.putfield 9, 3) := zo_181 (d := 0) (e := 9) (zd_b zq_prog_40_method_6_code_1 24 rfl rfl rfl) (zd_b zq_prog_40_method_6_code_1 25 rfl rfl rfl) (zd_b zq_prog_40_method_6_code_1 26 rfl rfl rfl)
theorem d_AL_grow_1_59 : decode prog_40_method_6_code 59 = .ok (.areturn, 1) := zo_176 (zd_b zq_prog_40_method_6_code_1 27 rfl rfl rfl)
set_option maxHeartbeats 4000000 in
set_option maxRecDepth 100000 in
theorem C_AL_grow0I (g : zG) (a : Nat) (md : Int32) : CT g M_AL_grow_1 [.ref a, .int 1] [(a, .inr (13, [.int md, .ref (g.2.2 4), .int 0]))] (fun o cs1 => ∃ q, o = .inl (some (.ref q)) ∧ cs1 = [(a, .inr (13, [.int md, .ref q, .int 0])), (q, .inl (5, 10, .inr (.inr (.inr (.inr (fun _ => none))))))]) 1 10 := by
  refine z_of (by decide) rfl (Nat.le_of_ble_eq_true rfl) (fun w0 => ?_)
  refine r_lvE (lv2 := [(0, .ref a), (1, .int 1)]) rfl ?_
  refine r_aload_n d_AL_grow_1_0 rfl 0 rfl ?_
  refine r_get fs_AL_9 d_AL_grow_1_1 (q0 := 0) rfl rfl ?_
  refine r_tlenD d_AL_grow_1_4 ?_
  refine r_istore_n (lv' := [(2, .int 0), (0, .ref a), (1, .int 1)]) d_AL_grow_1_5 rfl (by decide) rfl ?_
  refine r_iload_n d_AL_grow_1_6 rfl 0 rfl ?_
  refine r_if_gt (tgt := 20) d_AL_grow_1_7 (by decide) (fun c_7 => ?_) (fun c_7 => ?_)
  · exact absurd c_7 (by decide)
  · refine r_aload_n d_AL_grow_1_10 rfl 1 rfl ?_
    refine r_get fs_AL_9 d_AL_grow_1_11 (q0 := 0) rfl rfl ?_
    refine r_getsD ls_AL_39 d_AL_grow_1_14 ?_
    refine r_acmp_eq (tgt := 45) d_AL_grow_1_17 (by decide) (fun c_17 => ?_) (fun c_17 => ?_)
    · refine r_aload_n d_AL_grow_1_45 rfl 1 rfl ?_
      refine r_bipush d_AL_grow_1_46 (v := 10) (by decide) ?_
      refine r_iload_n d_AL_grow_1_48 rfl 2 rfl ?_
      refine r_max (v := 10) ln_AL_79 w_mmax w_mi w_cmax d_AL_grow_1_49 (by decide) (by decide) (Nat.le_of_ble_eq_true rfl) rfl ?_
      refine r_anewa (N := 10) lo_AL_7 d_AL_grow_1_52 (by decide) (by decide) (by decide) (by omega) (by omega) (fun q => ?_)
      refine r_cs (cs2 := [(a, .inr (13, [.int md, .ref (g.2.2 4), .int 0])), (q, .inl (5, 10, .inr (.inr (.inr (.inr (fun _ => none))))))]) rfl ?_
      refine r_dupx1 d_AL_grow_1_55 rfl rfl ?_
      refine r_put fp_AL_9 d_AL_grow_1_56 (fun h => nomatch h) rfl rfl (q0 := 0) rfl (Nat.le_of_ble_eq_true rfl) (cs' := [(a, .inr (13, [.int md, .ref q, .int 0])), (q, .inl (5, 10, .inr (.inr (.inr (.inr (fun _ => none))))))]) rfl ?_
      refine r_aret d_AL_grow_1_59 rfl (Or.inr ⟨_, rfl⟩) (Or.inr ⟨_, rfl⟩) ?_
      exact ⟨q, rfl, rfl⟩
    · exact absurd rfl c_17
abbrev M_AL_grow_0 : zM := (⟨"java/util/ArrayList", "grow", "()[Ljava/lang/Object;"⟩, prog_40_method_7_code, 1, (Option.some (FieldType.array (FieldType.object "java/lang/Object"))), 5, 167, [])
theorem d_AL_grow_0_0 : decode prog_40_method_7_code 0 = .ok (.aload_n 0, 1) := zo_42 (zd_b zq_prog_40_method_7_code_0 0 rfl rfl rfl)
theorem d_AL_grow_0_1 : decode prog_40_method_7_code 1 = .ok (.aload_n 0, 1) := zo_42 (zd_b zq_prog_40_method_7_code_0 1 rfl rfl rfl)
theorem d_AL_grow_0_2 : decode prog_40_method_7_code 2 = .ok (.getfield 48, 3) := zo_180 (d := 0) (e := 48) (zd_b zq_prog_40_method_7_code_0 2 rfl rfl rfl) (zd_b zq_prog_40_method_7_code_0 3 rfl rfl rfl) (zd_b zq_prog_40_method_7_code_0 4 rfl rfl rfl)
theorem d_AL_grow_0_5 : decode prog_40_method_7_code 5 = .ok (.iconst 1, 1) := zo_4 (zd_b zq_prog_40_method_7_code_0 5 rfl rfl rfl)
theorem d_AL_grow_0_6 : decode prog_40_method_7_code 6 = .ok (.iadd, 1) := zo_96 (zd_b zq_prog_40_method_7_code_0 6 rfl rfl rfl)
theorem d_AL_grow_0_7 : decode prog_40_method_7_code 7 = .ok (.invokevirtual 69, 3) := zo_182 (d := 0) (e := 69) (zd_b zq_prog_40_method_7_code_0 7 rfl rfl rfl) (zd_b zq_prog_40_method_7_code_0 8 rfl rfl rfl) (zd_b zq_prog_40_method_7_code_0 9 rfl rfl rfl)
theorem ok_AL_grow_0_AL_grow_1 : z_ok M_AL_grow_0 M_AL_grow_1 1 := ⟨z_mj6 (i := 46) rfl (by decide +kernel), rfl, ⟨by decide +kernel, by decide +kernel, by decide +kernel⟩, ⟨by decide, by decide⟩, z_mj1 (i := 13) rfl (by decide +kernel), rfl⟩
theorem ln_AL_69 : Cond.methodLink "java/util/ArrayList" 69 M_AL_grow_1.1 ∈ z_gw := z_mj6 (i := 43) rfl (by decide +kernel)
theorem w_im_AL_grow_1 : Cond.instanceMethod M_AL_grow_1.1 ∈ z_gw := z_mj6 (i := 45) rfl (by decide +kernel)
theorem w_se_AL_grow_1 : Cond.selects M_AL_grow_1.1.cls M_AL_grow_1.1 M_AL_grow_1.1 ∈ z_gw := z_mem (i := 24) (by decide +kernel) (by decide +kernel)
theorem d_AL_grow_0_10 : decode prog_40_method_7_code 10 = .ok (.areturn, 1) := zo_176 (zd_b zq_prog_40_method_7_code_0 10 rfl rfl rfl)
set_option maxHeartbeats 4000000 in
set_option maxRecDepth 100000 in
theorem C_AL_grow0 (g : zG) (a : Nat) (md : Int32) : CT g M_AL_grow_0 [.ref a] [(a, .inr (13, [.int md, .ref (g.2.2 4), .int 0]))] (fun o cs1 => ∃ q, o = .inl (some (.ref q)) ∧ cs1 = [(a, .inr (13, [.int md, .ref q, .int 0])), (q, .inl (5, 10, .inr (.inr (.inr (.inr (fun _ => none))))))]) 1 10 := by
  refine z_of (by decide) rfl (Nat.le_of_ble_eq_true rfl) (fun w0 => ?_)
  refine r_lvE (lv2 := [(0, .ref a)]) rfl ?_
  refine r_aload_n d_AL_grow_0_0 rfl 0 rfl ?_
  refine r_aload_n d_AL_grow_0_1 rfl 0 rfl ?_
  refine r_get fs_AL_48 d_AL_grow_0_2 (q0 := 0) rfl rfl ?_
  refine r_iconst d_AL_grow_0_5 (v := 1) (by decide) ?_
  refine r_iadd d_AL_grow_0_6 (v := 1) rfl ?_
  refine r_callV (As := [.int 1]) (rest := []) (csC := [(a, .inr (13, [.int md, .ref (g.2.2 4), .int 0]))]) (is := [0]) (q0 := 0) rfl rfl ln_AL_69 w_im_AL_grow_1 w_se_AL_grow_1 ok_AL_grow_0_AL_grow_1 d_AL_grow_0_7 (C_AL_grow0I g a md) rfl rfl (Nat.le_of_ble_eq_true rfl) rfl (by decide) (by omega) (by omega) (fun E cs1 hx => ?_) (fun v cs1 hx => ?_)
  · obtain ⟨q, e1, -⟩ := hx
    cases e1
  · obtain ⟨q, e1, rfl⟩ := hx
    cases e1
    refine ⟨rfl, ?_⟩
    refine r_st (st2 := [.ref q]) rfl ?_
    refine r_cs (cs2 := [(a, .inr (13, [.int md, .ref q, .int 0])), (q, .inl (5, 10, .inr (.inr (.inr (.inr (fun _ => none))))))]) rfl ?_
    refine r_aret d_AL_grow_0_10 rfl (Or.inr ⟨_, rfl⟩) (Or.inr ⟨_, rfl⟩) ?_
    exact ⟨q, rfl, rfl⟩
abbrev M_AL_add_1 : zM := (⟨"java/util/ArrayList", "add", "(Ljava/lang/Object;[Ljava/lang/Object;I)V"⟩, prog_40_method_24_code, 4, (Option.none : Option FieldType), 6, 187, [])
theorem d_AL_add_1_0 : decode prog_40_method_24_code 0 = .ok (.iload_n 3, 1) := zo_29 (zd_b zq_prog_40_method_24_code_0 0 rfl rfl rfl)
theorem d_AL_add_1_1 : decode prog_40_method_24_code 1 = .ok (.aload_n 2, 1) := zo_44 (zd_b zq_prog_40_method_24_code_0 1 rfl rfl rfl)
theorem d_AL_add_1_2 : decode prog_40_method_24_code 2 = .ok (.arraylength, 1) := zo_190 (zd_b zq_prog_40_method_24_code_0 2 rfl rfl rfl)
theorem d_AL_add_1_3 : decode prog_40_method_24_code 3 = .ok (.if_icmp .ne 8, 3) := zo_160 (d := 0) (e := 8) (zd_b zq_prog_40_method_24_code_0 3 rfl rfl rfl) (zd_b zq_prog_40_method_24_code_0 4 rfl rfl rfl) (zd_b zq_prog_40_method_24_code_0 5 rfl rfl rfl) (by decide +kernel)
theorem d_AL_add_1_6 : decode prog_40_method_24_code 6 = .ok (.aload_n 0, 1) := zo_42 (zd_b zq_prog_40_method_24_code_0 6 rfl rfl rfl)
theorem d_AL_add_1_7 : decode prog_40_method_24_code 7 = .ok (.invokevirtual 129, 3) := zo_182 (d := 0) (e := 129) (zd_b zq_prog_40_method_24_code_0 7 rfl rfl rfl) (zd_b zq_prog_40_method_24_code_0 8 rfl rfl rfl) (zd_b zq_prog_40_method_24_code_0 9 rfl rfl rfl)
theorem ok_AL_add_1_AL_grow_0 : z_ok M_AL_add_1 M_AL_grow_0 0 := ⟨z_mj6 (i := 42) rfl (by decide +kernel), rfl, ⟨by decide +kernel, by decide +kernel, by decide +kernel⟩, ⟨by decide, by decide⟩, z_mj1 (i := 13) rfl (by decide +kernel), rfl⟩
theorem ln_AL_129 : Cond.methodLink "java/util/ArrayList" 129 M_AL_grow_0.1 ∈ z_gw := z_mj6 (i := 39) rfl (by decide +kernel)
theorem w_im_AL_grow_0 : Cond.instanceMethod M_AL_grow_0.1 ∈ z_gw := z_mj6 (i := 41) rfl (by decide +kernel)
theorem w_se_AL_grow_0 : Cond.selects M_AL_grow_0.1.cls M_AL_grow_0.1 M_AL_grow_0.1 ∈ z_gw := z_mem (i := 23) (by decide +kernel) (by decide +kernel)
theorem d_AL_add_1_10 : decode prog_40_method_24_code 10 = .ok (.astore_n 2, 1) := zo_77 (zd_b zq_prog_40_method_24_code_0 10 rfl rfl rfl)
theorem d_AL_add_1_11 : decode prog_40_method_24_code 11 = .ok (.aload_n 2, 1) := zo_44 (zd_b zq_prog_40_method_24_code_0 11 rfl rfl rfl)
theorem d_AL_add_1_12 : decode prog_40_method_24_code 12 = .ok (.iload_n 3, 1) := zo_29 (zd_b zq_prog_40_method_24_code_0 12 rfl rfl rfl)
theorem d_AL_add_1_13 : decode prog_40_method_24_code 13 = .ok (.aload_n 1, 1) := zo_43 (zd_b zq_prog_40_method_24_code_0 13 rfl rfl rfl)
theorem d_AL_add_1_14 : decode prog_40_method_24_code 14 = .ok (.aastore, 1) := zo_83 (zd_b zq_prog_40_method_24_code_0 14 rfl rfl rfl)
theorem d_AL_add_1_15 : decode prog_40_method_24_code 15 = .ok (.aload_n 0, 1) := zo_42 (zd_b zq_prog_40_method_24_code_0 15 rfl rfl rfl)
theorem d_AL_add_1_16 : decode prog_40_method_24_code 16 = .ok (.iload_n 3, 1) := zo_29 (zd_b zq_prog_40_method_24_code_0 16 rfl rfl rfl)
theorem d_AL_add_1_17 : decode prog_40_method_24_code 17 = .ok (.iconst 1, 1) := zo_4 (zd_b zq_prog_40_method_24_code_0 17 rfl rfl rfl)
theorem d_AL_add_1_18 : decode prog_40_method_24_code 18 = .ok (.iadd, 1) := zo_96 (zd_b zq_prog_40_method_24_code_0 18 rfl rfl rfl)
theorem d_AL_add_1_19 : decode prog_40_method_24_code 19 = .ok (.putfield 48, 3) := zo_181 (d := 0) (e := 48) (zd_b zq_prog_40_method_24_code_0 19 rfl rfl rfl) (zd_b zq_prog_40_method_24_code_0 20 rfl rfl rfl) (zd_b zq_prog_40_method_24_code_0 21 rfl rfl rfl)
theorem fp_AL_48 : z_fp "java/util/ArrayList" 48 13 2 false .int := ⟨R_AL, "java/util/ArrayList", F_AL, 3, t_AL, rfl, u_AL, by decide, t_AL_ok, n_AL, rfl, rfl, Or.inl ⟨z_mj2 (i := 52) rfl (by decide +kernel), Or.inl rfl, fun h => nomatch h⟩⟩
theorem d_AL_add_1_22 : decode prog_40_method_24_code 22 = .ok (.return_, 1) := zo_177 (zd_b zq_prog_40_method_24_code_0 22 rfl rfl rfl)
set_option maxHeartbeats 4000000 in
set_option maxRecDepth 100000 in
theorem C_AL_addA0 (g : zG) (a v : Nat) (md : Int32) (ek : zE) (ho : z_ob ek) : CT g M_AL_add_1 [.ref a, .ref v, .ref (g.2.2 4), .int 0] [(a, .inr (13, [.int md, .ref (g.2.2 4), .int 0])), (v, ek)] (fun o cs1 => ∃ q, o = .inl none ∧ cs1 = [(a, .inr (13, [.int md, .ref q, .int 1])), (v, ek), (q, .inl (5, 10, .inr (.inr (.inr (.inr (va_up (fun _ => none) 0 (some v)))))))]) 1 10 := by
  refine z_of (by decide) rfl (Nat.le_of_ble_eq_true rfl) (fun w0 => ?_)
  refine r_lvE (lv2 := [(0, .ref a), (1, .ref v), (2, .ref (g.2.2 4)), (3, .int 0)]) rfl ?_
  refine r_iload_n d_AL_add_1_0 rfl 3 rfl ?_
  refine r_aload_n d_AL_add_1_1 rfl 2 rfl ?_
  refine r_tlenD d_AL_add_1_2 ?_
  refine r_icmp_ne (tgt := 11) d_AL_add_1_3 (by decide) (fun c_3 => ?_) (fun c_3 => ?_)
  · exact absurd c_3 (by decide)
  · refine r_aload_n d_AL_add_1_6 rfl 0 rfl ?_
    refine r_callV (As := []) (rest := []) (csC := [(a, .inr (13, [.int md, .ref (g.2.2 4), .int 0]))]) (is := [0]) (q0 := 0) rfl rfl ln_AL_129 w_im_AL_grow_0 w_se_AL_grow_0 ok_AL_add_1_AL_grow_0 d_AL_add_1_7 (C_AL_grow0 g a md) rfl rfl (Nat.le_of_ble_eq_true rfl) rfl (by decide) (by omega) (by omega) (fun E cs1 hx => ?_) (fun v cs1 hx => ?_)
    · obtain ⟨q, e1, -⟩ := hx
      cases e1
    · obtain ⟨q, e1, rfl⟩ := hx
      cases e1
      refine ⟨rfl, ?_⟩
      refine r_st (st2 := [.ref q]) rfl ?_
      refine r_cs (cs2 := [(a, .inr (13, [.int md, .ref q, .int 0])), (v, ek), (q, .inl (5, 10, .inr (.inr (.inr (.inr (fun _ => none))))))]) rfl ?_
      refine r_astore_n (lv' := [(2, .ref q), (0, .ref a), (1, .ref v), (3, .int 0)]) d_AL_add_1_10 rfl (by decide) rfl ?_
      refine r_aload_n d_AL_add_1_11 rfl 0 rfl ?_
      refine r_iload_n d_AL_add_1_12 rfl 3 rfl ?_
      refine r_aload_n d_AL_add_1_13 rfl 2 rfl ?_
      refine r_aast d_AL_add_1_14 (q0 := 2) (qk := 1) rfl rfl ho (fun q => q.elim (by decide) (by decide)) (f' := va_up (fun _ => none) 0 (some v)) rfl (cs' := [(a, .inr (13, [.int md, .ref q, .int 0])), (v, ek), (q, .inl (5, 10, .inr (.inr (.inr (.inr (va_up (fun _ => none) 0 (some v)))))))]) rfl ?_
      refine r_aload_n d_AL_add_1_15 rfl 1 rfl ?_
      refine r_iload_n d_AL_add_1_16 rfl 3 rfl ?_
      refine r_iconst d_AL_add_1_17 (v := 1) (by decide) ?_
      refine r_iadd d_AL_add_1_18 (v := 1) rfl ?_
      refine r_put fp_AL_48 d_AL_add_1_19 (fun h => nomatch h) rfl rfl (q0 := 0) rfl (Nat.le_of_ble_eq_true rfl) (cs' := [(a, .inr (13, [.int md, .ref q, .int 1])), (v, ek), (q, .inl (5, 10, .inr (.inr (.inr (.inr (va_up (fun _ => none) 0 (some v)))))))]) rfl ?_
      refine r_vret d_AL_add_1_22 rfl ?_
      exact ⟨q, rfl, rfl⟩
abbrev M_AL_add_0 : zM := (⟨"java/util/ArrayList", "add", "(Ljava/lang/Object;)Z"⟩, prog_40_method_25_code, 2, (Option.some FieldType.boolean), 7, 210, [])
theorem d_AL_add_0_0 : decode prog_40_method_25_code 0 = .ok (.aload_n 0, 1) := zo_42 (zd_b zq_prog_40_method_25_code_0 0 rfl rfl rfl)
theorem d_AL_add_0_1 : decode prog_40_method_25_code 1 = .ok (.dup, 1) := zo_89 (zd_b zq_prog_40_method_25_code_0 1 rfl rfl rfl)
theorem d_AL_add_0_2 : decode prog_40_method_25_code 2 = .ok (.getfield 63, 3) := zo_180 (d := 0) (e := 63) (zd_b zq_prog_40_method_25_code_0 2 rfl rfl rfl) (zd_b zq_prog_40_method_25_code_0 3 rfl rfl rfl) (zd_b zq_prog_40_method_25_code_0 4 rfl rfl rfl)
theorem fs_AL_63 : z_fs "java/util/ArrayList" 63 13 0 := ⟨R_AL, "java/util/ArrayList", F_AL, 3, rfl, u_AL, by decide, Or.inl ⟨z_mj2 (i := 54) rfl (by decide +kernel), Or.inr (z_mj2 (i := 55) rfl (by decide +kernel))⟩⟩
theorem d_AL_add_0_5 : decode prog_40_method_25_code 5 = .ok (.iconst 1, 1) := zo_4 (zd_b zq_prog_40_method_25_code_0 5 rfl rfl rfl)
theorem d_AL_add_0_6 : decode prog_40_method_25_code 6 = .ok (.iadd, 1) := zo_96 (zd_b zq_prog_40_method_25_code_0 6 rfl rfl rfl)
theorem d_AL_add_0_7 : decode prog_40_method_25_code 7 = .ok (.putfield 63, 3) := zo_181 (d := 0) (e := 63) (zd_b zq_prog_40_method_25_code_0 7 rfl rfl rfl) (zd_b zq_prog_40_method_25_code_0 8 rfl rfl rfl) (zd_b zq_prog_40_method_25_code_0 9 rfl rfl rfl)
theorem fp_AL_63 : z_fp "java/util/ArrayList" 63 13 0 false .int := ⟨R_AL, "java/util/ArrayList", F_AL, 3, t_AL, rfl, u_AL, by decide, t_AL_ok, n_AL, rfl, rfl, Or.inl ⟨z_mj2 (i := 54) rfl (by decide +kernel), Or.inr (z_mj2 (i := 55) rfl (by decide +kernel)), fun h => nomatch h⟩⟩
theorem d_AL_add_0_10 : decode prog_40_method_25_code 10 = .ok (.aload_n 0, 1) := zo_42 (zd_b zq_prog_40_method_25_code_0 10 rfl rfl rfl)
theorem d_AL_add_0_11 : decode prog_40_method_25_code 11 = .ok (.aload_n 1, 1) := zo_43 (zd_b zq_prog_40_method_25_code_0 11 rfl rfl rfl)
theorem d_AL_add_0_12 : decode prog_40_method_25_code 12 = .ok (.aload_n 0, 1) := zo_42 (zd_b zq_prog_40_method_25_code_0 12 rfl rfl rfl)
theorem d_AL_add_0_13 : decode prog_40_method_25_code 13 = .ok (.getfield 9, 3) := zo_180 (d := 0) (e := 9) (zd_b zq_prog_40_method_25_code_0 13 rfl rfl rfl) (zd_b zq_prog_40_method_25_code_0 14 rfl rfl rfl) (zd_b zq_prog_40_method_25_code_0 15 rfl rfl rfl)
theorem d_AL_add_0_16 : decode prog_40_method_25_code 16 = .ok (.aload_n 0, 1) := zo_42 (zd_b zq_prog_40_method_25_code_0 16 rfl rfl rfl)
theorem d_AL_add_0_17 : decode prog_40_method_25_code 17 = .ok (.getfield 48, 3) := zo_180 (d := 0) (e := 48) (zd_b zq_prog_40_method_25_code_0 17 rfl rfl rfl) (zd_b zq_prog_40_method_25_code_0 18 rfl rfl rfl) (zd_b zq_prog_40_method_25_code_0 19 rfl rfl rfl)
theorem d_AL_add_0_20 : decode prog_40_method_25_code 20 = .ok (.invokevirtual 131, 3) := zo_182 (d := 0) (e := 131) (zd_b zq_prog_40_method_25_code_0 20 rfl rfl rfl) (zd_b zq_prog_40_method_25_code_0 21 rfl rfl rfl) (zd_b zq_prog_40_method_25_code_0 22 rfl rfl rfl)
theorem ok_AL_add_0_AL_add_1 : z_ok M_AL_add_0 M_AL_add_1 3 := ⟨z_mj6 (i := 38) rfl (by decide +kernel), rfl, ⟨by decide +kernel, by decide +kernel, by decide +kernel⟩, ⟨by decide, by decide⟩, z_mj1 (i := 13) rfl (by decide +kernel), rfl⟩
theorem ln_AL_131 : Cond.methodLink "java/util/ArrayList" 131 M_AL_add_1.1 ∈ z_gw := z_mj6 (i := 35) rfl (by decide +kernel)
theorem w_im_AL_add_1 : Cond.instanceMethod M_AL_add_1.1 ∈ z_gw := z_mj6 (i := 37) rfl (by decide +kernel)
theorem w_se_AL_add_1 : Cond.selects M_AL_add_1.1.cls M_AL_add_1.1 M_AL_add_1.1 ∈ z_gw := z_mem (i := 22) (by decide +kernel) (by decide +kernel)
theorem d_AL_add_0_23 : decode prog_40_method_25_code 23 = .ok (.iconst 1, 1) := zo_4 (zd_b zq_prog_40_method_25_code_0 23 rfl rfl rfl)
theorem d_AL_add_0_24 : decode prog_40_method_25_code 24 = .ok (.ireturn, 1) := zo_172 (zd_b zq_prog_40_method_25_code_0 24 rfl rfl rfl)
set_option maxHeartbeats 4000000 in
set_option maxRecDepth 100000 in
theorem C_AL_add0 (g : zG) (a v : Nat) (md : Int32) (ek : zE) (ho : z_ob ek) : CT g M_AL_add_0 [.ref a, .ref v] [(a, .inr (13, [.int md, .ref (g.2.2 4), .int 0])), (v, ek)] (fun o cs1 => ∃ q, o = .inl (some (.int 1)) ∧ cs1 = [(a, .inr (13, [.int (md + 1), .ref q, .int 1])), (v, ek), (q, .inl (5, 10, .inr (.inr (.inr (.inr (va_up (fun _ => none) 0 (some v)))))))]) 1 10 := by
  refine z_of (by decide) rfl (Nat.le_of_ble_eq_true rfl) (fun w0 => ?_)
  refine r_lvE (lv2 := [(0, .ref a), (1, .ref v)]) rfl ?_
  refine r_aload_n d_AL_add_0_0 rfl 0 rfl ?_
  refine r_dup d_AL_add_0_1 rfl ?_
  refine r_get fs_AL_63 d_AL_add_0_2 (q0 := 0) rfl rfl ?_
  refine r_iconst d_AL_add_0_5 (v := 1) (by decide) ?_
  refine r_iadd d_AL_add_0_6 (v := md + 1) rfl ?_
  refine r_put fp_AL_63 d_AL_add_0_7 (fun h => nomatch h) rfl rfl (q0 := 0) rfl (Nat.le_of_ble_eq_true rfl) (cs' := [(a, .inr (13, [.int (md + 1), .ref (g.2.2 4), .int 0])), (v, ek)]) rfl ?_
  refine r_aload_n d_AL_add_0_10 rfl 0 rfl ?_
  refine r_aload_n d_AL_add_0_11 rfl 1 rfl ?_
  refine r_aload_n d_AL_add_0_12 rfl 0 rfl ?_
  refine r_get fs_AL_9 d_AL_add_0_13 (q0 := 0) rfl rfl ?_
  refine r_aload_n d_AL_add_0_16 rfl 0 rfl ?_
  refine r_get fs_AL_48 d_AL_add_0_17 (q0 := 0) rfl rfl ?_
  refine r_callV (As := [.ref v, .ref (g.2.2 4), .int 0]) (rest := []) (csC := [(a, .inr (13, [.int (md + 1), .ref (g.2.2 4), .int 0])), (v, ek)]) (is := [0, 1]) (q0 := 0) rfl rfl ln_AL_131 w_im_AL_add_1 w_se_AL_add_1 ok_AL_add_0_AL_add_1 d_AL_add_0_20 (C_AL_addA0 g a v (md + 1) ek ho) rfl rfl (Nat.le_of_ble_eq_true rfl) rfl (by decide) (by omega) (by omega) (fun E cs1 hx => ?_) (fun v cs1 hx => ?_)
  · obtain ⟨q, e1, -⟩ := hx
    cases e1
  · obtain ⟨q, e1, rfl⟩ := hx
    cases e1
    refine ⟨rfl, ?_⟩
    refine r_st (st2 := []) rfl ?_
    refine r_cs (cs2 := [(a, .inr (13, [.int (md + 1), .ref q, .int 1])), (v, ek), (q, .inl (5, 10, .inr (.inr (.inr (.inr (va_up (fun _ => none) 0 (some v)))))))]) rfl ?_
    refine r_iconst d_AL_add_0_23 (v := 1) (by decide) ?_
    refine r_iret d_AL_add_0_24 rfl rfl ?_
    exact ⟨q, rfl, rfl⟩
abbrev M_Preconditions_checkIndex : zM := (⟨"jdk/internal/util/Preconditions", "checkIndex", "(IILjava/util/function/BiFunction;)I"⟩, prog_49_method_11_code, 3, (Option.some FieldType.int), 1, 20, [])
theorem d_Preconditions_checkIndex_0 : decode prog_49_method_11_code 0 = .ok (.iload_n 0, 1) := zo_26 (zd_b zq_prog_49_method_11_code_0 0 rfl rfl rfl)
theorem d_Preconditions_checkIndex_1 : decode prog_49_method_11_code 1 = .ok (.ifCond .lt 8, 3) := zo_155 (d := 0) (e := 8) (zd_b zq_prog_49_method_11_code_0 1 rfl rfl rfl) (zd_b zq_prog_49_method_11_code_0 2 rfl rfl rfl) (zd_b zq_prog_49_method_11_code_0 3 rfl rfl rfl) (by decide +kernel)
theorem d_Preconditions_checkIndex_4 : decode prog_49_method_11_code 4 = .ok (.iload_n 0, 1) := zo_26 (zd_b zq_prog_49_method_11_code_0 4 rfl rfl rfl)
theorem d_Preconditions_checkIndex_5 : decode prog_49_method_11_code 5 = .ok (.iload_n 1, 1) := zo_27 (zd_b zq_prog_49_method_11_code_0 5 rfl rfl rfl)
theorem d_Preconditions_checkIndex_6 : decode prog_49_method_11_code 6 = .ok (.if_icmp .lt 10, 3) := zo_161 (d := 0) (e := 10) (zd_b zq_prog_49_method_11_code_0 6 rfl rfl rfl) (zd_b zq_prog_49_method_11_code_0 7 rfl rfl rfl) (zd_b zq_prog_49_method_11_code_0 8 rfl rfl rfl) (by decide +kernel)
theorem d_Preconditions_checkIndex_16 : decode prog_49_method_11_code 16 = .ok (.iload_n 0, 1) := zo_26 (zd_b zq_prog_49_method_11_code_0 16 rfl rfl rfl)
theorem d_Preconditions_checkIndex_17 : decode prog_49_method_11_code 17 = .ok (.ireturn, 1) := zo_172 (zd_b zq_prog_49_method_11_code_0 17 rfl rfl rfl)
set_option maxHeartbeats 4000000 in
set_option maxRecDepth 100000 in
theorem C_Pr_checkIndex (g : zG) (x sz : Int32) (h0 : ¬ x < 0) (h1 : x < sz) : CT g M_Preconditions_checkIndex [.int x, .int sz, .null] [] (fun o cs1 => o = .inl (some (.int x)) ∧ cs1 = []) 0 0 := by
  refine z_of (by decide) rfl (Nat.le_of_ble_eq_true rfl) (fun w0 => ?_)
  refine r_lvE (lv2 := [(0, .int x), (1, .int sz), (2, .null)]) rfl ?_
  refine r_iload_n d_Preconditions_checkIndex_0 rfl 0 rfl ?_
  refine r_if_lt (tgt := 9) d_Preconditions_checkIndex_1 (by decide) (fun c_1 => ?_) (fun c_1 => ?_)
  · exact absurd c_1 h0
  · refine r_iload_n d_Preconditions_checkIndex_4 rfl 0 rfl ?_
    refine r_iload_n d_Preconditions_checkIndex_5 rfl 1 rfl ?_
    refine r_icmp_lt (tgt := 16) d_Preconditions_checkIndex_6 (by decide) (fun c_6 => ?_) (fun c_6 => ?_)
    · refine r_iload_n d_Preconditions_checkIndex_16 rfl 0 rfl ?_
      refine r_iret d_Preconditions_checkIndex_17 rfl rfl ?_
      exact ⟨rfl, rfl⟩
    · exact absurd h1 c_6
abbrev M_Objects_checkIndex : zM := (⟨"java/util/Objects", "checkIndex", "(II)I"⟩, prog_45_method_17_code, 2, (Option.some FieldType.int), 2, 42, [])
theorem d_Objects_checkIndex_0 : decode prog_45_method_17_code 0 = .ok (.iload_n 0, 1) := zo_26 (zd_b zq_prog_45_method_17_code_0 0 rfl rfl rfl)
theorem d_Objects_checkIndex_1 : decode prog_45_method_17_code 1 = .ok (.iload_n 1, 1) := zo_27 (zd_b zq_prog_45_method_17_code_0 1 rfl rfl rfl)
theorem d_Objects_checkIndex_2 : decode prog_45_method_17_code 2 = .ok (.aconst_null, 1) := zo_1 (zd_b zq_prog_45_method_17_code_0 2 rfl rfl rfl)
theorem d_Objects_checkIndex_3 : decode prog_45_method_17_code 3 = .ok (.invokestatic 105, 3) := zo_184 (d := 0) (e := 105) (zd_b zq_prog_45_method_17_code_0 3 rfl rfl rfl) (zd_b zq_prog_45_method_17_code_0 4 rfl rfl rfl) (zd_b zq_prog_45_method_17_code_0 5 rfl rfl rfl)
theorem ok_Objects_checkIndex_Preconditions_checkIndex : z_ok M_Objects_checkIndex M_Preconditions_checkIndex 3 := ⟨z_mj2 (i := 186) rfl (by decide +kernel), rfl, ⟨by decide +kernel, by decide +kernel, by decide +kernel⟩, ⟨by decide, by decide⟩, z_mj1 (i := 19) rfl (by decide +kernel), rfl⟩
theorem ln_Objects_105 : Cond.methodLink "java/util/Objects" 105 M_Preconditions_checkIndex.1 ∈ z_gw := z_mj2 (i := 184) rfl (by decide +kernel)
theorem w_st_Preconditions_checkIndex : Cond.static M_Preconditions_checkIndex.1 ∈ z_gw := z_mj2 (i := 185) rfl (by decide +kernel)
theorem d_Objects_checkIndex_6 : decode prog_45_method_17_code 6 = .ok (.ireturn, 1) := zo_172 (zd_b zq_prog_45_method_17_code_0 6 rfl rfl rfl)
set_option maxHeartbeats 4000000 in
set_option maxRecDepth 100000 in
theorem C_Ob_checkIndex (g : zG) (x sz : Int32) (h0 : ¬ x < 0) (h1 : x < sz) : CT g M_Objects_checkIndex [.int x, .int sz] [] (fun o cs1 => o = .inl (some (.int x)) ∧ cs1 = []) 0 0 := by
  refine z_of (by decide) rfl (Nat.le_of_ble_eq_true rfl) (fun w0 => ?_)
  refine r_lvE (lv2 := [(0, .int x), (1, .int sz)]) rfl ?_
  refine r_iload_n d_Objects_checkIndex_0 rfl 0 rfl ?_
  refine r_iload_n d_Objects_checkIndex_1 rfl 1 rfl ?_
  refine r_null d_Objects_checkIndex_2 ?_
  refine r_callS (As := [.int x, .int sz, .null]) (rest := []) (csC := []) (is := []) ln_Objects_105 w_st_Preconditions_checkIndex ok_Objects_checkIndex_Preconditions_checkIndex d_Objects_checkIndex_3 (C_Pr_checkIndex g x sz h0 h1) rfl rfl (Nat.le_of_ble_eq_true rfl) rfl (by decide) (by omega) (by omega) (fun E cs1 hx => ?_) (fun v cs1 hx => ?_)
  · exact absurd hx.1 (by simp)
  · obtain ⟨e1, rfl⟩ := hx
    cases e1
    refine ⟨rfl, ?_⟩
    refine r_st (st2 := [.int x]) rfl ?_
    refine r_cs (cs2 := []) rfl ?_
    refine r_iret d_Objects_checkIndex_6 rfl rfl ?_
    exact ⟨rfl, rfl⟩
abbrev M_AL_elementData : zM := (⟨"java/util/ArrayList", "elementData", "(I)Ljava/lang/Object;"⟩, prog_40_method_18_code, 2, (Option.some (FieldType.object "java/lang/Object")), 1, 20, [])
theorem d_AL_elementData_0 : decode prog_40_method_18_code 0 = .ok (.aload_n 0, 1) := zo_42 (zd_b zq_prog_40_method_18_code_0 0 rfl rfl rfl)
theorem d_AL_elementData_1 : decode prog_40_method_18_code 1 = .ok (.getfield 9, 3) := zo_180 (d := 0) (e := 9) (zd_b zq_prog_40_method_18_code_0 1 rfl rfl rfl) (zd_b zq_prog_40_method_18_code_0 2 rfl rfl rfl) (zd_b zq_prog_40_method_18_code_0 3 rfl rfl rfl)
theorem d_AL_elementData_4 : decode prog_40_method_18_code 4 = .ok (.iload_n 1, 1) := zo_27 (zd_b zq_prog_40_method_18_code_0 4 rfl rfl rfl)
theorem d_AL_elementData_5 : decode prog_40_method_18_code 5 = .ok (.aaload, 1) := zo_50 (zd_b zq_prog_40_method_18_code_0 5 rfl rfl rfl)
theorem d_AL_elementData_6 : decode prog_40_method_18_code 6 = .ok (.areturn, 1) := zo_176 (zd_b zq_prog_40_method_18_code_0 6 rfl rfl rfl)
set_option maxHeartbeats 4000000 in
set_option maxRecDepth 100000 in
theorem C_AL_elementData (g : zG) (a dd N : Nat) (md sz : Int32) (f : Nat → Option Nat) (x : Int32) (v : Nat) (hin : vp_in x N) (hv : f x.toNatClampNeg = some v) : CT g M_AL_elementData [.ref a, .int x] [(a, .inr (13, [.int md, .ref dd, .int sz])), (dd, .inl (5, N, .inr (.inr (.inr (.inr f)))))] (fun o cs1 => o = .inl (some (.ref v)) ∧ cs1 = [(a, .inr (13, [.int md, .ref dd, .int sz])), (dd, .inl (5, N, .inr (.inr (.inr (.inr f)))))]) 0 0 := by
  refine z_of (by decide) rfl (Nat.le_of_ble_eq_true rfl) (fun w0 => ?_)
  refine r_lvE (lv2 := [(0, .ref a), (1, .int x)]) rfl ?_
  refine r_aload_n d_AL_elementData_0 rfl 0 rfl ?_
  refine r_get fs_AL_9 d_AL_elementData_1 (q0 := 0) rfl rfl ?_
  refine r_iload_n d_AL_elementData_4 rfl 1 rfl ?_
  refine r_aald d_AL_elementData_5 (q0 := 1) rfl hin (v := .ref v) (by rw [hv]; rfl) ?_
  refine r_aret d_AL_elementData_6 rfl (Or.inl ⟨_, rfl⟩) (Or.inr ⟨_, rfl⟩) ?_
  exact ⟨rfl, rfl⟩
abbrev M_AL_get : zM := (⟨"java/util/ArrayList", "get", "(I)Ljava/lang/Object;"⟩, prog_40_method_20_code, 2, (Option.some (FieldType.object "java/lang/Object")), 3, 63, [])
theorem d_AL_get_0 : decode prog_40_method_20_code 0 = .ok (.iload_n 1, 1) := zo_27 (zd_b zq_prog_40_method_20_code_0 0 rfl rfl rfl)
theorem d_AL_get_1 : decode prog_40_method_20_code 1 = .ok (.aload_n 0, 1) := zo_42 (zd_b zq_prog_40_method_20_code_0 1 rfl rfl rfl)
theorem d_AL_get_2 : decode prog_40_method_20_code 2 = .ok (.getfield 48, 3) := zo_180 (d := 0) (e := 48) (zd_b zq_prog_40_method_20_code_0 2 rfl rfl rfl) (zd_b zq_prog_40_method_20_code_0 3 rfl rfl rfl) (zd_b zq_prog_40_method_20_code_0 4 rfl rfl rfl)
theorem d_AL_get_5 : decode prog_40_method_20_code 5 = .ok (.invokestatic 118, 3) := zo_184 (d := 0) (e := 118) (zd_b zq_prog_40_method_20_code_0 5 rfl rfl rfl) (zd_b zq_prog_40_method_20_code_0 6 rfl rfl rfl) (zd_b zq_prog_40_method_20_code_0 7 rfl rfl rfl)
theorem ok_AL_get_Objects_checkIndex : z_ok M_AL_get M_Objects_checkIndex 2 := ⟨z_mj2 (i := 183) rfl (by decide +kernel), rfl, ⟨by decide +kernel, by decide +kernel, by decide +kernel⟩, ⟨by decide, by decide⟩, z_mj1 (i := 32) rfl (by decide +kernel), rfl⟩
theorem ln_AL_118 : Cond.methodLink "java/util/ArrayList" 118 M_Objects_checkIndex.1 ∈ z_gw := z_mj2 (i := 181) rfl (by decide +kernel)
theorem w_st_Objects_checkIndex : Cond.static M_Objects_checkIndex.1 ∈ z_gw := z_mj2 (i := 182) rfl (by decide +kernel)
theorem d_AL_get_8 : decode prog_40_method_20_code 8 = .ok (.pop, 1) := zo_87 (zd_b zq_prog_40_method_20_code_0 8 rfl rfl rfl)
theorem d_AL_get_9 : decode prog_40_method_20_code 9 = .ok (.aload_n 0, 1) := zo_42 (zd_b zq_prog_40_method_20_code_0 9 rfl rfl rfl)
theorem d_AL_get_10 : decode prog_40_method_20_code 10 = .ok (.iload_n 1, 1) := zo_27 (zd_b zq_prog_40_method_20_code_0 10 rfl rfl rfl)
theorem d_AL_get_11 : decode prog_40_method_20_code 11 = .ok (.invokevirtual 123, 3) := zo_182 (d := 0) (e := 123) (zd_b zq_prog_40_method_20_code_0 11 rfl rfl rfl) (zd_b zq_prog_40_method_20_code_0 12 rfl rfl rfl) (zd_b zq_prog_40_method_20_code_0 13 rfl rfl rfl)
theorem ok_AL_get_AL_elementData : z_ok M_AL_get M_AL_elementData 1 := ⟨z_mj2 (i := 190) rfl (by decide +kernel), rfl, ⟨by decide +kernel, by decide +kernel, by decide +kernel⟩, ⟨by decide, by decide⟩, z_mj1 (i := 13) rfl (by decide +kernel), rfl⟩
theorem ln_AL_123 : Cond.methodLink "java/util/ArrayList" 123 M_AL_elementData.1 ∈ z_gw := z_mj2 (i := 187) rfl (by decide +kernel)
theorem w_im_AL_elementData : Cond.instanceMethod M_AL_elementData.1 ∈ z_gw := z_mj2 (i := 188) rfl (by decide +kernel)
theorem w_se_AL_elementData : Cond.selects M_AL_elementData.1.cls M_AL_elementData.1 M_AL_elementData.1 ∈ z_gw := z_mj2 (i := 189) rfl (by decide +kernel)
theorem d_AL_get_14 : decode prog_40_method_20_code 14 = .ok (.areturn, 1) := zo_176 (zd_b zq_prog_40_method_20_code_0 14 rfl rfl rfl)
set_option maxHeartbeats 4000000 in
set_option maxRecDepth 100000 in
theorem C_AL_get (g : zG) (a dd N : Nat) (md sz : Int32) (f : Nat → Option Nat) (x : Int32) (v : Nat) (hin : vp_in x N) (hv : f x.toNatClampNeg = some v) (h0 : ¬ x < 0) (h1 : x < sz) : CT g M_AL_get [.ref a, .int x] [(a, .inr (13, [.int md, .ref dd, .int sz])), (dd, .inl (5, N, .inr (.inr (.inr (.inr f)))))] (fun o cs1 => o = .inl (some (.ref v)) ∧ cs1 = [(a, .inr (13, [.int md, .ref dd, .int sz])), (dd, .inl (5, N, .inr (.inr (.inr (.inr f)))))]) 0 0 := by
  refine z_of (by decide) rfl (Nat.le_of_ble_eq_true rfl) (fun w0 => ?_)
  refine r_lvE (lv2 := [(0, .ref a), (1, .int x)]) rfl ?_
  refine r_iload_n d_AL_get_0 rfl 1 rfl ?_
  refine r_aload_n d_AL_get_1 rfl 0 rfl ?_
  refine r_get fs_AL_48 d_AL_get_2 (q0 := 0) rfl rfl ?_
  refine r_callS (As := [.int x, .int sz]) (rest := []) (csC := []) (is := []) ln_AL_118 w_st_Objects_checkIndex ok_AL_get_Objects_checkIndex d_AL_get_5 (C_Ob_checkIndex g x sz h0 h1) rfl rfl (Nat.le_of_ble_eq_true rfl) rfl (by decide) (by omega) (by omega) (fun E cs1 hx => ?_) (fun v cs1 hx => ?_)
  · exact absurd hx.1 (by simp)
  · obtain ⟨e1, rfl⟩ := hx
    cases e1
    refine ⟨rfl, ?_⟩
    refine r_st (st2 := [.int x]) rfl ?_
    refine r_cs (cs2 := [(a, .inr (13, [.int md, .ref dd, .int sz])), (dd, .inl (5, N, .inr (.inr (.inr (.inr f)))))]) rfl ?_
    refine r_pop d_AL_get_8 rfl ?_
    refine r_aload_n d_AL_get_9 rfl 0 rfl ?_
    refine r_iload_n d_AL_get_10 rfl 1 rfl ?_
    refine r_callV (As := [.int x]) (rest := []) (csC := [(a, .inr (13, [.int md, .ref dd, .int sz])), (dd, .inl (5, N, .inr (.inr (.inr (.inr f)))))]) (is := [0, 1]) (q0 := 0) rfl rfl ln_AL_123 w_im_AL_elementData w_se_AL_elementData ok_AL_get_AL_elementData d_AL_get_11 (C_AL_elementData g a dd N md sz f x v hin hv) rfl rfl (Nat.le_of_ble_eq_true rfl) rfl (by decide) (by omega) (by omega) (fun E cs1 hx => ?_) (fun v cs1 hx => ?_)
    · exact absurd hx.1 (by simp)
    · obtain ⟨e1, rfl⟩ := hx
      cases e1
      refine ⟨rfl, ?_⟩
      refine r_st (st2 := [.ref v]) rfl ?_
      refine r_cs (cs2 := [(a, .inr (13, [.int md, .ref dd, .int sz])), (dd, .inl (5, N, .inr (.inr (.inr (.inr f)))))]) rfl ?_
      refine r_aret d_AL_get_14 rfl (Or.inl ⟨_, rfl⟩) (Or.inr ⟨_, rfl⟩) ?_
      exact ⟨rfl, rfl⟩
end
section
theorem z_clN {x y : Int32} (h : z_cl x y = none) : ¬ (0 ≤ x ∧ x < 12 ∧ 0 ≤ y ∧ y < 9) := fun q => by rw [z_cl, if_pos q] at h; cases h
theorem z_sub1 {a : Nat} (h : 1 ≤ a) : nI a + (-1) = nI (a - 1) := by rw [← nI_sub1 h, Int32.sub_eq_add_neg]
abbrev M_Mm_fails : zM := (⟨"IronpourModel", "fails", "(ZI)Z"⟩, prog_14_method_4_code, 3, (Option.some FieldType.boolean), 1, 20, [])
theorem d_Mm_fails_0 : decode prog_14_method_4_code 0 = .ok (.iload_n 1, 1) := zo_27 (zd_b zq_prog_14_method_4_code_0 0 rfl rfl rfl)
theorem d_Mm_fails_1 : decode prog_14_method_4_code 1 = .ok (.ifCond .eq 15, 3) := zo_153 (d := 0) (e := 15) (zd_b zq_prog_14_method_4_code_0 1 rfl rfl rfl) (zd_b zq_prog_14_method_4_code_0 2 rfl rfl rfl) (zd_b zq_prog_14_method_4_code_0 3 rfl rfl rfl) (by decide +kernel)
theorem d_Mm_fails_16 : decode prog_14_method_4_code 16 = .ok (.aload_n 0, 1) := zo_42 (zd_b zq_prog_14_method_4_code_0 16 rfl rfl rfl)
theorem d_Mm_fails_17 : decode prog_14_method_4_code 17 = .ok (.getfield 84, 3) := zo_180 (d := 0) (e := 84) (zd_b zq_prog_14_method_4_code_0 17 rfl rfl rfl) (zd_b zq_prog_14_method_4_code_0 18 rfl rfl rfl) (zd_b zq_prog_14_method_4_code_0 19 rfl rfl rfl)
theorem u_Mm : ∀ x ∈ u_ws R_Mm F_Mm 31, x ∈ z_gw := fun x hx => List.mem_filter.mpr ⟨(z_au [(7, 114), (7, 116), (7, 118), (7, 120), (7, 122), (7, 124), (7, 126), (7, 128), (7, 130), (7, 132), (7, 134), (7, 136), (7, 138), (7, 140), (7, 142), (7, 144), (7, 146), (7, 148), (7, 150), (7, 152), (7, 154), (7, 156), (7, 158), (7, 160), (7, 162), (7, 164), (7, 166), (7, 168), (7, 170), (7, 172), (7, 174)] (by decide +kernel) : ∀ x ∈ u_ws R_Mm F_Mm 31, x ∈ lw_tbl) x hx, (show ∀ x ∈ u_ws R_Mm F_Mm 31, goodWord x = true by decide +kernel) x hx⟩
theorem fs_Mm_84 : z_fs "IronpourModel" 84 12 0 := ⟨R_Mm, "IronpourModel", F_Mm, 31, rfl, u_Mm, by decide, Or.inl ⟨z_mj7 (i := 83) rfl (by decide +kernel), Or.inl rfl⟩⟩
theorem d_Mm_fails_20 : decode prog_14_method_4_code 20 = .ok (.ifCond .eq 7, 3) := zo_153 (d := 0) (e := 7) (zd_b zq_prog_14_method_4_code_0 20 rfl rfl rfl) (zd_b zq_prog_14_method_4_code_0 21 rfl rfl rfl) (zd_b zq_prog_14_method_4_code_0 22 rfl rfl rfl) (by decide +kernel)
theorem d_Mm_fails_27 : decode prog_14_method_4_code 27 = .ok (.iconst 0, 1) := zo_3 (zd_b zq_prog_14_method_4_code_0 27 rfl rfl rfl)
theorem d_Mm_fails_28 : decode prog_14_method_4_code 28 = .ok (.ireturn, 1) := zo_172 (zd_b zq_prog_14_method_4_code_0 28 rfl rfl rfl)
set_option maxHeartbeats 4000000 in
set_option maxRecDepth 100000 in
theorem C_Mm_fails0 (g : zG) (m mp mf mh mn mt mz mc_ mq mgr ml mi mr mm mu mk mx : Nat) (th pt cl wa co_ fi bu ho lh mg wd fpi fal : Int32) (po de : Int64) (e : Int32) : CT g M_Mm_fails [.ref m, .int 0, .int e] [(m, .inr (12, [.int 0, .ref mp, .int pt, .ref mf, .ref mh, .ref mn, .ref mt, .ref mz, .ref mc_, .ref mq, .ref mgr, .int cl, .int wa, .int co_, .int fi, .int bu, .int ho, .ref ml, .ref mi, .ref mr, .int lh, .int mg, .int wd, .int fpi, .int fal, .ref mm, .ref mu, .ref mk, .ref mx, .long po, .long de]))] (fun o cs1 => o = .inl (some (.int 0)) ∧ cs1 = [(m, .inr (12, [.int 0, .ref mp, .int pt, .ref mf, .ref mh, .ref mn, .ref mt, .ref mz, .ref mc_, .ref mq, .ref mgr, .int cl, .int wa, .int co_, .int fi, .int bu, .int ho, .ref ml, .ref mi, .ref mr, .int lh, .int mg, .int wd, .int fpi, .int fal, .ref mm, .ref mu, .ref mk, .ref mx, .long po, .long de]))]) 0 0 := by
  refine z_of (by decide) rfl (Nat.le_of_ble_eq_true rfl) (fun w0 => ?_)
  refine r_lvE (lv2 := [(0, .ref m), (1, .int 0), (2, .int e)]) rfl ?_
  refine r_iload_n d_Mm_fails_0 rfl 1 rfl ?_
  refine r_if_eq (tgt := 16) d_Mm_fails_1 (by decide) (fun c_1 => ?_) (fun c_1 => ?_)
  · refine r_aload_n d_Mm_fails_16 rfl 0 rfl ?_
    refine r_get fs_Mm_84 d_Mm_fails_17 (q0 := 0) rfl rfl ?_
    refine r_if_eq (tgt := 27) d_Mm_fails_20 (by decide) (fun c_20 => ?_) (fun c_20 => ?_)
    · refine r_iconst d_Mm_fails_27 (v := 0) (by decide) ?_
      refine r_iret d_Mm_fails_28 rfl rfl ?_
      exact ⟨rfl, rfl⟩
    · exact absurd c_20 (by decide)
  · exact absurd c_1 (by decide)
theorem d_Mm_fails_4 : decode prog_14_method_4_code 4 = .ok (.aload_n 0, 1) := zo_42 (zd_b zq_prog_14_method_4_code_0 4 rfl rfl rfl)
theorem d_Mm_fails_5 : decode prog_14_method_4_code 5 = .ok (.getfield 84, 3) := zo_180 (d := 0) (e := 84) (zd_b zq_prog_14_method_4_code_0 5 rfl rfl rfl) (zd_b zq_prog_14_method_4_code_0 6 rfl rfl rfl) (zd_b zq_prog_14_method_4_code_0 7 rfl rfl rfl)
theorem d_Mm_fails_8 : decode prog_14_method_4_code 8 = .ok (.ifCond .ne 8, 3) := zo_154 (d := 0) (e := 8) (zd_b zq_prog_14_method_4_code_0 8 rfl rfl rfl) (zd_b zq_prog_14_method_4_code_0 9 rfl rfl rfl) (zd_b zq_prog_14_method_4_code_0 10 rfl rfl rfl) (by decide +kernel)
theorem d_Mm_fails_11 : decode prog_14_method_4_code 11 = .ok (.aload_n 0, 1) := zo_42 (zd_b zq_prog_14_method_4_code_0 11 rfl rfl rfl)
theorem d_Mm_fails_12 : decode prog_14_method_4_code 12 = .ok (.iload_n 2, 1) := zo_28 (zd_b zq_prog_14_method_4_code_0 12 rfl rfl rfl)
theorem d_Mm_fails_13 : decode prog_14_method_4_code 13 = .ok (.putfield 84, 3) := zo_181 (d := 0) (e := 84) (zd_b zq_prog_14_method_4_code_0 13 rfl rfl rfl) (zd_b zq_prog_14_method_4_code_0 14 rfl rfl rfl) (zd_b zq_prog_14_method_4_code_0 15 rfl rfl rfl)
theorem fp_Mm_84 : z_fp "IronpourModel" 84 12 0 false .int := ⟨R_Mm, "IronpourModel", F_Mm, 31, t_Mm, rfl, u_Mm, by decide, t_Mm_ok, n_Mm, rfl, rfl, Or.inl ⟨z_mj7 (i := 83) rfl (by decide +kernel), Or.inl rfl, fun h => nomatch h⟩⟩
theorem d_Mm_fails_23 : decode prog_14_method_4_code 23 = .ok (.iconst 1, 1) := zo_4 (zd_b zq_prog_14_method_4_code_0 23 rfl rfl rfl)
theorem d_Mm_fails_24 : decode prog_14_method_4_code 24 = .ok (.goto 4, 3) := zo_167 (d := 0) (e := 4) (zd_b zq_prog_14_method_4_code_0 24 rfl rfl rfl) (zd_b zq_prog_14_method_4_code_0 25 rfl rfl rfl) (zd_b zq_prog_14_method_4_code_0 26 rfl rfl rfl) (by decide +kernel)
set_option maxHeartbeats 4000000 in
set_option maxRecDepth 100000 in
theorem C_Mm_fails1 (g : zG) (m mp mf mh mn mt mz mc_ mq mgr ml mi mr mm mu mk mx : Nat) (th pt cl wa co_ fi bu ho lh mg wd fpi fal : Int32) (po de : Int64) : CT g M_Mm_fails [.ref m, .int 1, .int 1] [(m, .inr (12, [.int 0, .ref mp, .int pt, .ref mf, .ref mh, .ref mn, .ref mt, .ref mz, .ref mc_, .ref mq, .ref mgr, .int cl, .int wa, .int co_, .int fi, .int bu, .int ho, .ref ml, .ref mi, .ref mr, .int lh, .int mg, .int wd, .int fpi, .int fal, .ref mm, .ref mu, .ref mk, .ref mx, .long po, .long de]))] (fun o cs1 => o = .inl (some (.int 1)) ∧ cs1 = [(m, .inr (12, [.int 1, .ref mp, .int pt, .ref mf, .ref mh, .ref mn, .ref mt, .ref mz, .ref mc_, .ref mq, .ref mgr, .int cl, .int wa, .int co_, .int fi, .int bu, .int ho, .ref ml, .ref mi, .ref mr, .int lh, .int mg, .int wd, .int fpi, .int fal, .ref mm, .ref mu, .ref mk, .ref mx, .long po, .long de]))]) 0 0 := by
  refine z_of (by decide) rfl (Nat.le_of_ble_eq_true rfl) (fun w0 => ?_)
  refine r_lvE (lv2 := [(0, .ref m), (1, .int 1), (2, .int 1)]) rfl ?_
  refine r_iload_n d_Mm_fails_0 rfl 1 rfl ?_
  refine r_if_eq (tgt := 16) d_Mm_fails_1 (by decide) (fun c_1 => ?_) (fun c_1 => ?_)
  · exact absurd c_1 (by decide)
  · refine r_aload_n d_Mm_fails_4 rfl 0 rfl ?_
    refine r_get fs_Mm_84 d_Mm_fails_5 (q0 := 0) rfl rfl ?_
    refine r_if_ne (tgt := 16) d_Mm_fails_8 (by decide) (fun c_8 => ?_) (fun c_8 => ?_)
    · exact absurd c_8 (by decide)
    · refine r_aload_n d_Mm_fails_11 rfl 0 rfl ?_
      refine r_iload_n d_Mm_fails_12 rfl 2 rfl ?_
      refine r_put fp_Mm_84 d_Mm_fails_13 (fun h => nomatch h) rfl rfl (q0 := 0) rfl (Nat.le_of_ble_eq_true rfl) (cs' := [(m, .inr (12, [.int 1, .ref mp, .int pt, .ref mf, .ref mh, .ref mn, .ref mt, .ref mz, .ref mc_, .ref mq, .ref mgr, .int cl, .int wa, .int co_, .int fi, .int bu, .int ho, .ref ml, .ref mi, .ref mr, .int lh, .int mg, .int wd, .int fpi, .int fal, .ref mm, .ref mu, .ref mk, .ref mx, .long po, .long de]))]) rfl ?_
      refine r_aload_n d_Mm_fails_16 rfl 0 rfl ?_
      refine r_get fs_Mm_84 d_Mm_fails_17 (q0 := 0) rfl rfl ?_
      refine r_if_eq (tgt := 27) d_Mm_fails_20 (by decide) (fun c_20 => ?_) (fun c_20 => ?_)
      · exact absurd c_20 (by decide)
      · refine r_iconst d_Mm_fails_23 (v := 1) (by decide) ?_
        refine r_goto (tgt := 28) d_Mm_fails_24 (by decide) ?_
        refine r_iret d_Mm_fails_28 rfl rfl ?_
        exact ⟨rfl, rfl⟩
set_option maxHeartbeats 4000000 in
set_option maxRecDepth 100000 in
theorem C_Mm_fails2 (g : zG) (m mp mf mh mn mt mz mc_ mq mgr ml mi mr mm mu mk mx : Nat) (th pt cl wa co_ fi bu ho lh mg wd fpi fal : Int32) (po de : Int64) : CT g M_Mm_fails [.ref m, .int 1, .int 2] [(m, .inr (12, [.int 0, .ref mp, .int pt, .ref mf, .ref mh, .ref mn, .ref mt, .ref mz, .ref mc_, .ref mq, .ref mgr, .int cl, .int wa, .int co_, .int fi, .int bu, .int ho, .ref ml, .ref mi, .ref mr, .int lh, .int mg, .int wd, .int fpi, .int fal, .ref mm, .ref mu, .ref mk, .ref mx, .long po, .long de]))] (fun o cs1 => o = .inl (some (.int 1)) ∧ cs1 = [(m, .inr (12, [.int 2, .ref mp, .int pt, .ref mf, .ref mh, .ref mn, .ref mt, .ref mz, .ref mc_, .ref mq, .ref mgr, .int cl, .int wa, .int co_, .int fi, .int bu, .int ho, .ref ml, .ref mi, .ref mr, .int lh, .int mg, .int wd, .int fpi, .int fal, .ref mm, .ref mu, .ref mk, .ref mx, .long po, .long de]))]) 0 0 := by
  refine z_of (by decide) rfl (Nat.le_of_ble_eq_true rfl) (fun w0 => ?_)
  refine r_lvE (lv2 := [(0, .ref m), (1, .int 1), (2, .int 2)]) rfl ?_
  refine r_iload_n d_Mm_fails_0 rfl 1 rfl ?_
  refine r_if_eq (tgt := 16) d_Mm_fails_1 (by decide) (fun c_1 => ?_) (fun c_1 => ?_)
  · exact absurd c_1 (by decide)
  · refine r_aload_n d_Mm_fails_4 rfl 0 rfl ?_
    refine r_get fs_Mm_84 d_Mm_fails_5 (q0 := 0) rfl rfl ?_
    refine r_if_ne (tgt := 16) d_Mm_fails_8 (by decide) (fun c_8 => ?_) (fun c_8 => ?_)
    · exact absurd c_8 (by decide)
    · refine r_aload_n d_Mm_fails_11 rfl 0 rfl ?_
      refine r_iload_n d_Mm_fails_12 rfl 2 rfl ?_
      refine r_put fp_Mm_84 d_Mm_fails_13 (fun h => nomatch h) rfl rfl (q0 := 0) rfl (Nat.le_of_ble_eq_true rfl) (cs' := [(m, .inr (12, [.int 2, .ref mp, .int pt, .ref mf, .ref mh, .ref mn, .ref mt, .ref mz, .ref mc_, .ref mq, .ref mgr, .int cl, .int wa, .int co_, .int fi, .int bu, .int ho, .ref ml, .ref mi, .ref mr, .int lh, .int mg, .int wd, .int fpi, .int fal, .ref mm, .ref mu, .ref mk, .ref mx, .long po, .long de]))]) rfl ?_
      refine r_aload_n d_Mm_fails_16 rfl 0 rfl ?_
      refine r_get fs_Mm_84 d_Mm_fails_17 (q0 := 0) rfl rfl ?_
      refine r_if_eq (tgt := 27) d_Mm_fails_20 (by decide) (fun c_20 => ?_) (fun c_20 => ?_)
      · exact absurd c_20 (by decide)
      · refine r_iconst d_Mm_fails_23 (v := 1) (by decide) ?_
        refine r_goto (tgt := 28) d_Mm_fails_24 (by decide) ?_
        refine r_iret d_Mm_fails_28 rfl rfl ?_
        exact ⟨rfl, rfl⟩
set_option maxHeartbeats 4000000 in
set_option maxRecDepth 100000 in
theorem C_Mm_fails3 (g : zG) (m mp mf mh mn mt mz mc_ mq mgr ml mi mr mm mu mk mx : Nat) (th pt cl wa co_ fi bu ho lh mg wd fpi fal : Int32) (po de : Int64) : CT g M_Mm_fails [.ref m, .int 1, .int 3] [(m, .inr (12, [.int 0, .ref mp, .int pt, .ref mf, .ref mh, .ref mn, .ref mt, .ref mz, .ref mc_, .ref mq, .ref mgr, .int cl, .int wa, .int co_, .int fi, .int bu, .int ho, .ref ml, .ref mi, .ref mr, .int lh, .int mg, .int wd, .int fpi, .int fal, .ref mm, .ref mu, .ref mk, .ref mx, .long po, .long de]))] (fun o cs1 => o = .inl (some (.int 1)) ∧ cs1 = [(m, .inr (12, [.int 3, .ref mp, .int pt, .ref mf, .ref mh, .ref mn, .ref mt, .ref mz, .ref mc_, .ref mq, .ref mgr, .int cl, .int wa, .int co_, .int fi, .int bu, .int ho, .ref ml, .ref mi, .ref mr, .int lh, .int mg, .int wd, .int fpi, .int fal, .ref mm, .ref mu, .ref mk, .ref mx, .long po, .long de]))]) 0 0 := by
  refine z_of (by decide) rfl (Nat.le_of_ble_eq_true rfl) (fun w0 => ?_)
  refine r_lvE (lv2 := [(0, .ref m), (1, .int 1), (2, .int 3)]) rfl ?_
  refine r_iload_n d_Mm_fails_0 rfl 1 rfl ?_
  refine r_if_eq (tgt := 16) d_Mm_fails_1 (by decide) (fun c_1 => ?_) (fun c_1 => ?_)
  · exact absurd c_1 (by decide)
  · refine r_aload_n d_Mm_fails_4 rfl 0 rfl ?_
    refine r_get fs_Mm_84 d_Mm_fails_5 (q0 := 0) rfl rfl ?_
    refine r_if_ne (tgt := 16) d_Mm_fails_8 (by decide) (fun c_8 => ?_) (fun c_8 => ?_)
    · exact absurd c_8 (by decide)
    · refine r_aload_n d_Mm_fails_11 rfl 0 rfl ?_
      refine r_iload_n d_Mm_fails_12 rfl 2 rfl ?_
      refine r_put fp_Mm_84 d_Mm_fails_13 (fun h => nomatch h) rfl rfl (q0 := 0) rfl (Nat.le_of_ble_eq_true rfl) (cs' := [(m, .inr (12, [.int 3, .ref mp, .int pt, .ref mf, .ref mh, .ref mn, .ref mt, .ref mz, .ref mc_, .ref mq, .ref mgr, .int cl, .int wa, .int co_, .int fi, .int bu, .int ho, .ref ml, .ref mi, .ref mr, .int lh, .int mg, .int wd, .int fpi, .int fal, .ref mm, .ref mu, .ref mk, .ref mx, .long po, .long de]))]) rfl ?_
      refine r_aload_n d_Mm_fails_16 rfl 0 rfl ?_
      refine r_get fs_Mm_84 d_Mm_fails_17 (q0 := 0) rfl rfl ?_
      refine r_if_eq (tgt := 27) d_Mm_fails_20 (by decide) (fun c_20 => ?_) (fun c_20 => ?_)
      · exact absurd c_20 (by decide)
      · refine r_iconst d_Mm_fails_23 (v := 1) (by decide) ?_
        refine r_goto (tgt := 28) d_Mm_fails_24 (by decide) ?_
        refine r_iret d_Mm_fails_28 rfl rfl ?_
        exact ⟨rfl, rfl⟩
abbrev M_Mm_isCell : zM := (⟨"IronpourModel", "isCell", "(II)Z"⟩, prog_14_method_5_code, 2, (Option.some FieldType.boolean), 2, 42, [])
theorem d_Mm_isCell_0 : decode prog_14_method_5_code 0 = .ok (.iload_n 0, 1) := zo_26 (zd_b zq_prog_14_method_5_code_0 0 rfl rfl rfl)
theorem d_Mm_isCell_1 : decode prog_14_method_5_code 1 = .ok (.iconst 0, 1) := zo_3 (zd_b zq_prog_14_method_5_code_0 1 rfl rfl rfl)
theorem d_Mm_isCell_2 : decode prog_14_method_5_code 2 = .ok (.bipush 11, 2) := zo_16 (d := 11) (zd_b zq_prog_14_method_5_code_0 2 rfl rfl rfl) (zd_b zq_prog_14_method_5_code_0 3 rfl rfl rfl) (by decide +kernel)
theorem d_Mm_isCell_4 : decode prog_14_method_5_code 4 = .ok (.invokestatic 87, 3) := zo_184 (d := 0) (e := 87) (zd_b zq_prog_14_method_5_code_0 4 rfl rfl rfl) (zd_b zq_prog_14_method_5_code_0 5 rfl rfl rfl) (zd_b zq_prog_14_method_5_code_0 6 rfl rfl rfl)
theorem ok_Mm_isCell_Mm_in : z_ok M_Mm_isCell M_Mm_in 3 := ⟨z_mj7 (i := 190) rfl (by decide +kernel), rfl, ⟨by decide +kernel, by decide +kernel, by decide +kernel⟩, ⟨by decide, by decide⟩, z_mj1 (i := 14) rfl (by decide +kernel), rfl⟩
theorem ln_Mm_87 : Cond.methodLink "IronpourModel" 87 M_Mm_in.1 ∈ z_gw := z_mj7 (i := 188) rfl (by decide +kernel)
theorem w_st_Mm_in : Cond.static M_Mm_in.1 ∈ z_gw := z_mj7 (i := 189) rfl (by decide +kernel)
theorem d_Mm_isCell_7 : decode prog_14_method_5_code 7 = .ok (.ifCond .eq 17, 3) := zo_153 (d := 0) (e := 17) (zd_b zq_prog_14_method_5_code_0 7 rfl rfl rfl) (zd_b zq_prog_14_method_5_code_0 8 rfl rfl rfl) (zd_b zq_prog_14_method_5_code_0 9 rfl rfl rfl) (by decide +kernel)
theorem d_Mm_isCell_24 : decode prog_14_method_5_code 24 = .ok (.iconst 0, 1) := zo_3 (zd_b zq_prog_14_method_5_code_0 24 rfl rfl rfl)
theorem d_Mm_isCell_25 : decode prog_14_method_5_code 25 = .ok (.ireturn, 1) := zo_172 (zd_b zq_prog_14_method_5_code_0 25 rfl rfl rfl)
theorem d_Mm_isCell_10 : decode prog_14_method_5_code 10 = .ok (.iload_n 1, 1) := zo_27 (zd_b zq_prog_14_method_5_code_0 10 rfl rfl rfl)
theorem d_Mm_isCell_11 : decode prog_14_method_5_code 11 = .ok (.iconst 0, 1) := zo_3 (zd_b zq_prog_14_method_5_code_0 11 rfl rfl rfl)
theorem d_Mm_isCell_12 : decode prog_14_method_5_code 12 = .ok (.bipush 8, 2) := zo_16 (d := 8) (zd_b zq_prog_14_method_5_code_0 12 rfl rfl rfl) (zd_b zq_prog_14_method_5_code_0 13 rfl rfl rfl) (by decide +kernel)
theorem d_Mm_isCell_14 : decode prog_14_method_5_code 14 = .ok (.invokestatic 87, 3) := zo_184 (d := 0) (e := 87) (zd_b zq_prog_14_method_5_code_0 14 rfl rfl rfl) (zd_b zq_prog_14_method_5_code_0 15 rfl rfl rfl) (zd_b zq_prog_14_method_5_code_0 16 rfl rfl rfl)
theorem d_Mm_isCell_17 : decode prog_14_method_5_code 17 = .ok (.ifCond .eq 7, 3) := zo_153 (d := 0) (e := 7) (zd_b zq_prog_14_method_5_code_0 17 rfl rfl rfl) (zd_b zq_prog_14_method_5_code_0 18 rfl rfl rfl) (zd_b zq_prog_14_method_5_code_0 19 rfl rfl rfl) (by decide +kernel)
theorem d_Mm_isCell_20 : decode prog_14_method_5_code 20 = .ok (.iconst 1, 1) := zo_4 (zd_b zq_prog_14_method_5_code_0 20 rfl rfl rfl)
theorem d_Mm_isCell_21 : decode prog_14_method_5_code 21 = .ok (.goto 4, 3) := zo_167 (d := 0) (e := 4) (zd_b zq_prog_14_method_5_code_0 21 rfl rfl rfl) (zd_b zq_prog_14_method_5_code_0 22 rfl rfl rfl) (zd_b zq_prog_14_method_5_code_0 23 rfl rfl rfl) (by decide +kernel)
set_option maxHeartbeats 4000000 in
set_option maxRecDepth 100000 in
theorem C_Mm_isCell (g : zG) (x y : Int32) : CT g M_Mm_isCell [.int x, .int y] [] (fun o cs1 => o = .inl (some (.int (if 0 ≤ x ∧ x < 12 ∧ 0 ≤ y ∧ y < 9 then 1 else 0))) ∧ cs1 = []) 0 0 := by
  refine z_of (by decide) rfl (Nat.le_of_ble_eq_true rfl) (fun w0 => ?_)
  refine r_lvE (lv2 := [(0, .int x), (1, .int y)]) rfl ?_
  refine r_iload_n d_Mm_isCell_0 rfl 0 rfl ?_
  refine r_iconst d_Mm_isCell_1 (v := 0) (by decide) ?_
  refine r_bipush d_Mm_isCell_2 (v := 11) (by decide) ?_
  refine r_callS (As := [.int x, .int 0, .int 11]) (rest := []) (csC := []) (is := []) ln_Mm_87 w_st_Mm_in ok_Mm_isCell_Mm_in d_Mm_isCell_4 (C_Mm_in g x 0 11) rfl rfl (Nat.le_of_ble_eq_true rfl) rfl (by decide) (by omega) (by omega) (fun E cs1 hx => ?_) (fun v cs1 hx => ?_)
  · exact absurd hx.1 (by simp)
  · obtain ⟨e1, rfl⟩ := hx
    cases e1
    refine ⟨rfl, ?_⟩
    refine r_st (st2 := [.int (if 0 ≤ x ∧ x ≤ 11 then 1 else 0)]) rfl ?_
    refine r_cs (cs2 := []) rfl ?_
    refine r_if_eq (tgt := 24) d_Mm_isCell_7 (by decide) (fun c_7 => ?_) (fun c_7 => ?_)
    · have h7 := z_b0 c_7
      refine r_iconst d_Mm_isCell_24 (v := 0) (by decide) ?_
      refine r_iret d_Mm_isCell_25 rfl rfl ?_
      refine ⟨?_, rfl⟩
      split <;> first | rfl | (exfalso; simp only [fa_lt, fa_le] at *; have e0 : (0 : Int32).toInt = 0 := rfl; have e12 : (12 : Int32).toInt = 12 := rfl; have e9 : (9 : Int32).toInt = 9 := rfl; have e11 : (11 : Int32).toInt = 11 := rfl; have e8 : (8 : Int32).toInt = 8 := rfl; omega)
    · have h7 := z_b1 c_7
      refine r_iload_n d_Mm_isCell_10 rfl 1 rfl ?_
      refine r_iconst d_Mm_isCell_11 (v := 0) (by decide) ?_
      refine r_bipush d_Mm_isCell_12 (v := 8) (by decide) ?_
      refine r_callS (As := [.int y, .int 0, .int 8]) (rest := []) (csC := []) (is := []) ln_Mm_87 w_st_Mm_in ok_Mm_isCell_Mm_in d_Mm_isCell_14 (C_Mm_in g y 0 8) rfl rfl (Nat.le_of_ble_eq_true rfl) rfl (by decide) (by omega) (by omega) (fun E cs1 hx => ?_) (fun v cs1 hx => ?_)
      · exact absurd hx.1 (by simp)
      · obtain ⟨e1, rfl⟩ := hx
        cases e1
        refine ⟨rfl, ?_⟩
        refine r_st (st2 := [.int (if 0 ≤ y ∧ y ≤ 8 then 1 else 0)]) rfl ?_
        refine r_cs (cs2 := []) rfl ?_
        refine r_if_eq (tgt := 24) d_Mm_isCell_17 (by decide) (fun c_17 => ?_) (fun c_17 => ?_)
        · have h17 := z_b0 c_17
          refine r_iconst d_Mm_isCell_24 (v := 0) (by decide) ?_
          refine r_iret d_Mm_isCell_25 rfl rfl ?_
          refine ⟨?_, rfl⟩
          split <;> first | rfl | (exfalso; simp only [fa_lt, fa_le] at *; have e0 : (0 : Int32).toInt = 0 := rfl; have e12 : (12 : Int32).toInt = 12 := rfl; have e9 : (9 : Int32).toInt = 9 := rfl; have e11 : (11 : Int32).toInt = 11 := rfl; have e8 : (8 : Int32).toInt = 8 := rfl; omega)
        · have h17 := z_b1 c_17
          refine r_iconst d_Mm_isCell_20 (v := 1) (by decide) ?_
          refine r_goto (tgt := 25) d_Mm_isCell_21 (by decide) ?_
          refine r_iret d_Mm_isCell_25 rfl rfl ?_
          refine ⟨?_, rfl⟩
          split <;> first | rfl | (exfalso; simp only [fa_lt, fa_le] at *; have e0 : (0 : Int32).toInt = 0 := rfl; have e12 : (12 : Int32).toInt = 12 := rfl; have e9 : (9 : Int32).toInt = 9 := rfl; have e11 : (11 : Int32).toInt = 11 := rfl; have e8 : (8 : Int32).toInt = 8 := rfl; omega)
abbrev M_Mm_noHeat : zM := (⟨"IronpourModel", "noHeat", "(I)Z"⟩, prog_14_method_32_code, 1, (Option.some FieldType.boolean), 2, 42, [])
theorem d_Mm_noHeat_0 : decode prog_14_method_32_code 0 = .ok (.iload_n 0, 1) := zo_26 (zd_b zq_prog_14_method_32_code_0 0 rfl rfl rfl)
theorem d_Mm_noHeat_1 : decode prog_14_method_32_code 1 = .ok (.sipush 1200, 3) := zo_17 (d := 4) (e := 176) (zd_b zq_prog_14_method_32_code_0 1 rfl rfl rfl) (zd_b zq_prog_14_method_32_code_0 2 rfl rfl rfl) (zd_b zq_prog_14_method_32_code_0 3 rfl rfl rfl) (by decide +kernel)
theorem d_Mm_noHeat_4 : decode prog_14_method_32_code 4 = .ok (.sipush 1500, 3) := zo_17 (d := 5) (e := 220) (zd_b zq_prog_14_method_32_code_0 4 rfl rfl rfl) (zd_b zq_prog_14_method_32_code_0 5 rfl rfl rfl) (zd_b zq_prog_14_method_32_code_0 6 rfl rfl rfl) (by decide +kernel)
theorem d_Mm_noHeat_7 : decode prog_14_method_32_code 7 = .ok (.invokestatic 87, 3) := zo_184 (d := 0) (e := 87) (zd_b zq_prog_14_method_32_code_0 7 rfl rfl rfl) (zd_b zq_prog_14_method_32_code_0 8 rfl rfl rfl) (zd_b zq_prog_14_method_32_code_0 9 rfl rfl rfl)
theorem ok_Mm_noHeat_Mm_in : z_ok M_Mm_noHeat M_Mm_in 3 := ⟨z_mj7 (i := 190) rfl (by decide +kernel), rfl, ⟨by decide +kernel, by decide +kernel, by decide +kernel⟩, ⟨by decide, by decide⟩, z_mj1 (i := 14) rfl (by decide +kernel), rfl⟩
theorem d_Mm_noHeat_10 : decode prog_14_method_32_code 10 = .ok (.ifCond .ne 7, 3) := zo_154 (d := 0) (e := 7) (zd_b zq_prog_14_method_32_code_0 10 rfl rfl rfl) (zd_b zq_prog_14_method_32_code_0 11 rfl rfl rfl) (zd_b zq_prog_14_method_32_code_0 12 rfl rfl rfl) (by decide +kernel)
theorem d_Mm_noHeat_17 : decode prog_14_method_32_code 17 = .ok (.iconst 0, 1) := zo_3 (zd_b zq_prog_14_method_32_code_0 17 rfl rfl rfl)
theorem d_Mm_noHeat_18 : decode prog_14_method_32_code 18 = .ok (.ireturn, 1) := zo_172 (zd_b zq_prog_14_method_32_code_0 18 rfl rfl rfl)
set_option maxHeartbeats 4000000 in
set_option maxRecDepth 100000 in
theorem C_Mm_noHeat0 (g : zG) (h : Int32) (hh : 1200 ≤ h ∧ h ≤ 1500) : CT g M_Mm_noHeat [.int h] [] (fun o cs1 => o = .inl (some (.int 0)) ∧ cs1 = []) 0 0 := by
  refine z_of (by decide) rfl (Nat.le_of_ble_eq_true rfl) (fun w0 => ?_)
  refine r_lvE (lv2 := [(0, .int h)]) rfl ?_
  refine r_iload_n d_Mm_noHeat_0 rfl 0 rfl ?_
  refine r_sipush d_Mm_noHeat_1 (v := 1200) (by decide) ?_
  refine r_sipush d_Mm_noHeat_4 (v := 1500) (by decide) ?_
  refine r_callS (As := [.int h, .int 1200, .int 1500]) (rest := []) (csC := []) (is := []) ln_Mm_87 w_st_Mm_in ok_Mm_noHeat_Mm_in d_Mm_noHeat_7 (C_Mm_in g h 1200 1500) rfl rfl (Nat.le_of_ble_eq_true rfl) rfl (by decide) (by omega) (by omega) (fun E cs1 hx => ?_) (fun v cs1 hx => ?_)
  · exact absurd hx.1 (by simp)
  · obtain ⟨e1, rfl⟩ := hx
    rw [if_pos hh] at e1
    cases e1
    refine ⟨rfl, ?_⟩
    refine r_st (st2 := [.int 1]) rfl ?_
    refine r_cs (cs2 := []) rfl ?_
    refine r_if_ne (tgt := 17) d_Mm_noHeat_10 (by decide) (fun c_10 => ?_) (fun c_10 => ?_)
    · refine r_iconst d_Mm_noHeat_17 (v := 0) (by decide) ?_
      refine r_iret d_Mm_noHeat_18 rfl rfl ?_
      exact ⟨rfl, rfl⟩
    · exact absurd c_10 (by decide)
theorem d_Mm_noHeat_13 : decode prog_14_method_32_code 13 = .ok (.iconst 1, 1) := zo_4 (zd_b zq_prog_14_method_32_code_0 13 rfl rfl rfl)
theorem d_Mm_noHeat_14 : decode prog_14_method_32_code 14 = .ok (.goto 4, 3) := zo_167 (d := 0) (e := 4) (zd_b zq_prog_14_method_32_code_0 14 rfl rfl rfl) (zd_b zq_prog_14_method_32_code_0 15 rfl rfl rfl) (zd_b zq_prog_14_method_32_code_0 16 rfl rfl rfl) (by decide +kernel)
set_option maxHeartbeats 4000000 in
set_option maxRecDepth 100000 in
theorem C_Mm_noHeat1 (g : zG) (h : Int32) (hh : ¬ (1200 ≤ h ∧ h ≤ 1500)) : CT g M_Mm_noHeat [.int h] [] (fun o cs1 => o = .inl (some (.int 1)) ∧ cs1 = []) 0 0 := by
  refine z_of (by decide) rfl (Nat.le_of_ble_eq_true rfl) (fun w0 => ?_)
  refine r_lvE (lv2 := [(0, .int h)]) rfl ?_
  refine r_iload_n d_Mm_noHeat_0 rfl 0 rfl ?_
  refine r_sipush d_Mm_noHeat_1 (v := 1200) (by decide) ?_
  refine r_sipush d_Mm_noHeat_4 (v := 1500) (by decide) ?_
  refine r_callS (As := [.int h, .int 1200, .int 1500]) (rest := []) (csC := []) (is := []) ln_Mm_87 w_st_Mm_in ok_Mm_noHeat_Mm_in d_Mm_noHeat_7 (C_Mm_in g h 1200 1500) rfl rfl (Nat.le_of_ble_eq_true rfl) rfl (by decide) (by omega) (by omega) (fun E cs1 hx => ?_) (fun v cs1 hx => ?_)
  · exact absurd hx.1 (by simp)
  · obtain ⟨e1, rfl⟩ := hx
    rw [if_neg hh] at e1
    cases e1
    refine ⟨rfl, ?_⟩
    refine r_st (st2 := [.int 0]) rfl ?_
    refine r_cs (cs2 := []) rfl ?_
    refine r_if_ne (tgt := 17) d_Mm_noHeat_10 (by decide) (fun c_10 => ?_) (fun c_10 => ?_)
    · exact absurd c_10 (by decide)
    · refine r_iconst d_Mm_noHeat_13 (v := 1) (by decide) ?_
      refine r_goto (tgt := 18) d_Mm_noHeat_14 (by decide) ?_
      refine r_iret d_Mm_noHeat_18 rfl rfl ?_
      exact ⟨rfl, rfl⟩
abbrev M_Mm_beside : zM := (⟨"IronpourModel", "beside", "(II)I"⟩, prog_14_method_6_code, 4, (Option.some FieldType.int), 3, 63, [])
theorem d_Mm_beside_0 : decode prog_14_method_6_code 0 = .ok (.iload_n 0, 1) := zo_26 (zd_b zq_prog_14_method_6_code_0 0 rfl rfl rfl)
theorem d_Mm_beside_1 : decode prog_14_method_6_code 1 = .ok (.bipush 12, 2) := zo_16 (d := 12) (zd_b zq_prog_14_method_6_code_0 1 rfl rfl rfl) (zd_b zq_prog_14_method_6_code_0 2 rfl rfl rfl) (by decide +kernel)
theorem d_Mm_beside_3 : decode prog_14_method_6_code 3 = .ok (.irem, 1) := zo_112 (zd_b zq_prog_14_method_6_code_0 3 rfl rfl rfl)
theorem d_Mm_beside_4 : decode prog_14_method_6_code 4 = .ok (.iload_n 1, 1) := zo_27 (zd_b zq_prog_14_method_6_code_0 4 rfl rfl rfl)
theorem d_Mm_beside_5 : decode prog_14_method_6_code 5 = .ok (.iconst 1, 1) := zo_4 (zd_b zq_prog_14_method_6_code_0 5 rfl rfl rfl)
theorem d_Mm_beside_6 : decode prog_14_method_6_code 6 = .ok (.if_icmp .ne 7, 3) := zo_160 (d := 0) (e := 7) (zd_b zq_prog_14_method_6_code_0 6 rfl rfl rfl) (zd_b zq_prog_14_method_6_code_0 7 rfl rfl rfl) (zd_b zq_prog_14_method_6_code_0 8 rfl rfl rfl) (by decide +kernel)
theorem d_Mm_beside_13 : decode prog_14_method_6_code 13 = .ok (.iload_n 1, 1) := zo_27 (zd_b zq_prog_14_method_6_code_0 13 rfl rfl rfl)
theorem d_Mm_beside_14 : decode prog_14_method_6_code 14 = .ok (.iconst 2, 1) := zo_5 (zd_b zq_prog_14_method_6_code_0 14 rfl rfl rfl)
theorem d_Mm_beside_15 : decode prog_14_method_6_code 15 = .ok (.if_icmp .ne 7, 3) := zo_160 (d := 0) (e := 7) (zd_b zq_prog_14_method_6_code_0 15 rfl rfl rfl) (zd_b zq_prog_14_method_6_code_0 16 rfl rfl rfl) (zd_b zq_prog_14_method_6_code_0 17 rfl rfl rfl) (by decide +kernel)
theorem d_Mm_beside_22 : decode prog_14_method_6_code 22 = .ok (.iconst 0, 1) := zo_3 (zd_b zq_prog_14_method_6_code_0 22 rfl rfl rfl)
theorem d_Mm_beside_23 : decode prog_14_method_6_code 23 = .ok (.iadd, 1) := zo_96 (zd_b zq_prog_14_method_6_code_0 23 rfl rfl rfl)
theorem d_Mm_beside_24 : decode prog_14_method_6_code 24 = .ok (.istore_n 2, 1) := zo_61 (zd_b zq_prog_14_method_6_code_0 24 rfl rfl rfl)
theorem d_Mm_beside_25 : decode prog_14_method_6_code 25 = .ok (.iload_n 0, 1) := zo_26 (zd_b zq_prog_14_method_6_code_0 25 rfl rfl rfl)
theorem d_Mm_beside_26 : decode prog_14_method_6_code 26 = .ok (.bipush 12, 2) := zo_16 (d := 12) (zd_b zq_prog_14_method_6_code_0 26 rfl rfl rfl) (zd_b zq_prog_14_method_6_code_0 27 rfl rfl rfl) (by decide +kernel)
theorem d_Mm_beside_28 : decode prog_14_method_6_code 28 = .ok (.idiv, 1) := zo_108 (zd_b zq_prog_14_method_6_code_0 28 rfl rfl rfl)
theorem d_Mm_beside_29 : decode prog_14_method_6_code 29 = .ok (.iload_n 1, 1) := zo_27 (zd_b zq_prog_14_method_6_code_0 29 rfl rfl rfl)
theorem d_Mm_beside_30 : decode prog_14_method_6_code 30 = .ok (.ifCond .ne 7, 3) := zo_154 (d := 0) (e := 7) (zd_b zq_prog_14_method_6_code_0 30 rfl rfl rfl) (zd_b zq_prog_14_method_6_code_0 31 rfl rfl rfl) (zd_b zq_prog_14_method_6_code_1 0 rfl rfl rfl) (by decide +kernel)
theorem d_Mm_beside_33 : decode prog_14_method_6_code 33 = .ok (.iconst (-1), 1) := zo_2 (zd_b zq_prog_14_method_6_code_1 1 rfl rfl rfl)
theorem d_Mm_beside_34 : decode prog_14_method_6_code 34 = .ok (.goto 13, 3) := zo_167 (d := 0) (e := 13) (zd_b zq_prog_14_method_6_code_1 2 rfl rfl rfl) (zd_b zq_prog_14_method_6_code_1 3 rfl rfl rfl) (zd_b zq_prog_14_method_6_code_1 4 rfl rfl rfl) (by decide +kernel)
theorem d_Mm_beside_47 : decode prog_14_method_6_code 47 = .ok (.iadd, 1) := zo_96 (zd_b zq_prog_14_method_6_code_1 15 rfl rfl rfl)
theorem d_Mm_beside_48 : decode prog_14_method_6_code 48 = .ok (.istore_n 3, 1) := zo_62 (zd_b zq_prog_14_method_6_code_1 16 rfl rfl rfl)
theorem d_Mm_beside_49 : decode prog_14_method_6_code 49 = .ok (.iload_n 2, 1) := zo_28 (zd_b zq_prog_14_method_6_code_1 17 rfl rfl rfl)
theorem d_Mm_beside_50 : decode prog_14_method_6_code 50 = .ok (.iload_n 3, 1) := zo_29 (zd_b zq_prog_14_method_6_code_1 18 rfl rfl rfl)
theorem d_Mm_beside_51 : decode prog_14_method_6_code 51 = .ok (.invokestatic 91, 3) := zo_184 (d := 0) (e := 91) (zd_b zq_prog_14_method_6_code_1 19 rfl rfl rfl) (zd_b zq_prog_14_method_6_code_1 20 rfl rfl rfl) (zd_b zq_prog_14_method_6_code_1 21 rfl rfl rfl)
theorem ok_Mm_beside_Mm_isCell : z_ok M_Mm_beside M_Mm_isCell 2 := ⟨z_mj7 (i := 187) rfl (by decide +kernel), rfl, ⟨by decide +kernel, by decide +kernel, by decide +kernel⟩, ⟨by decide, by decide⟩, z_mj1 (i := 14) rfl (by decide +kernel), rfl⟩
theorem ln_Mm_91 : Cond.methodLink "IronpourModel" 91 M_Mm_isCell.1 ∈ z_gw := z_mj7 (i := 185) rfl (by decide +kernel)
theorem w_st_Mm_isCell : Cond.static M_Mm_isCell.1 ∈ z_gw := z_mj7 (i := 186) rfl (by decide +kernel)
theorem d_Mm_beside_54 : decode prog_14_method_6_code 54 = .ok (.ifCond .eq 12, 3) := zo_153 (d := 0) (e := 12) (zd_b zq_prog_14_method_6_code_1 22 rfl rfl rfl) (zd_b zq_prog_14_method_6_code_1 23 rfl rfl rfl) (zd_b zq_prog_14_method_6_code_1 24 rfl rfl rfl) (by decide +kernel)
theorem d_Mm_beside_66 : decode prog_14_method_6_code 66 = .ok (.iconst (-1), 1) := zo_2 (zd_b zq_prog_14_method_6_code_2 2 rfl rfl rfl)
theorem d_Mm_beside_67 : decode prog_14_method_6_code 67 = .ok (.ireturn, 1) := zo_172 (zd_b zq_prog_14_method_6_code_2 3 rfl rfl rfl)
set_option maxHeartbeats 4000000 in
set_option maxRecDepth 100000 in
theorem C_Mm_beside0a (g : zG) (c : Nat) (hc : c < 108) (hq : c < 12) : CT g M_Mm_beside [.int (nI c), .int 0] [] (fun o cs1 => o = .inl (some (.int (-1))) ∧ cs1 = []) 0 0 := by
  refine z_of (by decide) rfl (Nat.le_of_ble_eq_true rfl) (fun w0 => ?_)
  refine r_lvE (lv2 := [(0, .int (nI c)), (1, .int 0)]) rfl ?_
  refine r_iload_n d_Mm_beside_0 rfl 0 rfl ?_
  refine r_bipush d_Mm_beside_1 (v := 12) (by decide) ?_
  refine r_irem d_Mm_beside_3 (v := nI (c % 12)) (by decide) (nI_mod12 (by omega)) ?_
  refine r_iload_n d_Mm_beside_4 rfl 1 rfl ?_
  refine r_iconst d_Mm_beside_5 (v := 1) (by decide) ?_
  refine r_icmp_ne (tgt := 13) d_Mm_beside_6 (by decide) (fun c_6 => ?_) (fun c_6 => ?_)
  · refine r_iload_n d_Mm_beside_13 rfl 1 rfl ?_
    refine r_iconst d_Mm_beside_14 (v := 2) (by decide) ?_
    refine r_icmp_ne (tgt := 22) d_Mm_beside_15 (by decide) (fun c_15 => ?_) (fun c_15 => ?_)
    · refine r_iconst d_Mm_beside_22 (v := 0) (by decide) ?_
      refine r_iadd d_Mm_beside_23 (v := nI (c % 12)) (Int32.add_zero _) ?_
      refine r_istore_n (lv' := [(2, .int (nI (c % 12))), (0, .int (nI c)), (1, .int 0)]) d_Mm_beside_24 rfl (by decide) rfl ?_
      refine r_iload_n d_Mm_beside_25 rfl 1 rfl ?_
      refine r_bipush d_Mm_beside_26 (v := 12) (by decide) ?_
      refine r_idiv d_Mm_beside_28 (v := nI (c / 12)) (by decide) (nI_div12 (by omega)) ?_
      refine r_iload_n d_Mm_beside_29 rfl 2 rfl ?_
      refine r_if_ne (tgt := 37) d_Mm_beside_30 (by decide) (fun c_30 => ?_) (fun c_30 => ?_)
      · exact absurd c_30 (by decide)
      · refine r_iconst d_Mm_beside_33 (v := (-1)) (by decide) ?_
        refine r_goto (tgt := 47) d_Mm_beside_34 (by decide) ?_
        refine r_iadd d_Mm_beside_47 (v := (-1)) (by rw [show c / 12 = 0 by omega]; rfl) ?_
        refine r_istore_n (lv' := [(3, .int (-1)), (2, .int (nI (c % 12))), (0, .int (nI c)), (1, .int 0)]) d_Mm_beside_48 rfl (by decide) rfl ?_
        refine r_iload_n d_Mm_beside_49 rfl 1 rfl ?_
        refine r_iload_n d_Mm_beside_50 rfl 0 rfl ?_
        refine r_callS (As := [.int (nI (c % 12)), .int (-1)]) (rest := []) (csC := []) (is := []) ln_Mm_91 w_st_Mm_isCell ok_Mm_beside_Mm_isCell d_Mm_beside_51 (C_Mm_isCell g (nI (c % 12)) (-1)) rfl rfl (Nat.le_of_ble_eq_true rfl) rfl (by decide) (by omega) (by omega) (fun E cs1 hx => ?_) (fun v cs1 hx => ?_)
        · exact absurd hx.1 (by simp)
        · obtain ⟨e1, rfl⟩ := hx
          rw [if_neg (fun q => absurd q.2.2.1 (by decide))] at e1
          cases e1
          refine ⟨rfl, ?_⟩
          refine r_st (st2 := [.int 0]) rfl ?_
          refine r_cs (cs2 := []) rfl ?_
          refine r_if_eq (tgt := 66) d_Mm_beside_54 (by decide) (fun c_54 => ?_) (fun c_54 => ?_)
          · refine r_iconst d_Mm_beside_66 (v := (-1)) (by decide) ?_
            refine r_iret d_Mm_beside_67 rfl rfl ?_
            exact ⟨rfl, rfl⟩
          · exact absurd c_54 (by decide)
    · exact absurd c_15 (by decide)
  · exact absurd c_6 (by decide)
theorem d_Mm_beside_57 : decode prog_14_method_6_code 57 = .ok (.bipush 12, 2) := zo_16 (d := 12) (zd_b zq_prog_14_method_6_code_1 25 rfl rfl rfl) (zd_b zq_prog_14_method_6_code_1 26 rfl rfl rfl) (by decide +kernel)
theorem d_Mm_beside_59 : decode prog_14_method_6_code 59 = .ok (.iload_n 3, 1) := zo_29 (zd_b zq_prog_14_method_6_code_1 27 rfl rfl rfl)
theorem d_Mm_beside_60 : decode prog_14_method_6_code 60 = .ok (.imul, 1) := zo_104 (zd_b zq_prog_14_method_6_code_1 28 rfl rfl rfl)
theorem d_Mm_beside_61 : decode prog_14_method_6_code 61 = .ok (.iload_n 2, 1) := zo_28 (zd_b zq_prog_14_method_6_code_1 29 rfl rfl rfl)
theorem d_Mm_beside_62 : decode prog_14_method_6_code 62 = .ok (.iadd, 1) := zo_96 (zd_b zq_prog_14_method_6_code_1 30 rfl rfl rfl)
theorem d_Mm_beside_63 : decode prog_14_method_6_code 63 = .ok (.goto 4, 3) := zo_167 (d := 0) (e := 4) (zd_b zq_prog_14_method_6_code_1 31 rfl rfl rfl) (zd_b zq_prog_14_method_6_code_2 0 rfl rfl rfl) (zd_b zq_prog_14_method_6_code_2 1 rfl rfl rfl) (by decide +kernel)
set_option maxHeartbeats 4000000 in
set_option maxRecDepth 100000 in
theorem C_Mm_beside0b (g : zG) (c : Nat) (hc : c < 108) (hq : 12 ≤ c) : CT g M_Mm_beside [.int (nI c), .int 0] [] (fun o cs1 => o = .inl (some (.int (nI (c - 12)))) ∧ cs1 = []) 0 0 := by
  refine z_of (by decide) rfl (Nat.le_of_ble_eq_true rfl) (fun w0 => ?_)
  refine r_lvE (lv2 := [(0, .int (nI c)), (1, .int 0)]) rfl ?_
  refine r_iload_n d_Mm_beside_0 rfl 0 rfl ?_
  refine r_bipush d_Mm_beside_1 (v := 12) (by decide) ?_
  refine r_irem d_Mm_beside_3 (v := nI (c % 12)) (by decide) (nI_mod12 (by omega)) ?_
  refine r_iload_n d_Mm_beside_4 rfl 1 rfl ?_
  refine r_iconst d_Mm_beside_5 (v := 1) (by decide) ?_
  refine r_icmp_ne (tgt := 13) d_Mm_beside_6 (by decide) (fun c_6 => ?_) (fun c_6 => ?_)
  · refine r_iload_n d_Mm_beside_13 rfl 1 rfl ?_
    refine r_iconst d_Mm_beside_14 (v := 2) (by decide) ?_
    refine r_icmp_ne (tgt := 22) d_Mm_beside_15 (by decide) (fun c_15 => ?_) (fun c_15 => ?_)
    · refine r_iconst d_Mm_beside_22 (v := 0) (by decide) ?_
      refine r_iadd d_Mm_beside_23 (v := nI (c % 12)) (Int32.add_zero _) ?_
      refine r_istore_n (lv' := [(2, .int (nI (c % 12))), (0, .int (nI c)), (1, .int 0)]) d_Mm_beside_24 rfl (by decide) rfl ?_
      refine r_iload_n d_Mm_beside_25 rfl 1 rfl ?_
      refine r_bipush d_Mm_beside_26 (v := 12) (by decide) ?_
      refine r_idiv d_Mm_beside_28 (v := nI (c / 12)) (by decide) (nI_div12 (by omega)) ?_
      refine r_iload_n d_Mm_beside_29 rfl 2 rfl ?_
      refine r_if_ne (tgt := 37) d_Mm_beside_30 (by decide) (fun c_30 => ?_) (fun c_30 => ?_)
      · exact absurd c_30 (by decide)
      · refine r_iconst d_Mm_beside_33 (v := (-1)) (by decide) ?_
        refine r_goto (tgt := 47) d_Mm_beside_34 (by decide) ?_
        refine r_iadd d_Mm_beside_47 (v := nI (c / 12 - 1)) (z_sub1 (by omega)) ?_
        refine r_istore_n (lv' := [(3, .int (nI (c / 12 - 1))), (2, .int (nI (c % 12))), (0, .int (nI c)), (1, .int 0)]) d_Mm_beside_48 rfl (by decide) rfl ?_
        refine r_iload_n d_Mm_beside_49 rfl 1 rfl ?_
        refine r_iload_n d_Mm_beside_50 rfl 0 rfl ?_
        refine r_callS (As := [.int (nI (c % 12)), .int (nI (c / 12 - 1))]) (rest := []) (csC := []) (is := []) ln_Mm_91 w_st_Mm_isCell ok_Mm_beside_Mm_isCell d_Mm_beside_51 (C_Mm_isCell g (nI (c % 12)) (nI (c / 12 - 1))) rfl rfl (Nat.le_of_ble_eq_true rfl) rfl (by decide) (by omega) (by omega) (fun E cs1 hx => ?_) (fun v cs1 hx => ?_)
        · exact absurd hx.1 (by simp)
        · obtain ⟨e1, rfl⟩ := hx
          rw [if_pos (z_cellN (by omega) (by omega))] at e1
          cases e1
          refine ⟨rfl, ?_⟩
          refine r_st (st2 := [.int 1]) rfl ?_
          refine r_cs (cs2 := []) rfl ?_
          refine r_if_eq (tgt := 66) d_Mm_beside_54 (by decide) (fun c_54 => ?_) (fun c_54 => ?_)
          · exact absurd c_54 (by decide)
          · refine r_bipush d_Mm_beside_57 (v := 12) (by decide) ?_
            refine r_iload_n d_Mm_beside_59 rfl 0 rfl ?_
            refine r_imul d_Mm_beside_60 (v := nI (12 * (c / 12 - 1))) (pk_mul _ _) ?_
            refine r_iload_n d_Mm_beside_61 rfl 1 rfl ?_
            refine r_iadd d_Mm_beside_62 (v := nI (c - 12)) (by rw [nI_add]; congr 1; omega) ?_
            refine r_goto (tgt := 67) d_Mm_beside_63 (by decide) ?_
            refine r_iret d_Mm_beside_67 rfl rfl ?_
            exact ⟨rfl, rfl⟩
    · exact absurd c_15 (by decide)
  · exact absurd c_6 (by decide)
theorem d_Mm_beside_9 : decode prog_14_method_6_code 9 = .ok (.iconst (-1), 1) := zo_2 (zd_b zq_prog_14_method_6_code_0 9 rfl rfl rfl)
theorem d_Mm_beside_10 : decode prog_14_method_6_code 10 = .ok (.goto 13, 3) := zo_167 (d := 0) (e := 13) (zd_b zq_prog_14_method_6_code_0 10 rfl rfl rfl) (zd_b zq_prog_14_method_6_code_0 11 rfl rfl rfl) (zd_b zq_prog_14_method_6_code_0 12 rfl rfl rfl) (by decide +kernel)
theorem d_Mm_beside_37 : decode prog_14_method_6_code 37 = .ok (.iload_n 1, 1) := zo_27 (zd_b zq_prog_14_method_6_code_1 5 rfl rfl rfl)
theorem d_Mm_beside_38 : decode prog_14_method_6_code 38 = .ok (.iconst 3, 1) := zo_6 (zd_b zq_prog_14_method_6_code_1 6 rfl rfl rfl)
theorem d_Mm_beside_39 : decode prog_14_method_6_code 39 = .ok (.if_icmp .ne 7, 3) := zo_160 (d := 0) (e := 7) (zd_b zq_prog_14_method_6_code_1 7 rfl rfl rfl) (zd_b zq_prog_14_method_6_code_1 8 rfl rfl rfl) (zd_b zq_prog_14_method_6_code_1 9 rfl rfl rfl) (by decide +kernel)
theorem d_Mm_beside_46 : decode prog_14_method_6_code 46 = .ok (.iconst 0, 1) := zo_3 (zd_b zq_prog_14_method_6_code_1 14 rfl rfl rfl)
set_option maxHeartbeats 4000000 in
set_option maxRecDepth 100000 in
theorem C_Mm_beside1a (g : zG) (c : Nat) (hc : c < 108) (hq : c % 12 = 0) : CT g M_Mm_beside [.int (nI c), .int 1] [] (fun o cs1 => o = .inl (some (.int (-1))) ∧ cs1 = []) 0 0 := by
  refine z_of (by decide) rfl (Nat.le_of_ble_eq_true rfl) (fun w0 => ?_)
  refine r_lvE (lv2 := [(0, .int (nI c)), (1, .int 1)]) rfl ?_
  refine r_iload_n d_Mm_beside_0 rfl 0 rfl ?_
  refine r_bipush d_Mm_beside_1 (v := 12) (by decide) ?_
  refine r_irem d_Mm_beside_3 (v := nI (c % 12)) (by decide) (nI_mod12 (by omega)) ?_
  refine r_iload_n d_Mm_beside_4 rfl 1 rfl ?_
  refine r_iconst d_Mm_beside_5 (v := 1) (by decide) ?_
  refine r_icmp_ne (tgt := 13) d_Mm_beside_6 (by decide) (fun c_6 => ?_) (fun c_6 => ?_)
  · exact absurd c_6 (by decide)
  · refine r_iconst d_Mm_beside_9 (v := (-1)) (by decide) ?_
    refine r_goto (tgt := 23) d_Mm_beside_10 (by decide) ?_
    refine r_iadd d_Mm_beside_23 (v := (-1)) (by rw [hq]; rfl) ?_
    refine r_istore_n (lv' := [(2, .int (-1)), (0, .int (nI c)), (1, .int 1)]) d_Mm_beside_24 rfl (by decide) rfl ?_
    refine r_iload_n d_Mm_beside_25 rfl 1 rfl ?_
    refine r_bipush d_Mm_beside_26 (v := 12) (by decide) ?_
    refine r_idiv d_Mm_beside_28 (v := nI (c / 12)) (by decide) (nI_div12 (by omega)) ?_
    refine r_iload_n d_Mm_beside_29 rfl 2 rfl ?_
    refine r_if_ne (tgt := 37) d_Mm_beside_30 (by decide) (fun c_30 => ?_) (fun c_30 => ?_)
    · refine r_iload_n d_Mm_beside_37 rfl 2 rfl ?_
      refine r_iconst d_Mm_beside_38 (v := 3) (by decide) ?_
      refine r_icmp_ne (tgt := 46) d_Mm_beside_39 (by decide) (fun c_39 => ?_) (fun c_39 => ?_)
      · refine r_iconst d_Mm_beside_46 (v := 0) (by decide) ?_
        refine r_iadd d_Mm_beside_47 (v := nI (c / 12)) (Int32.add_zero _) ?_
        refine r_istore_n (lv' := [(3, .int (nI (c / 12))), (2, .int (-1)), (0, .int (nI c)), (1, .int 1)]) d_Mm_beside_48 rfl (by decide) rfl ?_
        refine r_iload_n d_Mm_beside_49 rfl 1 rfl ?_
        refine r_iload_n d_Mm_beside_50 rfl 0 rfl ?_
        refine r_callS (As := [.int (-1), .int (nI (c / 12))]) (rest := []) (csC := []) (is := []) ln_Mm_91 w_st_Mm_isCell ok_Mm_beside_Mm_isCell d_Mm_beside_51 (C_Mm_isCell g (-1) (nI (c / 12))) rfl rfl (Nat.le_of_ble_eq_true rfl) rfl (by decide) (by omega) (by omega) (fun E cs1 hx => ?_) (fun v cs1 hx => ?_)
        · exact absurd hx.1 (by simp)
        · obtain ⟨e1, rfl⟩ := hx
          rw [if_neg (fun q => absurd q.1 (by decide))] at e1
          cases e1
          refine ⟨rfl, ?_⟩
          refine r_st (st2 := [.int 0]) rfl ?_
          refine r_cs (cs2 := []) rfl ?_
          refine r_if_eq (tgt := 66) d_Mm_beside_54 (by decide) (fun c_54 => ?_) (fun c_54 => ?_)
          · refine r_iconst d_Mm_beside_66 (v := (-1)) (by decide) ?_
            refine r_iret d_Mm_beside_67 rfl rfl ?_
            exact ⟨rfl, rfl⟩
          · exact absurd c_54 (by decide)
      · exact absurd c_39 (by decide)
    · exact absurd c_30 (by decide)
set_option maxHeartbeats 4000000 in
set_option maxRecDepth 100000 in
theorem C_Mm_beside1b (g : zG) (c : Nat) (hc : c < 108) (hq : 0 < c % 12) : CT g M_Mm_beside [.int (nI c), .int 1] [] (fun o cs1 => o = .inl (some (.int (nI (c - 1)))) ∧ cs1 = []) 0 0 := by
  refine z_of (by decide) rfl (Nat.le_of_ble_eq_true rfl) (fun w0 => ?_)
  refine r_lvE (lv2 := [(0, .int (nI c)), (1, .int 1)]) rfl ?_
  refine r_iload_n d_Mm_beside_0 rfl 0 rfl ?_
  refine r_bipush d_Mm_beside_1 (v := 12) (by decide) ?_
  refine r_irem d_Mm_beside_3 (v := nI (c % 12)) (by decide) (nI_mod12 (by omega)) ?_
  refine r_iload_n d_Mm_beside_4 rfl 1 rfl ?_
  refine r_iconst d_Mm_beside_5 (v := 1) (by decide) ?_
  refine r_icmp_ne (tgt := 13) d_Mm_beside_6 (by decide) (fun c_6 => ?_) (fun c_6 => ?_)
  · exact absurd c_6 (by decide)
  · refine r_iconst d_Mm_beside_9 (v := (-1)) (by decide) ?_
    refine r_goto (tgt := 23) d_Mm_beside_10 (by decide) ?_
    refine r_iadd d_Mm_beside_23 (v := nI (c % 12 - 1)) (z_sub1 (by omega)) ?_
    refine r_istore_n (lv' := [(2, .int (nI (c % 12 - 1))), (0, .int (nI c)), (1, .int 1)]) d_Mm_beside_24 rfl (by decide) rfl ?_
    refine r_iload_n d_Mm_beside_25 rfl 1 rfl ?_
    refine r_bipush d_Mm_beside_26 (v := 12) (by decide) ?_
    refine r_idiv d_Mm_beside_28 (v := nI (c / 12)) (by decide) (nI_div12 (by omega)) ?_
    refine r_iload_n d_Mm_beside_29 rfl 2 rfl ?_
    refine r_if_ne (tgt := 37) d_Mm_beside_30 (by decide) (fun c_30 => ?_) (fun c_30 => ?_)
    · refine r_iload_n d_Mm_beside_37 rfl 2 rfl ?_
      refine r_iconst d_Mm_beside_38 (v := 3) (by decide) ?_
      refine r_icmp_ne (tgt := 46) d_Mm_beside_39 (by decide) (fun c_39 => ?_) (fun c_39 => ?_)
      · refine r_iconst d_Mm_beside_46 (v := 0) (by decide) ?_
        refine r_iadd d_Mm_beside_47 (v := nI (c / 12)) (Int32.add_zero _) ?_
        refine r_istore_n (lv' := [(3, .int (nI (c / 12))), (2, .int (nI (c % 12 - 1))), (0, .int (nI c)), (1, .int 1)]) d_Mm_beside_48 rfl (by decide) rfl ?_
        refine r_iload_n d_Mm_beside_49 rfl 1 rfl ?_
        refine r_iload_n d_Mm_beside_50 rfl 0 rfl ?_
        refine r_callS (As := [.int (nI (c % 12 - 1)), .int (nI (c / 12))]) (rest := []) (csC := []) (is := []) ln_Mm_91 w_st_Mm_isCell ok_Mm_beside_Mm_isCell d_Mm_beside_51 (C_Mm_isCell g (nI (c % 12 - 1)) (nI (c / 12))) rfl rfl (Nat.le_of_ble_eq_true rfl) rfl (by decide) (by omega) (by omega) (fun E cs1 hx => ?_) (fun v cs1 hx => ?_)
        · exact absurd hx.1 (by simp)
        · obtain ⟨e1, rfl⟩ := hx
          rw [if_pos (z_cellN (by omega) (by omega))] at e1
          cases e1
          refine ⟨rfl, ?_⟩
          refine r_st (st2 := [.int 1]) rfl ?_
          refine r_cs (cs2 := []) rfl ?_
          refine r_if_eq (tgt := 66) d_Mm_beside_54 (by decide) (fun c_54 => ?_) (fun c_54 => ?_)
          · exact absurd c_54 (by decide)
          · refine r_bipush d_Mm_beside_57 (v := 12) (by decide) ?_
            refine r_iload_n d_Mm_beside_59 rfl 0 rfl ?_
            refine r_imul d_Mm_beside_60 (v := nI (12 * (c / 12))) (pk_mul _ _) ?_
            refine r_iload_n d_Mm_beside_61 rfl 1 rfl ?_
            refine r_iadd d_Mm_beside_62 (v := nI (c - 1)) (by rw [nI_add]; congr 1; omega) ?_
            refine r_goto (tgt := 67) d_Mm_beside_63 (by decide) ?_
            refine r_iret d_Mm_beside_67 rfl rfl ?_
            exact ⟨rfl, rfl⟩
      · exact absurd c_39 (by decide)
    · exact absurd c_30 (by decide)
theorem d_Mm_beside_18 : decode prog_14_method_6_code 18 = .ok (.iconst 1, 1) := zo_4 (zd_b zq_prog_14_method_6_code_0 18 rfl rfl rfl)
theorem d_Mm_beside_19 : decode prog_14_method_6_code 19 = .ok (.goto 4, 3) := zo_167 (d := 0) (e := 4) (zd_b zq_prog_14_method_6_code_0 19 rfl rfl rfl) (zd_b zq_prog_14_method_6_code_0 20 rfl rfl rfl) (zd_b zq_prog_14_method_6_code_0 21 rfl rfl rfl) (by decide +kernel)
set_option maxHeartbeats 4000000 in
set_option maxRecDepth 100000 in
theorem C_Mm_beside2a (g : zG) (c : Nat) (hc : c < 108) (hq : 11 ≤ c % 12) : CT g M_Mm_beside [.int (nI c), .int 2] [] (fun o cs1 => o = .inl (some (.int (-1))) ∧ cs1 = []) 0 0 := by
  refine z_of (by decide) rfl (Nat.le_of_ble_eq_true rfl) (fun w0 => ?_)
  refine r_lvE (lv2 := [(0, .int (nI c)), (1, .int 2)]) rfl ?_
  refine r_iload_n d_Mm_beside_0 rfl 0 rfl ?_
  refine r_bipush d_Mm_beside_1 (v := 12) (by decide) ?_
  refine r_irem d_Mm_beside_3 (v := nI (c % 12)) (by decide) (nI_mod12 (by omega)) ?_
  refine r_iload_n d_Mm_beside_4 rfl 1 rfl ?_
  refine r_iconst d_Mm_beside_5 (v := 1) (by decide) ?_
  refine r_icmp_ne (tgt := 13) d_Mm_beside_6 (by decide) (fun c_6 => ?_) (fun c_6 => ?_)
  · refine r_iload_n d_Mm_beside_13 rfl 1 rfl ?_
    refine r_iconst d_Mm_beside_14 (v := 2) (by decide) ?_
    refine r_icmp_ne (tgt := 22) d_Mm_beside_15 (by decide) (fun c_15 => ?_) (fun c_15 => ?_)
    · exact absurd c_15 (by decide)
    · refine r_iconst d_Mm_beside_18 (v := 1) (by decide) ?_
      refine r_goto (tgt := 23) d_Mm_beside_19 (by decide) ?_
      refine r_iadd d_Mm_beside_23 (v := 12) (by rw [show c % 12 = 11 by omega]; rfl) ?_
      refine r_istore_n (lv' := [(2, .int 12), (0, .int (nI c)), (1, .int 2)]) d_Mm_beside_24 rfl (by decide) rfl ?_
      refine r_iload_n d_Mm_beside_25 rfl 1 rfl ?_
      refine r_bipush d_Mm_beside_26 (v := 12) (by decide) ?_
      refine r_idiv d_Mm_beside_28 (v := nI (c / 12)) (by decide) (nI_div12 (by omega)) ?_
      refine r_iload_n d_Mm_beside_29 rfl 2 rfl ?_
      refine r_if_ne (tgt := 37) d_Mm_beside_30 (by decide) (fun c_30 => ?_) (fun c_30 => ?_)
      · refine r_iload_n d_Mm_beside_37 rfl 2 rfl ?_
        refine r_iconst d_Mm_beside_38 (v := 3) (by decide) ?_
        refine r_icmp_ne (tgt := 46) d_Mm_beside_39 (by decide) (fun c_39 => ?_) (fun c_39 => ?_)
        · refine r_iconst d_Mm_beside_46 (v := 0) (by decide) ?_
          refine r_iadd d_Mm_beside_47 (v := nI (c / 12)) (Int32.add_zero _) ?_
          refine r_istore_n (lv' := [(3, .int (nI (c / 12))), (2, .int 12), (0, .int (nI c)), (1, .int 2)]) d_Mm_beside_48 rfl (by decide) rfl ?_
          refine r_iload_n d_Mm_beside_49 rfl 1 rfl ?_
          refine r_iload_n d_Mm_beside_50 rfl 0 rfl ?_
          refine r_callS (As := [.int 12, .int (nI (c / 12))]) (rest := []) (csC := []) (is := []) ln_Mm_91 w_st_Mm_isCell ok_Mm_beside_Mm_isCell d_Mm_beside_51 (C_Mm_isCell g 12 (nI (c / 12))) rfl rfl (Nat.le_of_ble_eq_true rfl) rfl (by decide) (by omega) (by omega) (fun E cs1 hx => ?_) (fun v cs1 hx => ?_)
          · exact absurd hx.1 (by simp)
          · obtain ⟨e1, rfl⟩ := hx
            rw [if_neg (fun q => absurd q.2.1 (by decide))] at e1
            cases e1
            refine ⟨rfl, ?_⟩
            refine r_st (st2 := [.int 0]) rfl ?_
            refine r_cs (cs2 := []) rfl ?_
            refine r_if_eq (tgt := 66) d_Mm_beside_54 (by decide) (fun c_54 => ?_) (fun c_54 => ?_)
            · refine r_iconst d_Mm_beside_66 (v := (-1)) (by decide) ?_
              refine r_iret d_Mm_beside_67 rfl rfl ?_
              exact ⟨rfl, rfl⟩
            · exact absurd c_54 (by decide)
        · exact absurd c_39 (by decide)
      · exact absurd c_30 (by decide)
  · exact absurd c_6 (by decide)
set_option maxHeartbeats 4000000 in
set_option maxRecDepth 100000 in
theorem C_Mm_beside2b (g : zG) (c : Nat) (hc : c < 108) (hq : c % 12 < 11) : CT g M_Mm_beside [.int (nI c), .int 2] [] (fun o cs1 => o = .inl (some (.int (nI (c + 1)))) ∧ cs1 = []) 0 0 := by
  refine z_of (by decide) rfl (Nat.le_of_ble_eq_true rfl) (fun w0 => ?_)
  refine r_lvE (lv2 := [(0, .int (nI c)), (1, .int 2)]) rfl ?_
  refine r_iload_n d_Mm_beside_0 rfl 0 rfl ?_
  refine r_bipush d_Mm_beside_1 (v := 12) (by decide) ?_
  refine r_irem d_Mm_beside_3 (v := nI (c % 12)) (by decide) (nI_mod12 (by omega)) ?_
  refine r_iload_n d_Mm_beside_4 rfl 1 rfl ?_
  refine r_iconst d_Mm_beside_5 (v := 1) (by decide) ?_
  refine r_icmp_ne (tgt := 13) d_Mm_beside_6 (by decide) (fun c_6 => ?_) (fun c_6 => ?_)
  · refine r_iload_n d_Mm_beside_13 rfl 1 rfl ?_
    refine r_iconst d_Mm_beside_14 (v := 2) (by decide) ?_
    refine r_icmp_ne (tgt := 22) d_Mm_beside_15 (by decide) (fun c_15 => ?_) (fun c_15 => ?_)
    · exact absurd c_15 (by decide)
    · refine r_iconst d_Mm_beside_18 (v := 1) (by decide) ?_
      refine r_goto (tgt := 23) d_Mm_beside_19 (by decide) ?_
      refine r_iadd d_Mm_beside_23 (v := nI (c % 12 + 1)) (nI_add _ _) ?_
      refine r_istore_n (lv' := [(2, .int (nI (c % 12 + 1))), (0, .int (nI c)), (1, .int 2)]) d_Mm_beside_24 rfl (by decide) rfl ?_
      refine r_iload_n d_Mm_beside_25 rfl 1 rfl ?_
      refine r_bipush d_Mm_beside_26 (v := 12) (by decide) ?_
      refine r_idiv d_Mm_beside_28 (v := nI (c / 12)) (by decide) (nI_div12 (by omega)) ?_
      refine r_iload_n d_Mm_beside_29 rfl 2 rfl ?_
      refine r_if_ne (tgt := 37) d_Mm_beside_30 (by decide) (fun c_30 => ?_) (fun c_30 => ?_)
      · refine r_iload_n d_Mm_beside_37 rfl 2 rfl ?_
        refine r_iconst d_Mm_beside_38 (v := 3) (by decide) ?_
        refine r_icmp_ne (tgt := 46) d_Mm_beside_39 (by decide) (fun c_39 => ?_) (fun c_39 => ?_)
        · refine r_iconst d_Mm_beside_46 (v := 0) (by decide) ?_
          refine r_iadd d_Mm_beside_47 (v := nI (c / 12)) (Int32.add_zero _) ?_
          refine r_istore_n (lv' := [(3, .int (nI (c / 12))), (2, .int (nI (c % 12 + 1))), (0, .int (nI c)), (1, .int 2)]) d_Mm_beside_48 rfl (by decide) rfl ?_
          refine r_iload_n d_Mm_beside_49 rfl 1 rfl ?_
          refine r_iload_n d_Mm_beside_50 rfl 0 rfl ?_
          refine r_callS (As := [.int (nI (c % 12 + 1)), .int (nI (c / 12))]) (rest := []) (csC := []) (is := []) ln_Mm_91 w_st_Mm_isCell ok_Mm_beside_Mm_isCell d_Mm_beside_51 (C_Mm_isCell g (nI (c % 12 + 1)) (nI (c / 12))) rfl rfl (Nat.le_of_ble_eq_true rfl) rfl (by decide) (by omega) (by omega) (fun E cs1 hx => ?_) (fun v cs1 hx => ?_)
          · exact absurd hx.1 (by simp)
          · obtain ⟨e1, rfl⟩ := hx
            rw [if_pos (z_cellN (by omega) (by omega))] at e1
            cases e1
            refine ⟨rfl, ?_⟩
            refine r_st (st2 := [.int 1]) rfl ?_
            refine r_cs (cs2 := []) rfl ?_
            refine r_if_eq (tgt := 66) d_Mm_beside_54 (by decide) (fun c_54 => ?_) (fun c_54 => ?_)
            · exact absurd c_54 (by decide)
            · refine r_bipush d_Mm_beside_57 (v := 12) (by decide) ?_
              refine r_iload_n d_Mm_beside_59 rfl 0 rfl ?_
              refine r_imul d_Mm_beside_60 (v := nI (12 * (c / 12))) (pk_mul _ _) ?_
              refine r_iload_n d_Mm_beside_61 rfl 1 rfl ?_
              refine r_iadd d_Mm_beside_62 (v := nI (c + 1)) (by rw [nI_add]; congr 1; omega) ?_
              refine r_goto (tgt := 67) d_Mm_beside_63 (by decide) ?_
              refine r_iret d_Mm_beside_67 rfl rfl ?_
              exact ⟨rfl, rfl⟩
        · exact absurd c_39 (by decide)
      · exact absurd c_30 (by decide)
  · exact absurd c_6 (by decide)
theorem d_Mm_beside_42 : decode prog_14_method_6_code 42 = .ok (.iconst 1, 1) := zo_4 (zd_b zq_prog_14_method_6_code_1 10 rfl rfl rfl)
theorem d_Mm_beside_43 : decode prog_14_method_6_code 43 = .ok (.goto 4, 3) := zo_167 (d := 0) (e := 4) (zd_b zq_prog_14_method_6_code_1 11 rfl rfl rfl) (zd_b zq_prog_14_method_6_code_1 12 rfl rfl rfl) (zd_b zq_prog_14_method_6_code_1 13 rfl rfl rfl) (by decide +kernel)
set_option maxHeartbeats 4000000 in
set_option maxRecDepth 100000 in
theorem C_Mm_beside3a (g : zG) (c : Nat) (hc : c < 108) (hq : 96 ≤ c) : CT g M_Mm_beside [.int (nI c), .int 3] [] (fun o cs1 => o = .inl (some (.int (-1))) ∧ cs1 = []) 0 0 := by
  refine z_of (by decide) rfl (Nat.le_of_ble_eq_true rfl) (fun w0 => ?_)
  refine r_lvE (lv2 := [(0, .int (nI c)), (1, .int 3)]) rfl ?_
  refine r_iload_n d_Mm_beside_0 rfl 0 rfl ?_
  refine r_bipush d_Mm_beside_1 (v := 12) (by decide) ?_
  refine r_irem d_Mm_beside_3 (v := nI (c % 12)) (by decide) (nI_mod12 (by omega)) ?_
  refine r_iload_n d_Mm_beside_4 rfl 1 rfl ?_
  refine r_iconst d_Mm_beside_5 (v := 1) (by decide) ?_
  refine r_icmp_ne (tgt := 13) d_Mm_beside_6 (by decide) (fun c_6 => ?_) (fun c_6 => ?_)
  · refine r_iload_n d_Mm_beside_13 rfl 1 rfl ?_
    refine r_iconst d_Mm_beside_14 (v := 2) (by decide) ?_
    refine r_icmp_ne (tgt := 22) d_Mm_beside_15 (by decide) (fun c_15 => ?_) (fun c_15 => ?_)
    · refine r_iconst d_Mm_beside_22 (v := 0) (by decide) ?_
      refine r_iadd d_Mm_beside_23 (v := nI (c % 12)) (Int32.add_zero _) ?_
      refine r_istore_n (lv' := [(2, .int (nI (c % 12))), (0, .int (nI c)), (1, .int 3)]) d_Mm_beside_24 rfl (by decide) rfl ?_
      refine r_iload_n d_Mm_beside_25 rfl 1 rfl ?_
      refine r_bipush d_Mm_beside_26 (v := 12) (by decide) ?_
      refine r_idiv d_Mm_beside_28 (v := nI (c / 12)) (by decide) (nI_div12 (by omega)) ?_
      refine r_iload_n d_Mm_beside_29 rfl 2 rfl ?_
      refine r_if_ne (tgt := 37) d_Mm_beside_30 (by decide) (fun c_30 => ?_) (fun c_30 => ?_)
      · refine r_iload_n d_Mm_beside_37 rfl 2 rfl ?_
        refine r_iconst d_Mm_beside_38 (v := 3) (by decide) ?_
        refine r_icmp_ne (tgt := 46) d_Mm_beside_39 (by decide) (fun c_39 => ?_) (fun c_39 => ?_)
        · exact absurd c_39 (by decide)
        · refine r_iconst d_Mm_beside_42 (v := 1) (by decide) ?_
          refine r_goto (tgt := 47) d_Mm_beside_43 (by decide) ?_
          refine r_iadd d_Mm_beside_47 (v := 9) (by rw [show c / 12 = 8 by omega]; rfl) ?_
          refine r_istore_n (lv' := [(3, .int 9), (2, .int (nI (c % 12))), (0, .int (nI c)), (1, .int 3)]) d_Mm_beside_48 rfl (by decide) rfl ?_
          refine r_iload_n d_Mm_beside_49 rfl 1 rfl ?_
          refine r_iload_n d_Mm_beside_50 rfl 0 rfl ?_
          refine r_callS (As := [.int (nI (c % 12)), .int 9]) (rest := []) (csC := []) (is := []) ln_Mm_91 w_st_Mm_isCell ok_Mm_beside_Mm_isCell d_Mm_beside_51 (C_Mm_isCell g (nI (c % 12)) 9) rfl rfl (Nat.le_of_ble_eq_true rfl) rfl (by decide) (by omega) (by omega) (fun E cs1 hx => ?_) (fun v cs1 hx => ?_)
          · exact absurd hx.1 (by simp)
          · obtain ⟨e1, rfl⟩ := hx
            rw [if_neg (fun q => absurd q.2.2.2 (by decide))] at e1
            cases e1
            refine ⟨rfl, ?_⟩
            refine r_st (st2 := [.int 0]) rfl ?_
            refine r_cs (cs2 := []) rfl ?_
            refine r_if_eq (tgt := 66) d_Mm_beside_54 (by decide) (fun c_54 => ?_) (fun c_54 => ?_)
            · refine r_iconst d_Mm_beside_66 (v := (-1)) (by decide) ?_
              refine r_iret d_Mm_beside_67 rfl rfl ?_
              exact ⟨rfl, rfl⟩
            · exact absurd c_54 (by decide)
      · exact absurd c_30 (by decide)
    · exact absurd c_15 (by decide)
  · exact absurd c_6 (by decide)
set_option maxHeartbeats 4000000 in
set_option maxRecDepth 100000 in
theorem C_Mm_beside3b (g : zG) (c : Nat) (hc : c < 108) (hq : c < 96) : CT g M_Mm_beside [.int (nI c), .int 3] [] (fun o cs1 => o = .inl (some (.int (nI (c + 12)))) ∧ cs1 = []) 0 0 := by
  refine z_of (by decide) rfl (Nat.le_of_ble_eq_true rfl) (fun w0 => ?_)
  refine r_lvE (lv2 := [(0, .int (nI c)), (1, .int 3)]) rfl ?_
  refine r_iload_n d_Mm_beside_0 rfl 0 rfl ?_
  refine r_bipush d_Mm_beside_1 (v := 12) (by decide) ?_
  refine r_irem d_Mm_beside_3 (v := nI (c % 12)) (by decide) (nI_mod12 (by omega)) ?_
  refine r_iload_n d_Mm_beside_4 rfl 1 rfl ?_
  refine r_iconst d_Mm_beside_5 (v := 1) (by decide) ?_
  refine r_icmp_ne (tgt := 13) d_Mm_beside_6 (by decide) (fun c_6 => ?_) (fun c_6 => ?_)
  · refine r_iload_n d_Mm_beside_13 rfl 1 rfl ?_
    refine r_iconst d_Mm_beside_14 (v := 2) (by decide) ?_
    refine r_icmp_ne (tgt := 22) d_Mm_beside_15 (by decide) (fun c_15 => ?_) (fun c_15 => ?_)
    · refine r_iconst d_Mm_beside_22 (v := 0) (by decide) ?_
      refine r_iadd d_Mm_beside_23 (v := nI (c % 12)) (Int32.add_zero _) ?_
      refine r_istore_n (lv' := [(2, .int (nI (c % 12))), (0, .int (nI c)), (1, .int 3)]) d_Mm_beside_24 rfl (by decide) rfl ?_
      refine r_iload_n d_Mm_beside_25 rfl 1 rfl ?_
      refine r_bipush d_Mm_beside_26 (v := 12) (by decide) ?_
      refine r_idiv d_Mm_beside_28 (v := nI (c / 12)) (by decide) (nI_div12 (by omega)) ?_
      refine r_iload_n d_Mm_beside_29 rfl 2 rfl ?_
      refine r_if_ne (tgt := 37) d_Mm_beside_30 (by decide) (fun c_30 => ?_) (fun c_30 => ?_)
      · refine r_iload_n d_Mm_beside_37 rfl 2 rfl ?_
        refine r_iconst d_Mm_beside_38 (v := 3) (by decide) ?_
        refine r_icmp_ne (tgt := 46) d_Mm_beside_39 (by decide) (fun c_39 => ?_) (fun c_39 => ?_)
        · exact absurd c_39 (by decide)
        · refine r_iconst d_Mm_beside_42 (v := 1) (by decide) ?_
          refine r_goto (tgt := 47) d_Mm_beside_43 (by decide) ?_
          refine r_iadd d_Mm_beside_47 (v := nI (c / 12 + 1)) (nI_add _ _) ?_
          refine r_istore_n (lv' := [(3, .int (nI (c / 12 + 1))), (2, .int (nI (c % 12))), (0, .int (nI c)), (1, .int 3)]) d_Mm_beside_48 rfl (by decide) rfl ?_
          refine r_iload_n d_Mm_beside_49 rfl 1 rfl ?_
          refine r_iload_n d_Mm_beside_50 rfl 0 rfl ?_
          refine r_callS (As := [.int (nI (c % 12)), .int (nI (c / 12 + 1))]) (rest := []) (csC := []) (is := []) ln_Mm_91 w_st_Mm_isCell ok_Mm_beside_Mm_isCell d_Mm_beside_51 (C_Mm_isCell g (nI (c % 12)) (nI (c / 12 + 1))) rfl rfl (Nat.le_of_ble_eq_true rfl) rfl (by decide) (by omega) (by omega) (fun E cs1 hx => ?_) (fun v cs1 hx => ?_)
          · exact absurd hx.1 (by simp)
          · obtain ⟨e1, rfl⟩ := hx
            rw [if_pos (z_cellN (by omega) (by omega))] at e1
            cases e1
            refine ⟨rfl, ?_⟩
            refine r_st (st2 := [.int 1]) rfl ?_
            refine r_cs (cs2 := []) rfl ?_
            refine r_if_eq (tgt := 66) d_Mm_beside_54 (by decide) (fun c_54 => ?_) (fun c_54 => ?_)
            · exact absurd c_54 (by decide)
            · refine r_bipush d_Mm_beside_57 (v := 12) (by decide) ?_
              refine r_iload_n d_Mm_beside_59 rfl 0 rfl ?_
              refine r_imul d_Mm_beside_60 (v := nI (12 * (c / 12 + 1))) (pk_mul _ _) ?_
              refine r_iload_n d_Mm_beside_61 rfl 1 rfl ?_
              refine r_iadd d_Mm_beside_62 (v := nI (c + 12)) (by rw [nI_add]; congr 1; omega) ?_
              refine r_goto (tgt := 67) d_Mm_beside_63 (by decide) ?_
              refine r_iret d_Mm_beside_67 rfl rfl ?_
              exact ⟨rfl, rfl⟩
      · exact absurd c_30 (by decide)
    · exact absurd c_15 (by decide)
  · exact absurd c_6 (by decide)
abbrev M_Mm_thrown : zM := (⟨"IronpourModel", "thrown", "()I"⟩, prog_14_method_2_code, 1, (Option.some FieldType.int), 1, 20, [])
theorem d_Mm_thrown_0 : decode prog_14_method_2_code 0 = .ok (.aload_n 0, 1) := zo_42 (zd_b zq_prog_14_method_2_code_0 0 rfl rfl rfl)
theorem d_Mm_thrown_1 : decode prog_14_method_2_code 1 = .ok (.getfield 84, 3) := zo_180 (d := 0) (e := 84) (zd_b zq_prog_14_method_2_code_0 1 rfl rfl rfl) (zd_b zq_prog_14_method_2_code_0 2 rfl rfl rfl) (zd_b zq_prog_14_method_2_code_0 3 rfl rfl rfl)
theorem d_Mm_thrown_4 : decode prog_14_method_2_code 4 = .ok (.ireturn, 1) := zo_172 (zd_b zq_prog_14_method_2_code_0 4 rfl rfl rfl)
set_option maxHeartbeats 4000000 in
set_option maxRecDepth 100000 in
theorem C_Mm_thrown (g : zG) (m mp mf mh mn mt mz mc_ mq mgr ml mi mr mm mu mk mx : Nat) (th pt cl wa co_ fi bu ho lh mg wd fpi fal : Int32) (po de : Int64) : CT g M_Mm_thrown [.ref m] [(m, .inr (12, [.int th, .ref mp, .int pt, .ref mf, .ref mh, .ref mn, .ref mt, .ref mz, .ref mc_, .ref mq, .ref mgr, .int cl, .int wa, .int co_, .int fi, .int bu, .int ho, .ref ml, .ref mi, .ref mr, .int lh, .int mg, .int wd, .int fpi, .int fal, .ref mm, .ref mu, .ref mk, .ref mx, .long po, .long de]))] (fun o cs1 => o = .inl (some (.int th)) ∧ cs1 = [(m, .inr (12, [.int th, .ref mp, .int pt, .ref mf, .ref mh, .ref mn, .ref mt, .ref mz, .ref mc_, .ref mq, .ref mgr, .int cl, .int wa, .int co_, .int fi, .int bu, .int ho, .ref ml, .ref mi, .ref mr, .int lh, .int mg, .int wd, .int fpi, .int fal, .ref mm, .ref mu, .ref mk, .ref mx, .long po, .long de]))]) 0 0 := by
  refine z_of (by decide) rfl (Nat.le_of_ble_eq_true rfl) (fun w0 => ?_)
  refine r_lvE (lv2 := [(0, .ref m)]) rfl ?_
  refine r_aload_n d_Mm_thrown_0 rfl 0 rfl ?_
  refine r_get fs_Mm_84 d_Mm_thrown_1 (q0 := 0) rfl rfl ?_
  refine r_iret d_Mm_thrown_4 rfl rfl ?_
  exact ⟨rfl, rfl⟩
abbrev M_Mm_cellsIn : zM := (⟨"IronpourModel", "cellsIn", "([C)I"⟩, prog_14_method_19_code, 3, (Option.some FieldType.int), 2, 40, [])
theorem d_Mm_cellsIn_4 : decode prog_14_method_19_code 4 = .ok (.iload_n 2, 1) := zo_28 (zd_b zq_prog_14_method_19_code_0 4 rfl rfl rfl)
theorem d_Mm_cellsIn_5 : decode prog_14_method_19_code 5 = .ok (.bipush 108, 2) := zo_16 (d := 108) (zd_b zq_prog_14_method_19_code_0 5 rfl rfl rfl) (zd_b zq_prog_14_method_19_code_0 6 rfl rfl rfl) (by decide +kernel)
theorem d_Mm_cellsIn_7 : decode prog_14_method_19_code 7 = .ok (.if_icmp .ge 26, 3) := zo_162 (d := 0) (e := 26) (zd_b zq_prog_14_method_19_code_0 7 rfl rfl rfl) (zd_b zq_prog_14_method_19_code_0 8 rfl rfl rfl) (zd_b zq_prog_14_method_19_code_0 9 rfl rfl rfl) (by decide +kernel)
theorem d_Mm_cellsIn_33 : decode prog_14_method_19_code 33 = .ok (.iload_n 1, 1) := zo_27 (zd_b zq_prog_14_method_19_code_1 1 rfl rfl rfl)
theorem d_Mm_cellsIn_34 : decode prog_14_method_19_code 34 = .ok (.ireturn, 1) := zo_172 (zd_b zq_prog_14_method_19_code_1 2 rfl rfl rfl)
theorem d_Mm_cellsIn_10 : decode prog_14_method_19_code 10 = .ok (.iload_n 1, 1) := zo_27 (zd_b zq_prog_14_method_19_code_0 10 rfl rfl rfl)
theorem d_Mm_cellsIn_11 : decode prog_14_method_19_code 11 = .ok (.aload_n 0, 1) := zo_42 (zd_b zq_prog_14_method_19_code_0 11 rfl rfl rfl)
theorem d_Mm_cellsIn_12 : decode prog_14_method_19_code 12 = .ok (.iload_n 2, 1) := zo_28 (zd_b zq_prog_14_method_19_code_0 12 rfl rfl rfl)
theorem d_Mm_cellsIn_13 : decode prog_14_method_19_code 13 = .ok (.caload, 1) := zo_52 (zd_b zq_prog_14_method_19_code_0 13 rfl rfl rfl)
theorem d_Mm_cellsIn_14 : decode prog_14_method_19_code 14 = .ok (.invokestatic 107, 3) := zo_184 (d := 0) (e := 107) (zd_b zq_prog_14_method_19_code_0 14 rfl rfl rfl) (zd_b zq_prog_14_method_19_code_0 15 rfl rfl rfl) (zd_b zq_prog_14_method_19_code_0 16 rfl rfl rfl)
theorem ok_Mm_cellsIn_Mm_isMetal : z_ok M_Mm_cellsIn M_Mm_isMetal 1 := ⟨z_mj7 (i := 214) rfl (by decide +kernel), rfl, ⟨by decide +kernel, by decide +kernel, by decide +kernel⟩, ⟨by decide, by decide⟩, z_mj1 (i := 14) rfl (by decide +kernel), rfl⟩
theorem ln_Mm_107 : Cond.methodLink "IronpourModel" 107 M_Mm_isMetal.1 ∈ z_gw := z_mj7 (i := 212) rfl (by decide +kernel)
theorem w_st_Mm_isMetal : Cond.static M_Mm_isMetal.1 ∈ z_gw := z_mj7 (i := 213) rfl (by decide +kernel)
theorem d_Mm_cellsIn_17 : decode prog_14_method_19_code 17 = .ok (.ifCond .eq 7, 3) := zo_153 (d := 0) (e := 7) (zd_b zq_prog_14_method_19_code_0 17 rfl rfl rfl) (zd_b zq_prog_14_method_19_code_0 18 rfl rfl rfl) (zd_b zq_prog_14_method_19_code_0 19 rfl rfl rfl) (by decide +kernel)
theorem d_Mm_cellsIn_24 : decode prog_14_method_19_code 24 = .ok (.iconst 0, 1) := zo_3 (zd_b zq_prog_14_method_19_code_0 24 rfl rfl rfl)
theorem d_Mm_cellsIn_25 : decode prog_14_method_19_code 25 = .ok (.iadd, 1) := zo_96 (zd_b zq_prog_14_method_19_code_0 25 rfl rfl rfl)
theorem d_Mm_cellsIn_26 : decode prog_14_method_19_code 26 = .ok (.istore_n 1, 1) := zo_60 (zd_b zq_prog_14_method_19_code_0 26 rfl rfl rfl)
theorem d_Mm_cellsIn_27 : decode prog_14_method_19_code 27 = .ok (.iinc 2 1, 3) := by decide +kernel
theorem d_Mm_cellsIn_30 : decode prog_14_method_19_code 30 = .ok (.goto (-26), 3) := zo_167 (d := 255) (e := 230) (zd_b zq_prog_14_method_19_code_0 30 rfl rfl rfl) (zd_b zq_prog_14_method_19_code_0 31 rfl rfl rfl) (zd_b zq_prog_14_method_19_code_1 0 rfl rfl rfl) (by decide +kernel)
theorem d_Mm_cellsIn_20 : decode prog_14_method_19_code 20 = .ok (.iconst 1, 1) := zo_4 (zd_b zq_prog_14_method_19_code_0 20 rfl rfl rfl)
theorem d_Mm_cellsIn_21 : decode prog_14_method_19_code 21 = .ok (.goto 4, 3) := zo_167 (d := 0) (e := 4) (zd_b zq_prog_14_method_19_code_0 21 rfl rfl rfl) (zd_b zq_prog_14_method_19_code_0 22 rfl rfl rfl) (zd_b zq_prog_14_method_19_code_0 23 rfl rfl rfl) (by decide +kernel)
theorem d_Mm_cellsIn_0 : decode prog_14_method_19_code 0 = .ok (.iconst 0, 1) := zo_3 (zd_b zq_prog_14_method_19_code_0 0 rfl rfl rfl)
theorem d_Mm_cellsIn_1 : decode prog_14_method_19_code 1 = .ok (.istore_n 1, 1) := zo_60 (zd_b zq_prog_14_method_19_code_0 1 rfl rfl rfl)
theorem d_Mm_cellsIn_2 : decode prog_14_method_19_code 2 = .ok (.iconst 0, 1) := zo_3 (zd_b zq_prog_14_method_19_code_0 2 rfl rfl rfl)
theorem d_Mm_cellsIn_3 : decode prog_14_method_19_code 3 = .ok (.istore_n 2, 1) := zo_61 (zd_b zq_prog_14_method_19_code_0 3 rfl rfl rfl)
set_option maxHeartbeats 4000000 in
set_option maxRecDepth 100000 in
theorem L_Mm_cellsIn_4 (g : zG) (b : Nat) (f : Nat → Int32) (w0 : zW) (n : Nat) : ∀ (d i : Nat), i ≤ 108 → 108 < i + d → DV g M_Mm_cellsIn (fun o cs1 => o = .inl (some (.int (nI (fa_cnt (fun k => tmB (f k)) 108)))) ∧ cs1 = [(b, .inl (1, 108, .inl f))]) w0 n 4 [(2, .int (nI i)), (1, .int (nI (fa_cnt (fun k => tmB (f k)) i))), (0, .ref b)] [] [(b, .inl (1, 108, .inl f))] 0 0 := by
  intro d
  induction d with
  | zero => intro i h1 h2 ; exact absurd h2 (by omega)
  | succ d ih =>
    intro i h1 h2 
    refine r_iload_n d_Mm_cellsIn_4 rfl 0 rfl ?_
    refine r_bipush d_Mm_cellsIn_5 (v := 108) (by decide) ?_
    refine r_icmp_ge (tgt := 33) d_Mm_cellsIn_7 (by decide) (fun c_7 => ?_) (fun c_7 => ?_)
    · have hn := z_le (a := 108) (by omega) (by decide) c_7
      obtain rfl : i = 108 := by omega
      refine r_iload_n d_Mm_cellsIn_33 rfl 1 rfl ?_
      refine r_iret d_Mm_cellsIn_34 rfl rfl ?_
      exact ⟨rfl, rfl⟩
    · have hn := z_nle (a := 108) (by omega) (by decide) c_7
      refine r_iload_n d_Mm_cellsIn_10 rfl 1 rfl ?_
      refine r_aload_n d_Mm_cellsIn_11 rfl 2 rfl ?_
      refine r_iload_n d_Mm_cellsIn_12 rfl 0 rfl ?_
      refine r_cald d_Mm_cellsIn_13 (q0 := 0) rfl (vp_in_nI (by omega) (by omega)) (v := f i) (by rw [nI_clamp (by omega)]) ?_
      refine r_callS (As := [.int (f i)]) (rest := [.int (nI (fa_cnt (fun k => tmB (f k)) i))]) (csC := []) (is := []) ln_Mm_107 w_st_Mm_isMetal ok_Mm_cellsIn_Mm_isMetal d_Mm_cellsIn_14 (C_Mm_isMetal g (f i)) rfl rfl (Nat.le_of_ble_eq_true rfl) rfl (by decide) (by omega) (by omega) (fun E cs1 hx => ?_) (fun v cs1 hx => ?_)
      · exact absurd hx.1 (by simp)
      · obtain ⟨e1, rfl⟩ := hx
        cases e1
        refine ⟨rfl, ?_⟩
        refine r_st (st2 := [.int (z_bi (tmB (f i))), .int (nI (fa_cnt (fun k => tmB (f k)) i))]) rfl ?_
        refine r_cs (cs2 := [(b, .inl (1, 108, .inl f))]) rfl ?_
        refine r_if_eq (tgt := 24) d_Mm_cellsIn_17 (by decide) (fun c_17 => ?_) (fun c_17 => ?_)
        · have hb := z_bi0 c_17
          refine r_iconst d_Mm_cellsIn_24 (v := 0) (by decide) ?_
          refine r_iadd d_Mm_cellsIn_25 (v := nI ((fa_cnt (fun k => tmB (f k)) i) + 0)) (nI_add _ _) ?_
          refine r_istore_n (lv' := [(1, .int (nI ((fa_cnt (fun k => tmB (f k)) i) + 0))), (2, .int (nI i)), (0, .ref b)]) d_Mm_cellsIn_26 rfl (by decide) rfl ?_
          refine r_iinc (lv' := [(2, .int (nI (i + 1))), (1, .int (nI ((fa_cnt (fun k => tmB (f k)) i) + 0))), (0, .ref b)]) (v := nI (i + 1)) d_Mm_cellsIn_27 (j := 1) rfl (nI_add _ _) (by decide) rfl ?_
          refine r_goto (tgt := 4) d_Mm_cellsIn_30 (by decide) ?_
          refine r_lvE (lv2 := [(2, .int (nI (i + 1))), (1, .int (nI (fa_cnt (fun k => tmB (f k)) (i + 1)))), (0, .ref b)]) (by first | (rw [fa_cnt_yes (p := fun k => tmB (f k)) hb] <;> rfl) | (rw [fa_cnt_no (p := fun k => tmB (f k)) hb] <;> rfl)) ?_
          refine r_cs (cs2 := [(b, .inl (1, 108, .inl f))]) (rfl) ?_
          exact ih (i + 1) (by omega) (by omega)
        · have hb := z_bi1 c_17
          refine r_iconst d_Mm_cellsIn_20 (v := 1) (by decide) ?_
          refine r_goto (tgt := 25) d_Mm_cellsIn_21 (by decide) ?_
          refine r_iadd d_Mm_cellsIn_25 (v := nI ((fa_cnt (fun k => tmB (f k)) i) + 1)) (nI_add _ _) ?_
          refine r_istore_n (lv' := [(1, .int (nI ((fa_cnt (fun k => tmB (f k)) i) + 1))), (2, .int (nI i)), (0, .ref b)]) d_Mm_cellsIn_26 rfl (by decide) rfl ?_
          refine r_iinc (lv' := [(2, .int (nI (i + 1))), (1, .int (nI ((fa_cnt (fun k => tmB (f k)) i) + 1))), (0, .ref b)]) (v := nI (i + 1)) d_Mm_cellsIn_27 (j := 1) rfl (nI_add _ _) (by decide) rfl ?_
          refine r_goto (tgt := 4) d_Mm_cellsIn_30 (by decide) ?_
          refine r_lvE (lv2 := [(2, .int (nI (i + 1))), (1, .int (nI (fa_cnt (fun k => tmB (f k)) (i + 1)))), (0, .ref b)]) (by first | (rw [fa_cnt_yes (p := fun k => tmB (f k)) hb] <;> rfl) | (rw [fa_cnt_no (p := fun k => tmB (f k)) hb] <;> rfl)) ?_
          refine r_cs (cs2 := [(b, .inl (1, 108, .inl f))]) (rfl) ?_
          exact ih (i + 1) (by omega) (by omega)
set_option maxHeartbeats 4000000 in
set_option maxRecDepth 100000 in
theorem C_Mm_cellsIn (g : zG) (b : Nat) (f : Nat → Int32) : CT g M_Mm_cellsIn [.ref b] [(b, .inl (1, 108, .inl f))] (fun o cs1 => o = .inl (some (.int (nI (fa_cnt (fun k => tmB (f k)) 108)))) ∧ cs1 = [(b, .inl (1, 108, .inl f))]) 0 0 := by
  refine z_of (by decide) rfl (Nat.le_of_ble_eq_true rfl) (fun w0 => ?_)
  refine r_lvE (lv2 := [(0, .ref b)]) rfl ?_
  refine r_iconst d_Mm_cellsIn_0 (v := 0) (by decide) ?_
  refine r_istore_n (lv' := [(1, .int 0), (0, .ref b)]) d_Mm_cellsIn_1 rfl (by decide) rfl ?_
  refine r_iconst d_Mm_cellsIn_2 (v := 0) (by decide) ?_
  refine r_istore_n (lv' := [(2, .int 0), (1, .int 0), (0, .ref b)]) d_Mm_cellsIn_3 rfl (by decide) rfl ?_
  refine r_lvE (lv2 := [(2, .int (nI 0)), (1, .int (nI (fa_cnt (fun k => tmB (f k)) 0))), (0, .ref b)]) (rfl) ?_
  refine r_cs (cs2 := [(b, .inl (1, 108, .inl f))]) (rfl) ?_
  exact L_Mm_cellsIn_4 g b f w0 _  (108 + 1) 0 (Nat.zero_le _) (by omega)
abbrev M_Mm_gates : zM := (⟨"IronpourModel", "gates", "([C)I"⟩, prog_14_method_21_code, 3, (Option.some FieldType.int), 1, 20, [])
theorem d_Mm_gates_4 : decode prog_14_method_21_code 4 = .ok (.iload_n 2, 1) := zo_28 (zd_b zq_prog_14_method_21_code_0 4 rfl rfl rfl)
theorem d_Mm_gates_5 : decode prog_14_method_21_code 5 = .ok (.bipush 12, 2) := zo_16 (d := 12) (zd_b zq_prog_14_method_21_code_0 5 rfl rfl rfl) (zd_b zq_prog_14_method_21_code_0 6 rfl rfl rfl) (by decide +kernel)
theorem d_Mm_gates_7 : decode prog_14_method_21_code 7 = .ok (.if_icmp .ge 25, 3) := zo_162 (d := 0) (e := 25) (zd_b zq_prog_14_method_21_code_0 7 rfl rfl rfl) (zd_b zq_prog_14_method_21_code_0 8 rfl rfl rfl) (zd_b zq_prog_14_method_21_code_0 9 rfl rfl rfl) (by decide +kernel)
theorem d_Mm_gates_32 : decode prog_14_method_21_code 32 = .ok (.iload_n 1, 1) := zo_27 (zd_b zq_prog_14_method_21_code_1 0 rfl rfl rfl)
theorem d_Mm_gates_33 : decode prog_14_method_21_code 33 = .ok (.ireturn, 1) := zo_172 (zd_b zq_prog_14_method_21_code_1 1 rfl rfl rfl)
theorem d_Mm_gates_10 : decode prog_14_method_21_code 10 = .ok (.iload_n 1, 1) := zo_27 (zd_b zq_prog_14_method_21_code_0 10 rfl rfl rfl)
theorem d_Mm_gates_11 : decode prog_14_method_21_code 11 = .ok (.aload_n 0, 1) := zo_42 (zd_b zq_prog_14_method_21_code_0 11 rfl rfl rfl)
theorem d_Mm_gates_12 : decode prog_14_method_21_code 12 = .ok (.iload_n 2, 1) := zo_28 (zd_b zq_prog_14_method_21_code_0 12 rfl rfl rfl)
theorem d_Mm_gates_13 : decode prog_14_method_21_code 13 = .ok (.caload, 1) := zo_52 (zd_b zq_prog_14_method_21_code_0 13 rfl rfl rfl)
theorem d_Mm_gates_14 : decode prog_14_method_21_code 14 = .ok (.bipush 103, 2) := zo_16 (d := 103) (zd_b zq_prog_14_method_21_code_0 14 rfl rfl rfl) (zd_b zq_prog_14_method_21_code_0 15 rfl rfl rfl) (by decide +kernel)
theorem d_Mm_gates_16 : decode prog_14_method_21_code 16 = .ok (.if_icmp .ne 7, 3) := zo_160 (d := 0) (e := 7) (zd_b zq_prog_14_method_21_code_0 16 rfl rfl rfl) (zd_b zq_prog_14_method_21_code_0 17 rfl rfl rfl) (zd_b zq_prog_14_method_21_code_0 18 rfl rfl rfl) (by decide +kernel)
theorem d_Mm_gates_23 : decode prog_14_method_21_code 23 = .ok (.iconst 0, 1) := zo_3 (zd_b zq_prog_14_method_21_code_0 23 rfl rfl rfl)
theorem d_Mm_gates_24 : decode prog_14_method_21_code 24 = .ok (.iadd, 1) := zo_96 (zd_b zq_prog_14_method_21_code_0 24 rfl rfl rfl)
theorem d_Mm_gates_25 : decode prog_14_method_21_code 25 = .ok (.istore_n 1, 1) := zo_60 (zd_b zq_prog_14_method_21_code_0 25 rfl rfl rfl)
theorem d_Mm_gates_26 : decode prog_14_method_21_code 26 = .ok (.iinc 2 1, 3) := by decide +kernel
theorem d_Mm_gates_29 : decode prog_14_method_21_code 29 = .ok (.goto (-25), 3) := zo_167 (d := 255) (e := 231) (zd_b zq_prog_14_method_21_code_0 29 rfl rfl rfl) (zd_b zq_prog_14_method_21_code_0 30 rfl rfl rfl) (zd_b zq_prog_14_method_21_code_0 31 rfl rfl rfl) (by decide +kernel)
theorem d_Mm_gates_19 : decode prog_14_method_21_code 19 = .ok (.iconst 1, 1) := zo_4 (zd_b zq_prog_14_method_21_code_0 19 rfl rfl rfl)
theorem d_Mm_gates_20 : decode prog_14_method_21_code 20 = .ok (.goto 4, 3) := zo_167 (d := 0) (e := 4) (zd_b zq_prog_14_method_21_code_0 20 rfl rfl rfl) (zd_b zq_prog_14_method_21_code_0 21 rfl rfl rfl) (zd_b zq_prog_14_method_21_code_0 22 rfl rfl rfl) (by decide +kernel)
theorem d_Mm_gates_0 : decode prog_14_method_21_code 0 = .ok (.iconst 0, 1) := zo_3 (zd_b zq_prog_14_method_21_code_0 0 rfl rfl rfl)
theorem d_Mm_gates_1 : decode prog_14_method_21_code 1 = .ok (.istore_n 1, 1) := zo_60 (zd_b zq_prog_14_method_21_code_0 1 rfl rfl rfl)
theorem d_Mm_gates_2 : decode prog_14_method_21_code 2 = .ok (.iconst 0, 1) := zo_3 (zd_b zq_prog_14_method_21_code_0 2 rfl rfl rfl)
theorem d_Mm_gates_3 : decode prog_14_method_21_code 3 = .ok (.istore_n 2, 1) := zo_61 (zd_b zq_prog_14_method_21_code_0 3 rfl rfl rfl)
set_option maxHeartbeats 4000000 in
set_option maxRecDepth 100000 in
theorem L_Mm_gates_4 (g : zG) (b : Nat) (f : Nat → Int32) (w0 : zW) (n : Nat) : ∀ (d i : Nat), i ≤ 12 → 12 < i + d → DV g M_Mm_gates (fun o cs1 => o = .inl (some (.int (nI (fa_cnt (fun k => decide (f k = 103)) 12)))) ∧ cs1 = [(b, .inl (1, 108, .inl f))]) w0 n 4 [(2, .int (nI i)), (1, .int (nI (fa_cnt (fun k => decide (f k = 103)) i))), (0, .ref b)] [] [(b, .inl (1, 108, .inl f))] 0 0 := by
  intro d
  induction d with
  | zero => intro i h1 h2 ; exact absurd h2 (by omega)
  | succ d ih =>
    intro i h1 h2 
    refine r_iload_n d_Mm_gates_4 rfl 0 rfl ?_
    refine r_bipush d_Mm_gates_5 (v := 12) (by decide) ?_
    refine r_icmp_ge (tgt := 32) d_Mm_gates_7 (by decide) (fun c_7 => ?_) (fun c_7 => ?_)
    · have hn := z_le (a := 12) (by omega) (by decide) c_7
      obtain rfl : i = 12 := by omega
      refine r_iload_n d_Mm_gates_32 rfl 1 rfl ?_
      refine r_iret d_Mm_gates_33 rfl rfl ?_
      exact ⟨rfl, rfl⟩
    · have hn := z_nle (a := 12) (by omega) (by decide) c_7
      refine r_iload_n d_Mm_gates_10 rfl 1 rfl ?_
      refine r_aload_n d_Mm_gates_11 rfl 2 rfl ?_
      refine r_iload_n d_Mm_gates_12 rfl 0 rfl ?_
      refine r_cald d_Mm_gates_13 (q0 := 0) rfl (vp_in_nI (by omega) (by omega)) (v := f i) (by rw [nI_clamp (by omega)]) ?_
      refine r_bipush d_Mm_gates_14 (v := 103) (by decide) ?_
      refine r_icmp_ne (tgt := 23) d_Mm_gates_16 (by decide) (fun c_16 => ?_) (fun c_16 => ?_)
      · have hb : decide (f i = 103) = false := decide_eq_false c_16
        refine r_iconst d_Mm_gates_23 (v := 0) (by decide) ?_
        refine r_iadd d_Mm_gates_24 (v := nI ((fa_cnt (fun k => decide (f k = 103)) i) + 0)) (nI_add _ _) ?_
        refine r_istore_n (lv' := [(1, .int (nI ((fa_cnt (fun k => decide (f k = 103)) i) + 0))), (2, .int (nI i)), (0, .ref b)]) d_Mm_gates_25 rfl (by decide) rfl ?_
        refine r_iinc (lv' := [(2, .int (nI (i + 1))), (1, .int (nI ((fa_cnt (fun k => decide (f k = 103)) i) + 0))), (0, .ref b)]) (v := nI (i + 1)) d_Mm_gates_26 (j := 1) rfl (nI_add _ _) (by decide) rfl ?_
        refine r_goto (tgt := 4) d_Mm_gates_29 (by decide) ?_
        refine r_lvE (lv2 := [(2, .int (nI (i + 1))), (1, .int (nI (fa_cnt (fun k => decide (f k = 103)) (i + 1)))), (0, .ref b)]) (by first | (rw [fa_cnt_yes (p := fun k => decide (f k = 103)) hb] <;> rfl) | (rw [fa_cnt_no (p := fun k => decide (f k = 103)) hb] <;> rfl)) ?_
        refine r_cs (cs2 := [(b, .inl (1, 108, .inl f))]) (rfl) ?_
        exact ih (i + 1) (by omega) (by omega)
      · have hb : decide (f i = 103) = true := decide_eq_true c_16
        refine r_iconst d_Mm_gates_19 (v := 1) (by decide) ?_
        refine r_goto (tgt := 24) d_Mm_gates_20 (by decide) ?_
        refine r_iadd d_Mm_gates_24 (v := nI ((fa_cnt (fun k => decide (f k = 103)) i) + 1)) (nI_add _ _) ?_
        refine r_istore_n (lv' := [(1, .int (nI ((fa_cnt (fun k => decide (f k = 103)) i) + 1))), (2, .int (nI i)), (0, .ref b)]) d_Mm_gates_25 rfl (by decide) rfl ?_
        refine r_iinc (lv' := [(2, .int (nI (i + 1))), (1, .int (nI ((fa_cnt (fun k => decide (f k = 103)) i) + 1))), (0, .ref b)]) (v := nI (i + 1)) d_Mm_gates_26 (j := 1) rfl (nI_add _ _) (by decide) rfl ?_
        refine r_goto (tgt := 4) d_Mm_gates_29 (by decide) ?_
        refine r_lvE (lv2 := [(2, .int (nI (i + 1))), (1, .int (nI (fa_cnt (fun k => decide (f k = 103)) (i + 1)))), (0, .ref b)]) (by first | (rw [fa_cnt_yes (p := fun k => decide (f k = 103)) hb] <;> rfl) | (rw [fa_cnt_no (p := fun k => decide (f k = 103)) hb] <;> rfl)) ?_
        refine r_cs (cs2 := [(b, .inl (1, 108, .inl f))]) (rfl) ?_
        exact ih (i + 1) (by omega) (by omega)
set_option maxHeartbeats 4000000 in
set_option maxRecDepth 100000 in
theorem C_Mm_gates (g : zG) (b : Nat) (f : Nat → Int32) : CT g M_Mm_gates [.ref b] [(b, .inl (1, 108, .inl f))] (fun o cs1 => o = .inl (some (.int (nI (fa_cnt (fun k => decide (f k = 103)) 12)))) ∧ cs1 = [(b, .inl (1, 108, .inl f))]) 0 0 := by
  refine z_of (by decide) rfl (Nat.le_of_ble_eq_true rfl) (fun w0 => ?_)
  refine r_lvE (lv2 := [(0, .ref b)]) rfl ?_
  refine r_iconst d_Mm_gates_0 (v := 0) (by decide) ?_
  refine r_istore_n (lv' := [(1, .int 0), (0, .ref b)]) d_Mm_gates_1 rfl (by decide) rfl ?_
  refine r_iconst d_Mm_gates_2 (v := 0) (by decide) ?_
  refine r_istore_n (lv' := [(2, .int 0), (1, .int 0), (0, .ref b)]) d_Mm_gates_3 rfl (by decide) rfl ?_
  refine r_lvE (lv2 := [(2, .int (nI 0)), (1, .int (nI (fa_cnt (fun k => decide (f k = 103)) 0))), (0, .ref b)]) (rfl) ?_
  refine r_cs (cs2 := [(b, .inl (1, 108, .inl f))]) (rfl) ?_
  exact L_Mm_gates_4 g b f w0 _  (12 + 1) 0 (Nat.zero_le _) (by omega)
abbrev M_Mm_cell : zM := (⟨"IronpourModel", "cell", "(II)C"⟩, prog_14_method_9_code, 3, (Option.some FieldType.char), 3, 63, [])
theorem d_Mm_cell_0 : decode prog_14_method_9_code 0 = .ok (.aload_n 0, 1) := zo_42 (zd_b zq_prog_14_method_9_code_0 0 rfl rfl rfl)
theorem d_Mm_cell_1 : decode prog_14_method_9_code 1 = .ok (.iconst 0, 1) := zo_3 (zd_b zq_prog_14_method_9_code_0 1 rfl rfl rfl)
theorem d_Mm_cell_2 : decode prog_14_method_9_code 2 = .ok (.putfield 84, 3) := zo_181 (d := 0) (e := 84) (zd_b zq_prog_14_method_9_code_0 2 rfl rfl rfl) (zd_b zq_prog_14_method_9_code_0 3 rfl rfl rfl) (zd_b zq_prog_14_method_9_code_0 4 rfl rfl rfl)
theorem d_Mm_cell_5 : decode prog_14_method_9_code 5 = .ok (.aload_n 0, 1) := zo_42 (zd_b zq_prog_14_method_9_code_0 5 rfl rfl rfl)
theorem d_Mm_cell_6 : decode prog_14_method_9_code 6 = .ok (.iload_n 1, 1) := zo_27 (zd_b zq_prog_14_method_9_code_0 6 rfl rfl rfl)
theorem d_Mm_cell_7 : decode prog_14_method_9_code 7 = .ok (.iload_n 2, 1) := zo_28 (zd_b zq_prog_14_method_9_code_0 7 rfl rfl rfl)
theorem d_Mm_cell_8 : decode prog_14_method_9_code 8 = .ok (.invokestatic 91, 3) := zo_184 (d := 0) (e := 91) (zd_b zq_prog_14_method_9_code_0 8 rfl rfl rfl) (zd_b zq_prog_14_method_9_code_0 9 rfl rfl rfl) (zd_b zq_prog_14_method_9_code_0 10 rfl rfl rfl)
theorem ok_Mm_cell_Mm_isCell : z_ok M_Mm_cell M_Mm_isCell 2 := ⟨z_mj7 (i := 187) rfl (by decide +kernel), rfl, ⟨by decide +kernel, by decide +kernel, by decide +kernel⟩, ⟨by decide, by decide⟩, z_mj1 (i := 14) rfl (by decide +kernel), rfl⟩
theorem d_Mm_cell_11 : decode prog_14_method_9_code 11 = .ok (.ifCond .ne 7, 3) := zo_154 (d := 0) (e := 7) (zd_b zq_prog_14_method_9_code_0 11 rfl rfl rfl) (zd_b zq_prog_14_method_9_code_0 12 rfl rfl rfl) (zd_b zq_prog_14_method_9_code_0 13 rfl rfl rfl) (by decide +kernel)
theorem d_Mm_cell_14 : decode prog_14_method_9_code 14 = .ok (.iconst 1, 1) := zo_4 (zd_b zq_prog_14_method_9_code_0 14 rfl rfl rfl)
theorem d_Mm_cell_15 : decode prog_14_method_9_code 15 = .ok (.goto 4, 3) := zo_167 (d := 0) (e := 4) (zd_b zq_prog_14_method_9_code_0 15 rfl rfl rfl) (zd_b zq_prog_14_method_9_code_0 16 rfl rfl rfl) (zd_b zq_prog_14_method_9_code_0 17 rfl rfl rfl) (by decide +kernel)
theorem d_Mm_cell_19 : decode prog_14_method_9_code 19 = .ok (.iconst 1, 1) := zo_4 (zd_b zq_prog_14_method_9_code_0 19 rfl rfl rfl)
theorem d_Mm_cell_20 : decode prog_14_method_9_code 20 = .ok (.invokevirtual 103, 3) := zo_182 (d := 0) (e := 103) (zd_b zq_prog_14_method_9_code_0 20 rfl rfl rfl) (zd_b zq_prog_14_method_9_code_0 21 rfl rfl rfl) (zd_b zq_prog_14_method_9_code_0 22 rfl rfl rfl)
theorem ok_Mm_cell_Mm_fails : z_ok M_Mm_cell M_Mm_fails 2 := ⟨z_mj7 (i := 196) rfl (by decide +kernel), rfl, ⟨by decide +kernel, by decide +kernel, by decide +kernel⟩, ⟨by decide, by decide⟩, z_mj1 (i := 14) rfl (by decide +kernel), rfl⟩
theorem ln_Mm_103 : Cond.methodLink "IronpourModel" 103 M_Mm_fails.1 ∈ z_gw := z_mj7 (i := 193) rfl (by decide +kernel)
theorem w_im_Mm_fails : Cond.instanceMethod M_Mm_fails.1 ∈ z_gw := z_mj7 (i := 195) rfl (by decide +kernel)
theorem w_se_Mm_fails : Cond.selects M_Mm_fails.1.cls M_Mm_fails.1 M_Mm_fails.1 ∈ z_gw := z_mem (i := 29) (by decide +kernel) (by decide +kernel)
theorem d_Mm_cell_23 : decode prog_14_method_9_code 23 = .ok (.ifCond .eq 7, 3) := zo_153 (d := 0) (e := 7) (zd_b zq_prog_14_method_9_code_0 23 rfl rfl rfl) (zd_b zq_prog_14_method_9_code_0 24 rfl rfl rfl) (zd_b zq_prog_14_method_9_code_0 25 rfl rfl rfl) (by decide +kernel)
theorem d_Mm_cell_26 : decode prog_14_method_9_code 26 = .ok (.iconst 0, 1) := zo_3 (zd_b zq_prog_14_method_9_code_0 26 rfl rfl rfl)
theorem d_Mm_cell_27 : decode prog_14_method_9_code 27 = .ok (.goto 14, 3) := zo_167 (d := 0) (e := 14) (zd_b zq_prog_14_method_9_code_0 27 rfl rfl rfl) (zd_b zq_prog_14_method_9_code_0 28 rfl rfl rfl) (zd_b zq_prog_14_method_9_code_0 29 rfl rfl rfl) (by decide +kernel)
theorem d_Mm_cell_41 : decode prog_14_method_9_code 41 = .ok (.ireturn, 1) := zo_172 (zd_b zq_prog_14_method_9_code_1 9 rfl rfl rfl)
set_option maxHeartbeats 4000000 in
set_option maxRecDepth 100000 in
theorem C_Mm_cellE (g : zG) (m mp mf mh mn mt mz mc_ mq mgr ml mi mr mm mu mk mx : Nat) (th pt cl wa co_ fi bu ho lh mg wd fpi fal : Int32) (po de : Int64) (f : Nat → Int32) (x y : Int32) (hz : z_cl x y = none) : CT g M_Mm_cell [.ref m, .int x, .int y] [(m, .inr (12, [.int th, .ref mp, .int pt, .ref mf, .ref mh, .ref mn, .ref mt, .ref mz, .ref mc_, .ref mq, .ref mgr, .int cl, .int wa, .int co_, .int fi, .int bu, .int ho, .ref ml, .ref mi, .ref mr, .int lh, .int mg, .int wd, .int fpi, .int fal, .ref mm, .ref mu, .ref mk, .ref mx, .long po, .long de])), (mp, .inl (1, 108, .inl f))] (fun o cs1 => o = .inl (some (.int 0)) ∧ cs1 = [(m, .inr (12, [.int 1, .ref mp, .int pt, .ref mf, .ref mh, .ref mn, .ref mt, .ref mz, .ref mc_, .ref mq, .ref mgr, .int cl, .int wa, .int co_, .int fi, .int bu, .int ho, .ref ml, .ref mi, .ref mr, .int lh, .int mg, .int wd, .int fpi, .int fal, .ref mm, .ref mu, .ref mk, .ref mx, .long po, .long de])), (mp, .inl (1, 108, .inl f))]) 0 0 := by
  refine z_of (by decide) rfl (Nat.le_of_ble_eq_true rfl) (fun w0 => ?_)
  refine r_lvE (lv2 := [(0, .ref m), (1, .int x), (2, .int y)]) rfl ?_
  refine r_aload_n d_Mm_cell_0 rfl 0 rfl ?_
  refine r_iconst d_Mm_cell_1 (v := 0) (by decide) ?_
  refine r_put fp_Mm_84 d_Mm_cell_2 (fun h => nomatch h) rfl rfl (q0 := 0) rfl (Nat.le_of_ble_eq_true rfl) (cs' := [(m, .inr (12, [.int 0, .ref mp, .int pt, .ref mf, .ref mh, .ref mn, .ref mt, .ref mz, .ref mc_, .ref mq, .ref mgr, .int cl, .int wa, .int co_, .int fi, .int bu, .int ho, .ref ml, .ref mi, .ref mr, .int lh, .int mg, .int wd, .int fpi, .int fal, .ref mm, .ref mu, .ref mk, .ref mx, .long po, .long de])), (mp, .inl (1, 108, .inl f))]) rfl ?_
  refine r_aload_n d_Mm_cell_5 rfl 0 rfl ?_
  refine r_iload_n d_Mm_cell_6 rfl 1 rfl ?_
  refine r_iload_n d_Mm_cell_7 rfl 2 rfl ?_
  refine r_callS (As := [.int x, .int y]) (rest := [.ref m]) (csC := []) (is := []) ln_Mm_91 w_st_Mm_isCell ok_Mm_cell_Mm_isCell d_Mm_cell_8 (C_Mm_isCell g x y) rfl rfl (Nat.le_of_ble_eq_true rfl) rfl (by decide) (by omega) (by omega) (fun E cs1 hx => ?_) (fun v cs1 hx => ?_)
  · exact absurd hx.1 (by simp)
  · obtain ⟨e1, rfl⟩ := hx
    rw [if_neg (z_clN hz)] at e1
    cases e1
    refine ⟨rfl, ?_⟩
    refine r_st (st2 := [.int 0, .ref m]) rfl ?_
    refine r_cs (cs2 := [(m, .inr (12, [.int 0, .ref mp, .int pt, .ref mf, .ref mh, .ref mn, .ref mt, .ref mz, .ref mc_, .ref mq, .ref mgr, .int cl, .int wa, .int co_, .int fi, .int bu, .int ho, .ref ml, .ref mi, .ref mr, .int lh, .int mg, .int wd, .int fpi, .int fal, .ref mm, .ref mu, .ref mk, .ref mx, .long po, .long de])), (mp, .inl (1, 108, .inl f))]) rfl ?_
    refine r_if_ne (tgt := 18) d_Mm_cell_11 (by decide) (fun c_11 => ?_) (fun c_11 => ?_)
    · exact absurd c_11 (by decide)
    · refine r_iconst d_Mm_cell_14 (v := 1) (by decide) ?_
      refine r_goto (tgt := 19) d_Mm_cell_15 (by decide) ?_
      refine r_iconst d_Mm_cell_19 (v := 1) (by decide) ?_
      refine r_callV (As := [.int 1, .int 1]) (rest := []) (csC := [(m, .inr (12, [.int 0, .ref mp, .int pt, .ref mf, .ref mh, .ref mn, .ref mt, .ref mz, .ref mc_, .ref mq, .ref mgr, .int cl, .int wa, .int co_, .int fi, .int bu, .int ho, .ref ml, .ref mi, .ref mr, .int lh, .int mg, .int wd, .int fpi, .int fal, .ref mm, .ref mu, .ref mk, .ref mx, .long po, .long de]))]) (is := [0]) (q0 := 0) rfl rfl ln_Mm_103 w_im_Mm_fails w_se_Mm_fails ok_Mm_cell_Mm_fails d_Mm_cell_20 (C_Mm_fails1 g m mp mf mh mn mt mz mc_ mq mgr ml mi mr mm mu mk mx th pt cl wa co_ fi bu ho lh mg wd fpi fal po de) rfl rfl (Nat.le_of_ble_eq_true rfl) rfl (by decide) (by omega) (by omega) (fun E cs1 hx => ?_) (fun v cs1 hx => ?_)
      · exact absurd hx.1 (by simp)
      · obtain ⟨e1, rfl⟩ := hx
        cases e1
        refine ⟨rfl, ?_⟩
        refine r_st (st2 := [.int 1]) rfl ?_
        refine r_cs (cs2 := [(m, .inr (12, [.int 1, .ref mp, .int pt, .ref mf, .ref mh, .ref mn, .ref mt, .ref mz, .ref mc_, .ref mq, .ref mgr, .int cl, .int wa, .int co_, .int fi, .int bu, .int ho, .ref ml, .ref mi, .ref mr, .int lh, .int mg, .int wd, .int fpi, .int fal, .ref mm, .ref mu, .ref mk, .ref mx, .long po, .long de])), (mp, .inl (1, 108, .inl f))]) rfl ?_
        refine r_if_eq (tgt := 30) d_Mm_cell_23 (by decide) (fun c_23 => ?_) (fun c_23 => ?_)
        · exact absurd c_23 (by decide)
        · refine r_iconst d_Mm_cell_26 (v := 0) (by decide) ?_
          refine r_goto (tgt := 41) d_Mm_cell_27 (by decide) ?_
          refine r_iret d_Mm_cell_41 rfl rfl ?_
          exact ⟨rfl, rfl⟩
theorem d_Mm_cell_18 : decode prog_14_method_9_code 18 = .ok (.iconst 0, 1) := zo_3 (zd_b zq_prog_14_method_9_code_0 18 rfl rfl rfl)
theorem d_Mm_cell_30 : decode prog_14_method_9_code 30 = .ok (.aload_n 0, 1) := zo_42 (zd_b zq_prog_14_method_9_code_0 30 rfl rfl rfl)
theorem d_Mm_cell_31 : decode prog_14_method_9_code 31 = .ok (.getfield 7, 3) := zo_180 (d := 0) (e := 7) (zd_b zq_prog_14_method_9_code_0 31 rfl rfl rfl) (zd_b zq_prog_14_method_9_code_1 0 rfl rfl rfl) (zd_b zq_prog_14_method_9_code_1 1 rfl rfl rfl)
theorem fs_Mm_7 : z_fs "IronpourModel" 7 12 1 := ⟨R_Mm, "IronpourModel", F_Mm, 31, rfl, u_Mm, by decide, Or.inl ⟨z_mj7 (i := 84) rfl (by decide +kernel), Or.inl rfl⟩⟩
theorem d_Mm_cell_34 : decode prog_14_method_9_code 34 = .ok (.bipush 12, 2) := zo_16 (d := 12) (zd_b zq_prog_14_method_9_code_1 2 rfl rfl rfl) (zd_b zq_prog_14_method_9_code_1 3 rfl rfl rfl) (by decide +kernel)
theorem d_Mm_cell_36 : decode prog_14_method_9_code 36 = .ok (.iload_n 2, 1) := zo_28 (zd_b zq_prog_14_method_9_code_1 4 rfl rfl rfl)
theorem d_Mm_cell_37 : decode prog_14_method_9_code 37 = .ok (.imul, 1) := zo_104 (zd_b zq_prog_14_method_9_code_1 5 rfl rfl rfl)
theorem d_Mm_cell_38 : decode prog_14_method_9_code 38 = .ok (.iload_n 1, 1) := zo_27 (zd_b zq_prog_14_method_9_code_1 6 rfl rfl rfl)
theorem d_Mm_cell_39 : decode prog_14_method_9_code 39 = .ok (.iadd, 1) := zo_96 (zd_b zq_prog_14_method_9_code_1 7 rfl rfl rfl)
theorem d_Mm_cell_40 : decode prog_14_method_9_code 40 = .ok (.caload, 1) := zo_52 (zd_b zq_prog_14_method_9_code_1 8 rfl rfl rfl)
set_option maxHeartbeats 4000000 in
set_option maxRecDepth 100000 in
theorem C_Mm_cellN (g : zG) (m mp mf mh mn mt mz mc_ mq mgr ml mi mr mm mu mk mx : Nat) (th pt cl wa co_ fi bu ho lh mg wd fpi fal : Int32) (po de : Int64) (f : Nat → Int32) (x y : Nat) (hx0 : x < 12) (hy0 : y < 9) (hf : z_ch f) : CT g M_Mm_cell [.ref m, .int (nI x), .int (nI y)] [(m, .inr (12, [.int th, .ref mp, .int pt, .ref mf, .ref mh, .ref mn, .ref mt, .ref mz, .ref mc_, .ref mq, .ref mgr, .int cl, .int wa, .int co_, .int fi, .int bu, .int ho, .ref ml, .ref mi, .ref mr, .int lh, .int mg, .int wd, .int fpi, .int fal, .ref mm, .ref mu, .ref mk, .ref mx, .long po, .long de])), (mp, .inl (1, 108, .inl f))] (fun o cs1 => o = .inl (some (.int (f (12 * y + x)))) ∧ cs1 = [(m, .inr (12, [.int 0, .ref mp, .int pt, .ref mf, .ref mh, .ref mn, .ref mt, .ref mz, .ref mc_, .ref mq, .ref mgr, .int cl, .int wa, .int co_, .int fi, .int bu, .int ho, .ref ml, .ref mi, .ref mr, .int lh, .int mg, .int wd, .int fpi, .int fal, .ref mm, .ref mu, .ref mk, .ref mx, .long po, .long de])), (mp, .inl (1, 108, .inl f))]) 0 0 := by
  refine z_of (by decide) rfl (Nat.le_of_ble_eq_true rfl) (fun w0 => ?_)
  refine r_lvE (lv2 := [(0, .ref m), (1, .int (nI x)), (2, .int (nI y))]) rfl ?_
  refine r_aload_n d_Mm_cell_0 rfl 0 rfl ?_
  refine r_iconst d_Mm_cell_1 (v := 0) (by decide) ?_
  refine r_put fp_Mm_84 d_Mm_cell_2 (fun h => nomatch h) rfl rfl (q0 := 0) rfl (Nat.le_of_ble_eq_true rfl) (cs' := [(m, .inr (12, [.int 0, .ref mp, .int pt, .ref mf, .ref mh, .ref mn, .ref mt, .ref mz, .ref mc_, .ref mq, .ref mgr, .int cl, .int wa, .int co_, .int fi, .int bu, .int ho, .ref ml, .ref mi, .ref mr, .int lh, .int mg, .int wd, .int fpi, .int fal, .ref mm, .ref mu, .ref mk, .ref mx, .long po, .long de])), (mp, .inl (1, 108, .inl f))]) rfl ?_
  refine r_aload_n d_Mm_cell_5 rfl 0 rfl ?_
  refine r_iload_n d_Mm_cell_6 rfl 1 rfl ?_
  refine r_iload_n d_Mm_cell_7 rfl 2 rfl ?_
  refine r_callS (As := [.int (nI x), .int (nI y)]) (rest := [.ref m]) (csC := []) (is := []) ln_Mm_91 w_st_Mm_isCell ok_Mm_cell_Mm_isCell d_Mm_cell_8 (C_Mm_isCell g (nI x) (nI y)) rfl rfl (Nat.le_of_ble_eq_true rfl) rfl (by decide) (by omega) (by omega) (fun E cs1 hx => ?_) (fun v cs1 hx => ?_)
  · exact absurd hx.1 (by simp)
  · obtain ⟨e1, rfl⟩ := hx
    rw [if_pos (z_cellN (by omega) (by omega))] at e1
    cases e1
    refine ⟨rfl, ?_⟩
    refine r_st (st2 := [.int 1, .ref m]) rfl ?_
    refine r_cs (cs2 := [(m, .inr (12, [.int 0, .ref mp, .int pt, .ref mf, .ref mh, .ref mn, .ref mt, .ref mz, .ref mc_, .ref mq, .ref mgr, .int cl, .int wa, .int co_, .int fi, .int bu, .int ho, .ref ml, .ref mi, .ref mr, .int lh, .int mg, .int wd, .int fpi, .int fal, .ref mm, .ref mu, .ref mk, .ref mx, .long po, .long de])), (mp, .inl (1, 108, .inl f))]) rfl ?_
    refine r_if_ne (tgt := 18) d_Mm_cell_11 (by decide) (fun c_11 => ?_) (fun c_11 => ?_)
    · refine r_iconst d_Mm_cell_18 (v := 0) (by decide) ?_
      refine r_iconst d_Mm_cell_19 (v := 1) (by decide) ?_
      refine r_callV (As := [.int 0, .int 1]) (rest := []) (csC := [(m, .inr (12, [.int 0, .ref mp, .int pt, .ref mf, .ref mh, .ref mn, .ref mt, .ref mz, .ref mc_, .ref mq, .ref mgr, .int cl, .int wa, .int co_, .int fi, .int bu, .int ho, .ref ml, .ref mi, .ref mr, .int lh, .int mg, .int wd, .int fpi, .int fal, .ref mm, .ref mu, .ref mk, .ref mx, .long po, .long de]))]) (is := [0]) (q0 := 0) rfl rfl ln_Mm_103 w_im_Mm_fails w_se_Mm_fails ok_Mm_cell_Mm_fails d_Mm_cell_20 (C_Mm_fails0 g m mp mf mh mn mt mz mc_ mq mgr ml mi mr mm mu mk mx th pt cl wa co_ fi bu ho lh mg wd fpi fal po de 1) rfl rfl (Nat.le_of_ble_eq_true rfl) rfl (by decide) (by omega) (by omega) (fun E cs1 hx => ?_) (fun v cs1 hx => ?_)
      · exact absurd hx.1 (by simp)
      · obtain ⟨e1, rfl⟩ := hx
        cases e1
        refine ⟨rfl, ?_⟩
        refine r_st (st2 := [.int 0]) rfl ?_
        refine r_cs (cs2 := [(m, .inr (12, [.int 0, .ref mp, .int pt, .ref mf, .ref mh, .ref mn, .ref mt, .ref mz, .ref mc_, .ref mq, .ref mgr, .int cl, .int wa, .int co_, .int fi, .int bu, .int ho, .ref ml, .ref mi, .ref mr, .int lh, .int mg, .int wd, .int fpi, .int fal, .ref mm, .ref mu, .ref mk, .ref mx, .long po, .long de])), (mp, .inl (1, 108, .inl f))]) rfl ?_
        refine r_if_eq (tgt := 30) d_Mm_cell_23 (by decide) (fun c_23 => ?_) (fun c_23 => ?_)
        · refine r_aload_n d_Mm_cell_30 rfl 0 rfl ?_
          refine r_get fs_Mm_7 d_Mm_cell_31 (q0 := 0) rfl rfl ?_
          refine r_bipush d_Mm_cell_34 (v := 12) (by decide) ?_
          refine r_iload_n d_Mm_cell_36 rfl 2 rfl ?_
          refine r_imul d_Mm_cell_37 (v := nI (12 * y)) (pk_mul _ _) ?_
          refine r_iload_n d_Mm_cell_38 rfl 1 rfl ?_
          refine r_iadd d_Mm_cell_39 (v := nI (12 * y + x)) (nI_add _ _) ?_
          refine r_cald d_Mm_cell_40 (q0 := 1) rfl (vp_in_nI (by omega) (by omega)) (v := f (12 * y + x)) (by rw [nI_clamp (by omega)]) ?_
          refine r_iret d_Mm_cell_41 rfl (congrArg Value.int (z_kind_c (hf (12 * y + x) (by omega)))) ?_
          exact ⟨rfl, rfl⟩
        · exact absurd c_23 (by decide)
    · exact absurd c_11 (by decide)
abbrev M_Mm_part : zM := (⟨"IronpourModel", "part", "(I)I"⟩, prog_14_method_10_code, 3, (Option.some FieldType.int), 2, 42, [])
theorem d_Mm_part_0 : decode prog_14_method_10_code 0 = .ok (.aload_n 0, 1) := zo_42 (zd_b zq_prog_14_method_10_code_0 0 rfl rfl rfl)
theorem d_Mm_part_1 : decode prog_14_method_10_code 1 = .ok (.iconst 0, 1) := zo_3 (zd_b zq_prog_14_method_10_code_0 1 rfl rfl rfl)
theorem d_Mm_part_2 : decode prog_14_method_10_code 2 = .ok (.putfield 84, 3) := zo_181 (d := 0) (e := 84) (zd_b zq_prog_14_method_10_code_0 2 rfl rfl rfl) (zd_b zq_prog_14_method_10_code_0 3 rfl rfl rfl) (zd_b zq_prog_14_method_10_code_0 4 rfl rfl rfl)
theorem d_Mm_part_5 : decode prog_14_method_10_code 5 = .ok (.aload_n 0, 1) := zo_42 (zd_b zq_prog_14_method_10_code_0 5 rfl rfl rfl)
theorem d_Mm_part_6 : decode prog_14_method_10_code 6 = .ok (.iload_n 1, 1) := zo_27 (zd_b zq_prog_14_method_10_code_0 6 rfl rfl rfl)
theorem d_Mm_part_7 : decode prog_14_method_10_code 7 = .ok (.iconst 1, 1) := zo_4 (zd_b zq_prog_14_method_10_code_0 7 rfl rfl rfl)
theorem d_Mm_part_8 : decode prog_14_method_10_code 8 = .ok (.bipush 8, 2) := zo_16 (d := 8) (zd_b zq_prog_14_method_10_code_0 8 rfl rfl rfl) (zd_b zq_prog_14_method_10_code_0 9 rfl rfl rfl) (by decide +kernel)
theorem d_Mm_part_10 : decode prog_14_method_10_code 10 = .ok (.invokestatic 87, 3) := zo_184 (d := 0) (e := 87) (zd_b zq_prog_14_method_10_code_0 10 rfl rfl rfl) (zd_b zq_prog_14_method_10_code_0 11 rfl rfl rfl) (zd_b zq_prog_14_method_10_code_0 12 rfl rfl rfl)
theorem ok_Mm_part_Mm_in : z_ok M_Mm_part M_Mm_in 3 := ⟨z_mj7 (i := 190) rfl (by decide +kernel), rfl, ⟨by decide +kernel, by decide +kernel, by decide +kernel⟩, ⟨by decide, by decide⟩, z_mj1 (i := 14) rfl (by decide +kernel), rfl⟩
theorem d_Mm_part_13 : decode prog_14_method_10_code 13 = .ok (.ifCond .ne 7, 3) := zo_154 (d := 0) (e := 7) (zd_b zq_prog_14_method_10_code_0 13 rfl rfl rfl) (zd_b zq_prog_14_method_10_code_0 14 rfl rfl rfl) (zd_b zq_prog_14_method_10_code_0 15 rfl rfl rfl) (by decide +kernel)
theorem d_Mm_part_16 : decode prog_14_method_10_code 16 = .ok (.iconst 1, 1) := zo_4 (zd_b zq_prog_14_method_10_code_0 16 rfl rfl rfl)
theorem d_Mm_part_17 : decode prog_14_method_10_code 17 = .ok (.goto 4, 3) := zo_167 (d := 0) (e := 4) (zd_b zq_prog_14_method_10_code_0 17 rfl rfl rfl) (zd_b zq_prog_14_method_10_code_0 18 rfl rfl rfl) (zd_b zq_prog_14_method_10_code_0 19 rfl rfl rfl) (by decide +kernel)
theorem d_Mm_part_21 : decode prog_14_method_10_code 21 = .ok (.iconst 1, 1) := zo_4 (zd_b zq_prog_14_method_10_code_0 21 rfl rfl rfl)
theorem d_Mm_part_22 : decode prog_14_method_10_code 22 = .ok (.invokevirtual 103, 3) := zo_182 (d := 0) (e := 103) (zd_b zq_prog_14_method_10_code_0 22 rfl rfl rfl) (zd_b zq_prog_14_method_10_code_0 23 rfl rfl rfl) (zd_b zq_prog_14_method_10_code_0 24 rfl rfl rfl)
theorem ok_Mm_part_Mm_fails : z_ok M_Mm_part M_Mm_fails 2 := ⟨z_mj7 (i := 196) rfl (by decide +kernel), rfl, ⟨by decide +kernel, by decide +kernel, by decide +kernel⟩, ⟨by decide, by decide⟩, z_mj1 (i := 14) rfl (by decide +kernel), rfl⟩
theorem d_Mm_part_25 : decode prog_14_method_10_code 25 = .ok (.ifCond .eq 5, 3) := zo_153 (d := 0) (e := 5) (zd_b zq_prog_14_method_10_code_0 25 rfl rfl rfl) (zd_b zq_prog_14_method_10_code_0 26 rfl rfl rfl) (zd_b zq_prog_14_method_10_code_0 27 rfl rfl rfl) (by decide +kernel)
theorem d_Mm_part_28 : decode prog_14_method_10_code 28 = .ok (.iconst 0, 1) := zo_3 (zd_b zq_prog_14_method_10_code_0 28 rfl rfl rfl)
theorem d_Mm_part_29 : decode prog_14_method_10_code 29 = .ok (.ireturn, 1) := zo_172 (zd_b zq_prog_14_method_10_code_0 29 rfl rfl rfl)
set_option maxHeartbeats 4000000 in
set_option maxRecDepth 100000 in
theorem C_Mm_partE (g : zG) (m mp mf mh mn mt mz mc_ mq mgr ml mi mr mm mu mk mx : Nat) (th pt cl wa co_ fi bu ho lh mg wd fpi fal : Int32) (po de : Int64) (r : Int32) (hw : ¬ (1 ≤ r ∧ r ≤ 8)) : CT g M_Mm_part [.ref m, .int r] [(m, .inr (12, [.int th, .ref mp, .int pt, .ref mf, .ref mh, .ref mn, .ref mt, .ref mz, .ref mc_, .ref mq, .ref mgr, .int cl, .int wa, .int co_, .int fi, .int bu, .int ho, .ref ml, .ref mi, .ref mr, .int lh, .int mg, .int wd, .int fpi, .int fal, .ref mm, .ref mu, .ref mk, .ref mx, .long po, .long de]))] (fun o cs1 => o = .inl (some (.int 0)) ∧ cs1 = [(m, .inr (12, [.int 1, .ref mp, .int pt, .ref mf, .ref mh, .ref mn, .ref mt, .ref mz, .ref mc_, .ref mq, .ref mgr, .int cl, .int wa, .int co_, .int fi, .int bu, .int ho, .ref ml, .ref mi, .ref mr, .int lh, .int mg, .int wd, .int fpi, .int fal, .ref mm, .ref mu, .ref mk, .ref mx, .long po, .long de]))]) 0 0 := by
  refine z_of (by decide) rfl (Nat.le_of_ble_eq_true rfl) (fun w0 => ?_)
  refine r_lvE (lv2 := [(0, .ref m), (1, .int r)]) rfl ?_
  refine r_aload_n d_Mm_part_0 rfl 0 rfl ?_
  refine r_iconst d_Mm_part_1 (v := 0) (by decide) ?_
  refine r_put fp_Mm_84 d_Mm_part_2 (fun h => nomatch h) rfl rfl (q0 := 0) rfl (Nat.le_of_ble_eq_true rfl) (cs' := [(m, .inr (12, [.int 0, .ref mp, .int pt, .ref mf, .ref mh, .ref mn, .ref mt, .ref mz, .ref mc_, .ref mq, .ref mgr, .int cl, .int wa, .int co_, .int fi, .int bu, .int ho, .ref ml, .ref mi, .ref mr, .int lh, .int mg, .int wd, .int fpi, .int fal, .ref mm, .ref mu, .ref mk, .ref mx, .long po, .long de]))]) rfl ?_
  refine r_aload_n d_Mm_part_5 rfl 0 rfl ?_
  refine r_iload_n d_Mm_part_6 rfl 1 rfl ?_
  refine r_iconst d_Mm_part_7 (v := 1) (by decide) ?_
  refine r_bipush d_Mm_part_8 (v := 8) (by decide) ?_
  refine r_callS (As := [.int r, .int 1, .int 8]) (rest := [.ref m]) (csC := []) (is := []) ln_Mm_87 w_st_Mm_in ok_Mm_part_Mm_in d_Mm_part_10 (C_Mm_in g r 1 8) rfl rfl (Nat.le_of_ble_eq_true rfl) rfl (by decide) (by omega) (by omega) (fun E cs1 hx => ?_) (fun v cs1 hx => ?_)
  · exact absurd hx.1 (by simp)
  · obtain ⟨e1, rfl⟩ := hx
    rw [if_neg hw] at e1
    cases e1
    refine ⟨rfl, ?_⟩
    refine r_st (st2 := [.int 0, .ref m]) rfl ?_
    refine r_cs (cs2 := [(m, .inr (12, [.int 0, .ref mp, .int pt, .ref mf, .ref mh, .ref mn, .ref mt, .ref mz, .ref mc_, .ref mq, .ref mgr, .int cl, .int wa, .int co_, .int fi, .int bu, .int ho, .ref ml, .ref mi, .ref mr, .int lh, .int mg, .int wd, .int fpi, .int fal, .ref mm, .ref mu, .ref mk, .ref mx, .long po, .long de]))]) rfl ?_
    refine r_if_ne (tgt := 20) d_Mm_part_13 (by decide) (fun c_13 => ?_) (fun c_13 => ?_)
    · exact absurd c_13 (by decide)
    · refine r_iconst d_Mm_part_16 (v := 1) (by decide) ?_
      refine r_goto (tgt := 21) d_Mm_part_17 (by decide) ?_
      refine r_iconst d_Mm_part_21 (v := 1) (by decide) ?_
      refine r_callV (As := [.int 1, .int 1]) (rest := []) (csC := [(m, .inr (12, [.int 0, .ref mp, .int pt, .ref mf, .ref mh, .ref mn, .ref mt, .ref mz, .ref mc_, .ref mq, .ref mgr, .int cl, .int wa, .int co_, .int fi, .int bu, .int ho, .ref ml, .ref mi, .ref mr, .int lh, .int mg, .int wd, .int fpi, .int fal, .ref mm, .ref mu, .ref mk, .ref mx, .long po, .long de]))]) (is := [0]) (q0 := 0) rfl rfl ln_Mm_103 w_im_Mm_fails w_se_Mm_fails ok_Mm_part_Mm_fails d_Mm_part_22 (C_Mm_fails1 g m mp mf mh mn mt mz mc_ mq mgr ml mi mr mm mu mk mx th pt cl wa co_ fi bu ho lh mg wd fpi fal po de) rfl rfl (Nat.le_of_ble_eq_true rfl) rfl (by decide) (by omega) (by omega) (fun E cs1 hx => ?_) (fun v cs1 hx => ?_)
      · exact absurd hx.1 (by simp)
      · obtain ⟨e1, rfl⟩ := hx
        cases e1
        refine ⟨rfl, ?_⟩
        refine r_st (st2 := [.int 1]) rfl ?_
        refine r_cs (cs2 := [(m, .inr (12, [.int 1, .ref mp, .int pt, .ref mf, .ref mh, .ref mn, .ref mt, .ref mz, .ref mc_, .ref mq, .ref mgr, .int cl, .int wa, .int co_, .int fi, .int bu, .int ho, .ref ml, .ref mi, .ref mr, .int lh, .int mg, .int wd, .int fpi, .int fal, .ref mm, .ref mu, .ref mk, .ref mx, .long po, .long de]))]) rfl ?_
        refine r_if_eq (tgt := 30) d_Mm_part_25 (by decide) (fun c_25 => ?_) (fun c_25 => ?_)
        · exact absurd c_25 (by decide)
        · refine r_iconst d_Mm_part_28 (v := 0) (by decide) ?_
          refine r_iret d_Mm_part_29 rfl rfl ?_
          exact ⟨rfl, rfl⟩
theorem d_Mm_part_20 : decode prog_14_method_10_code 20 = .ok (.iconst 0, 1) := zo_3 (zd_b zq_prog_14_method_10_code_0 20 rfl rfl rfl)
theorem d_Mm_part_30 : decode prog_14_method_10_code 30 = .ok (.aload_n 0, 1) := zo_42 (zd_b zq_prog_14_method_10_code_0 30 rfl rfl rfl)
theorem d_Mm_part_31 : decode prog_14_method_10_code 31 = .ok (.getfield 13, 3) := zo_180 (d := 0) (e := 13) (zd_b zq_prog_14_method_10_code_0 31 rfl rfl rfl) (zd_b zq_prog_14_method_10_code_1 0 rfl rfl rfl) (zd_b zq_prog_14_method_10_code_1 1 rfl rfl rfl)
theorem fs_Mm_13 : z_fs "IronpourModel" 13 12 2 := ⟨R_Mm, "IronpourModel", F_Mm, 31, rfl, u_Mm, by decide, Or.inl ⟨z_mj7 (i := 85) rfl (by decide +kernel), Or.inl rfl⟩⟩
theorem d_Mm_part_34 : decode prog_14_method_10_code 34 = .ok (.istore_n 2, 1) := zo_61 (zd_b zq_prog_14_method_10_code_1 2 rfl rfl rfl)
theorem d_Mm_part_35 : decode prog_14_method_10_code 35 = .ok (.aload_n 0, 1) := zo_42 (zd_b zq_prog_14_method_10_code_1 3 rfl rfl rfl)
theorem d_Mm_part_36 : decode prog_14_method_10_code 36 = .ok (.iload_n 1, 1) := zo_27 (zd_b zq_prog_14_method_10_code_1 4 rfl rfl rfl)
theorem d_Mm_part_37 : decode prog_14_method_10_code 37 = .ok (.putfield 13, 3) := zo_181 (d := 0) (e := 13) (zd_b zq_prog_14_method_10_code_1 5 rfl rfl rfl) (zd_b zq_prog_14_method_10_code_1 6 rfl rfl rfl) (zd_b zq_prog_14_method_10_code_1 7 rfl rfl rfl)
theorem fp_Mm_13 : z_fp "IronpourModel" 13 12 2 false .int := ⟨R_Mm, "IronpourModel", F_Mm, 31, t_Mm, rfl, u_Mm, by decide, t_Mm_ok, n_Mm, rfl, rfl, Or.inl ⟨z_mj7 (i := 85) rfl (by decide +kernel), Or.inl rfl, fun h => nomatch h⟩⟩
theorem d_Mm_part_40 : decode prog_14_method_10_code 40 = .ok (.iload_n 2, 1) := zo_28 (zd_b zq_prog_14_method_10_code_1 8 rfl rfl rfl)
theorem d_Mm_part_41 : decode prog_14_method_10_code 41 = .ok (.ireturn, 1) := zo_172 (zd_b zq_prog_14_method_10_code_1 9 rfl rfl rfl)
set_option maxHeartbeats 4000000 in
set_option maxRecDepth 100000 in
theorem C_Mm_partN (g : zG) (m mp mf mh mn mt mz mc_ mq mgr ml mi mr mm mu mk mx : Nat) (th pt cl wa co_ fi bu ho lh mg wd fpi fal : Int32) (po de : Int64) (r : Int32) (hw : (1 ≤ r ∧ r ≤ 8)) : CT g M_Mm_part [.ref m, .int r] [(m, .inr (12, [.int th, .ref mp, .int pt, .ref mf, .ref mh, .ref mn, .ref mt, .ref mz, .ref mc_, .ref mq, .ref mgr, .int cl, .int wa, .int co_, .int fi, .int bu, .int ho, .ref ml, .ref mi, .ref mr, .int lh, .int mg, .int wd, .int fpi, .int fal, .ref mm, .ref mu, .ref mk, .ref mx, .long po, .long de]))] (fun o cs1 => o = .inl (some (.int pt)) ∧ cs1 = [(m, .inr (12, [.int 0, .ref mp, .int r, .ref mf, .ref mh, .ref mn, .ref mt, .ref mz, .ref mc_, .ref mq, .ref mgr, .int cl, .int wa, .int co_, .int fi, .int bu, .int ho, .ref ml, .ref mi, .ref mr, .int lh, .int mg, .int wd, .int fpi, .int fal, .ref mm, .ref mu, .ref mk, .ref mx, .long po, .long de]))]) 0 0 := by
  refine z_of (by decide) rfl (Nat.le_of_ble_eq_true rfl) (fun w0 => ?_)
  refine r_lvE (lv2 := [(0, .ref m), (1, .int r)]) rfl ?_
  refine r_aload_n d_Mm_part_0 rfl 0 rfl ?_
  refine r_iconst d_Mm_part_1 (v := 0) (by decide) ?_
  refine r_put fp_Mm_84 d_Mm_part_2 (fun h => nomatch h) rfl rfl (q0 := 0) rfl (Nat.le_of_ble_eq_true rfl) (cs' := [(m, .inr (12, [.int 0, .ref mp, .int pt, .ref mf, .ref mh, .ref mn, .ref mt, .ref mz, .ref mc_, .ref mq, .ref mgr, .int cl, .int wa, .int co_, .int fi, .int bu, .int ho, .ref ml, .ref mi, .ref mr, .int lh, .int mg, .int wd, .int fpi, .int fal, .ref mm, .ref mu, .ref mk, .ref mx, .long po, .long de]))]) rfl ?_
  refine r_aload_n d_Mm_part_5 rfl 0 rfl ?_
  refine r_iload_n d_Mm_part_6 rfl 1 rfl ?_
  refine r_iconst d_Mm_part_7 (v := 1) (by decide) ?_
  refine r_bipush d_Mm_part_8 (v := 8) (by decide) ?_
  refine r_callS (As := [.int r, .int 1, .int 8]) (rest := [.ref m]) (csC := []) (is := []) ln_Mm_87 w_st_Mm_in ok_Mm_part_Mm_in d_Mm_part_10 (C_Mm_in g r 1 8) rfl rfl (Nat.le_of_ble_eq_true rfl) rfl (by decide) (by omega) (by omega) (fun E cs1 hx => ?_) (fun v cs1 hx => ?_)
  · exact absurd hx.1 (by simp)
  · obtain ⟨e1, rfl⟩ := hx
    rw [if_pos hw] at e1
    cases e1
    refine ⟨rfl, ?_⟩
    refine r_st (st2 := [.int 1, .ref m]) rfl ?_
    refine r_cs (cs2 := [(m, .inr (12, [.int 0, .ref mp, .int pt, .ref mf, .ref mh, .ref mn, .ref mt, .ref mz, .ref mc_, .ref mq, .ref mgr, .int cl, .int wa, .int co_, .int fi, .int bu, .int ho, .ref ml, .ref mi, .ref mr, .int lh, .int mg, .int wd, .int fpi, .int fal, .ref mm, .ref mu, .ref mk, .ref mx, .long po, .long de]))]) rfl ?_
    refine r_if_ne (tgt := 20) d_Mm_part_13 (by decide) (fun c_13 => ?_) (fun c_13 => ?_)
    · refine r_iconst d_Mm_part_20 (v := 0) (by decide) ?_
      refine r_iconst d_Mm_part_21 (v := 1) (by decide) ?_
      refine r_callV (As := [.int 0, .int 1]) (rest := []) (csC := [(m, .inr (12, [.int 0, .ref mp, .int pt, .ref mf, .ref mh, .ref mn, .ref mt, .ref mz, .ref mc_, .ref mq, .ref mgr, .int cl, .int wa, .int co_, .int fi, .int bu, .int ho, .ref ml, .ref mi, .ref mr, .int lh, .int mg, .int wd, .int fpi, .int fal, .ref mm, .ref mu, .ref mk, .ref mx, .long po, .long de]))]) (is := [0]) (q0 := 0) rfl rfl ln_Mm_103 w_im_Mm_fails w_se_Mm_fails ok_Mm_part_Mm_fails d_Mm_part_22 (C_Mm_fails0 g m mp mf mh mn mt mz mc_ mq mgr ml mi mr mm mu mk mx th pt cl wa co_ fi bu ho lh mg wd fpi fal po de 1) rfl rfl (Nat.le_of_ble_eq_true rfl) rfl (by decide) (by omega) (by omega) (fun E cs1 hx => ?_) (fun v cs1 hx => ?_)
      · exact absurd hx.1 (by simp)
      · obtain ⟨e1, rfl⟩ := hx
        cases e1
        refine ⟨rfl, ?_⟩
        refine r_st (st2 := [.int 0]) rfl ?_
        refine r_cs (cs2 := [(m, .inr (12, [.int 0, .ref mp, .int pt, .ref mf, .ref mh, .ref mn, .ref mt, .ref mz, .ref mc_, .ref mq, .ref mgr, .int cl, .int wa, .int co_, .int fi, .int bu, .int ho, .ref ml, .ref mi, .ref mr, .int lh, .int mg, .int wd, .int fpi, .int fal, .ref mm, .ref mu, .ref mk, .ref mx, .long po, .long de]))]) rfl ?_
        refine r_if_eq (tgt := 30) d_Mm_part_25 (by decide) (fun c_25 => ?_) (fun c_25 => ?_)
        · refine r_aload_n d_Mm_part_30 rfl 0 rfl ?_
          refine r_get fs_Mm_13 d_Mm_part_31 (q0 := 0) rfl rfl ?_
          refine r_istore_n (lv' := [(2, .int pt), (0, .ref m), (1, .int r)]) d_Mm_part_34 rfl (by decide) rfl ?_
          refine r_aload_n d_Mm_part_35 rfl 1 rfl ?_
          refine r_iload_n d_Mm_part_36 rfl 2 rfl ?_
          refine r_put fp_Mm_13 d_Mm_part_37 (fun h => nomatch h) rfl rfl (q0 := 0) rfl (Nat.le_of_ble_eq_true rfl) (cs' := [(m, .inr (12, [.int 0, .ref mp, .int r, .ref mf, .ref mh, .ref mn, .ref mt, .ref mz, .ref mc_, .ref mq, .ref mgr, .int cl, .int wa, .int co_, .int fi, .int bu, .int ho, .ref ml, .ref mi, .ref mr, .int lh, .int mg, .int wd, .int fpi, .int fal, .ref mm, .ref mu, .ref mk, .ref mx, .long po, .long de]))]) rfl ?_
          refine r_iload_n d_Mm_part_40 rfl 0 rfl ?_
          refine r_iret d_Mm_part_41 rfl rfl ?_
          exact ⟨rfl, rfl⟩
        · exact absurd c_25 (by decide)
    · exact absurd c_13 (by decide)
abbrev M_Mm_weight : zM := (⟨"IronpourModel", "weight", "()I"⟩, prog_14_method_20_code, 1, (Option.some FieldType.int), 3, 62, [])
theorem d_Mm_weight_0 : decode prog_14_method_20_code 0 = .ok (.aload_n 0, 1) := zo_42 (zd_b zq_prog_14_method_20_code_0 0 rfl rfl rfl)
theorem d_Mm_weight_1 : decode prog_14_method_20_code 1 = .ok (.iconst 0, 1) := zo_3 (zd_b zq_prog_14_method_20_code_0 1 rfl rfl rfl)
theorem d_Mm_weight_2 : decode prog_14_method_20_code 2 = .ok (.putfield 84, 3) := zo_181 (d := 0) (e := 84) (zd_b zq_prog_14_method_20_code_0 2 rfl rfl rfl) (zd_b zq_prog_14_method_20_code_0 3 rfl rfl rfl) (zd_b zq_prog_14_method_20_code_0 4 rfl rfl rfl)
theorem d_Mm_weight_5 : decode prog_14_method_20_code 5 = .ok (.iconst 2, 1) := zo_5 (zd_b zq_prog_14_method_20_code_0 5 rfl rfl rfl)
theorem d_Mm_weight_6 : decode prog_14_method_20_code 6 = .ok (.aload_n 0, 1) := zo_42 (zd_b zq_prog_14_method_20_code_0 6 rfl rfl rfl)
theorem d_Mm_weight_7 : decode prog_14_method_20_code 7 = .ok (.getfield 7, 3) := zo_180 (d := 0) (e := 7) (zd_b zq_prog_14_method_20_code_0 7 rfl rfl rfl) (zd_b zq_prog_14_method_20_code_0 8 rfl rfl rfl) (zd_b zq_prog_14_method_20_code_0 9 rfl rfl rfl)
theorem d_Mm_weight_10 : decode prog_14_method_20_code 10 = .ok (.invokestatic 134, 3) := zo_184 (d := 0) (e := 134) (zd_b zq_prog_14_method_20_code_0 10 rfl rfl rfl) (zd_b zq_prog_14_method_20_code_0 11 rfl rfl rfl) (zd_b zq_prog_14_method_20_code_0 12 rfl rfl rfl)
theorem ok_Mm_weight_Mm_cellsIn : z_ok M_Mm_weight M_Mm_cellsIn 1 := ⟨z_mj8 (i := 7) rfl (by decide +kernel), rfl, ⟨by decide +kernel, by decide +kernel, by decide +kernel⟩, ⟨by decide, by decide⟩, z_mj1 (i := 14) rfl (by decide +kernel), rfl⟩
theorem ln_Mm_134 : Cond.methodLink "IronpourModel" 134 M_Mm_cellsIn.1 ∈ z_gw := z_mj8 (i := 5) rfl (by decide +kernel)
theorem w_st_Mm_cellsIn : Cond.static M_Mm_cellsIn.1 ∈ z_gw := z_mj8 (i := 6) rfl (by decide +kernel)
theorem d_Mm_weight_13 : decode prog_14_method_20_code 13 = .ok (.imul, 1) := zo_104 (zd_b zq_prog_14_method_20_code_0 13 rfl rfl rfl)
theorem d_Mm_weight_14 : decode prog_14_method_20_code 14 = .ok (.ireturn, 1) := zo_172 (zd_b zq_prog_14_method_20_code_0 14 rfl rfl rfl)
set_option maxHeartbeats 4000000 in
set_option maxRecDepth 100000 in
theorem C_Mm_weight (g : zG) (m mp mf mh mn mt mz mc_ mq mgr ml mi mr mm mu mk mx : Nat) (th pt cl wa co_ fi bu ho lh mg wd fpi fal : Int32) (po de : Int64) (f : Nat → Int32) : CT g M_Mm_weight [.ref m] [(m, .inr (12, [.int th, .ref mp, .int pt, .ref mf, .ref mh, .ref mn, .ref mt, .ref mz, .ref mc_, .ref mq, .ref mgr, .int cl, .int wa, .int co_, .int fi, .int bu, .int ho, .ref ml, .ref mi, .ref mr, .int lh, .int mg, .int wd, .int fpi, .int fal, .ref mm, .ref mu, .ref mk, .ref mx, .long po, .long de])), (mp, .inl (1, 108, .inl f))] (fun o cs1 => o = .inl (some (.int (2 * nI (fa_cnt (fun k => tmB (f k)) 108)))) ∧ cs1 = [(m, .inr (12, [.int 0, .ref mp, .int pt, .ref mf, .ref mh, .ref mn, .ref mt, .ref mz, .ref mc_, .ref mq, .ref mgr, .int cl, .int wa, .int co_, .int fi, .int bu, .int ho, .ref ml, .ref mi, .ref mr, .int lh, .int mg, .int wd, .int fpi, .int fal, .ref mm, .ref mu, .ref mk, .ref mx, .long po, .long de])), (mp, .inl (1, 108, .inl f))]) 0 0 := by
  refine z_of (by decide) rfl (Nat.le_of_ble_eq_true rfl) (fun w0 => ?_)
  refine r_lvE (lv2 := [(0, .ref m)]) rfl ?_
  refine r_aload_n d_Mm_weight_0 rfl 0 rfl ?_
  refine r_iconst d_Mm_weight_1 (v := 0) (by decide) ?_
  refine r_put fp_Mm_84 d_Mm_weight_2 (fun h => nomatch h) rfl rfl (q0 := 0) rfl (Nat.le_of_ble_eq_true rfl) (cs' := [(m, .inr (12, [.int 0, .ref mp, .int pt, .ref mf, .ref mh, .ref mn, .ref mt, .ref mz, .ref mc_, .ref mq, .ref mgr, .int cl, .int wa, .int co_, .int fi, .int bu, .int ho, .ref ml, .ref mi, .ref mr, .int lh, .int mg, .int wd, .int fpi, .int fal, .ref mm, .ref mu, .ref mk, .ref mx, .long po, .long de])), (mp, .inl (1, 108, .inl f))]) rfl ?_
  refine r_iconst d_Mm_weight_5 (v := 2) (by decide) ?_
  refine r_aload_n d_Mm_weight_6 rfl 0 rfl ?_
  refine r_get fs_Mm_7 d_Mm_weight_7 (q0 := 0) rfl rfl ?_
  refine r_callS (As := [.ref mp]) (rest := [.int 2]) (csC := [(mp, .inl (1, 108, .inl f))]) (is := [1]) ln_Mm_134 w_st_Mm_cellsIn ok_Mm_weight_Mm_cellsIn d_Mm_weight_10 (C_Mm_cellsIn g mp f) rfl rfl (Nat.le_of_ble_eq_true rfl) rfl (by decide) (by omega) (by omega) (fun E cs1 hx => ?_) (fun v cs1 hx => ?_)
  · exact absurd hx.1 (by simp)
  · obtain ⟨e1, rfl⟩ := hx
    cases e1
    refine ⟨rfl, ?_⟩
    refine r_st (st2 := [.int (nI (fa_cnt (fun k => tmB (f k)) 108)), .int 2]) rfl ?_
    refine r_cs (cs2 := [(m, .inr (12, [.int 0, .ref mp, .int pt, .ref mf, .ref mh, .ref mn, .ref mt, .ref mz, .ref mc_, .ref mq, .ref mgr, .int cl, .int wa, .int co_, .int fi, .int bu, .int ho, .ref ml, .ref mi, .ref mr, .int lh, .int mg, .int wd, .int fpi, .int fal, .ref mm, .ref mu, .ref mk, .ref mx, .long po, .long de])), (mp, .inl (1, 108, .inl f))]) rfl ?_
    refine r_imul d_Mm_weight_13 (v := 2 * nI (fa_cnt (fun k => tmB (f k)) 108)) rfl ?_
    refine r_iret d_Mm_weight_14 rfl rfl ?_
    exact ⟨rfl, rfl⟩
end
section
theorem C_Mm_beside (g : zG) (c s : Nat) (hc : c < 108) (hs : s < 4) : CT g M_Mm_beside [.int (nI c), .int (nI s)] [] (fun o cs1 => o = .inl (some (.int (oI (bs c s)))) ∧ cs1 = []) 0 0 := by
  rcases (show s = 0 ∨ s = 1 ∨ s = 2 ∨ s = 3 by omega) with rfl | rfl | rfl | rfl
  · by_cases h : 12 ≤ c
    · rw [show bs c 0 = some (c - 12) from (if_pos rfl).trans (if_pos h)]; exact C_Mm_beside0b g c hc h
    · rw [show bs c 0 = none from (if_pos rfl).trans (if_neg h)]; exact C_Mm_beside0a g c hc (by omega)
  · by_cases h : 0 < c % 12
    · rw [show bs c 1 = some (c - 1) from (if_neg (by decide)).trans ((if_pos rfl).trans (if_pos h))]; exact C_Mm_beside1b g c hc h
    · rw [show bs c 1 = none from (if_neg (by decide)).trans ((if_pos rfl).trans (if_neg h))]; exact C_Mm_beside1a g c hc (by omega)
  · by_cases h : c % 12 < 11
    · rw [show bs c 2 = some (c + 1) from (if_neg (by decide)).trans ((if_neg (by decide)).trans ((if_pos rfl).trans (if_pos h)))]; exact C_Mm_beside2b g c hc h
    · rw [show bs c 2 = none from (if_neg (by decide)).trans ((if_neg (by decide)).trans ((if_pos rfl).trans (if_neg h)))]; exact C_Mm_beside2a g c hc (by omega)
  · by_cases h : c < 96
    · rw [show bs c 3 = some (c + 12) from (if_neg (by decide)).trans ((if_neg (by decide)).trans ((if_neg (by decide)).trans (if_pos h)))]; exact C_Mm_beside3b g c hc h
    · rw [show bs c 3 = none from (if_neg (by decide)).trans ((if_neg (by decide)).trans ((if_neg (by decide)).trans (if_neg h)))]; exact C_Mm_beside3a g c hc (by omega)
theorem z_updk {f : Nat → Int32} {c : Nat} {k : Int32} (h : f c = k) : upd f c k = f := by
  funext x
  unfold upd
  split
  · next e => subst e; exact h.symm
  · rfl
theorem oI_nm {c s : Nat} (h : ¬ oI (bs c s) = -1) : ∃ o, bs c s = some o := by
  cases e : bs c s with
  | none => rw [e] at h; exact absurd rfl h
  | some o => exact ⟨o, rfl⟩
theorem nI_nm1 {a : Nat} (h : a < 2 ^ 31) : ¬ nI a = -1 := fun e => absurd (show nI a < 0 by rw [e]; decide) (nI_nneg h)
theorem ucF (ks : Nat → Int32) : ∀ i, (ucS ks i).1 = 0 ∨ (ucS ks i).1 = 1
  | 0 => Or.inr rfl
  | i + 1 => by
    rw [ucS]
    split
    · exact Or.inl rfl
    · split
      · exact ucF ks i
      · exact ucF ks i
theorem ucR {ks : Nat → Int32} {i : Nat} (hz : z_kind (ks i)) : ucS ks (i + 1) = (if (ucS ks i).1 = 0 ∨ ks i = 46 ∨ ks i = 107 then 0 else 1, (ucS ks i).2 + if ((ucS ks i).1 = 0 ∨ ks i = 46 ∨ ks i = 107) ∧ tmB (ks i) = true then 1 else 0) := by
  rcases ucF ks i with hf | hf
  · rcases hz with h | h | h | h | h | h
    · rw [ucS_a (by rw [h]; decide), h]; simp [hf, tmB]
    · rw [ucS_b (by rw [h]; decide) (by rw [hf, h]; decide), h]; simp [hf, tmB]
    · rw [ucS_b (by rw [h]; decide) (by rw [hf, h]; decide), h]; simp [hf, tmB]
    · rw [ucS_b (by rw [h]; decide) (by rw [hf, h]; decide), h]; simp [hf, tmB]
    · rw [ucS_c (by rw [h]; decide) (by rw [hf, h]; decide), h]; simp [hf, tmB]; exact Prod.ext hf rfl
    · rw [ucS_a (by rw [h]; decide), h]; simp [hf, tmB]
  · rcases hz with h | h | h | h | h | h
    · rw [ucS_a (by rw [h]; decide), h]; simp [hf, tmB]
    · rw [ucS_c (by rw [h]; decide) (by rw [hf, h]; decide), h]; simp [hf, tmB]; exact Prod.ext hf rfl
    · rw [ucS_c (by rw [h]; decide) (by rw [hf, h]; decide), h]; simp [hf, tmB]; exact Prod.ext hf rfl
    · rw [ucS_c (by rw [h]; decide) (by rw [hf, h]; decide), h]; simp [hf, tmB]; exact Prod.ext hf rfl
    · rw [ucS_c (by rw [h]; decide) (by rw [hf, h]; decide), h]; simp [hf, tmB]; exact Prod.ext hf rfl
    · rw [ucS_a (by rw [h]; decide), h]; simp [hf, tmB]
def dnI (p i : Nat) : Int32 := Int32.ofInt ((p : Int) - 1 - i)
theorem dn0 : ∀ p, p < 9 → nI p - 1 = dnI p 0 := by decide
theorem dn1 : ∀ p, p < 9 → ∀ i, i < p → dnI p i + (-1) = dnI p (i + 1) := by decide
theorem dnL : ∀ p, p < 9 → ∀ i, i < p → ¬ dnI p i < 0 ∧ dnI p i = nI (p - 1 - i) := by decide
theorem dnE : ∀ p, p < 9 → dnI p p < 0 := by decide
abbrev M_Mm_draw : zM := (⟨"IronpourModel", "draw", "(CIIII)I"⟩, prog_14_method_8_code, 10, (Option.some FieldType.int), 8, 179, [])
theorem d_Mm_draw_0 : decode prog_14_method_8_code 0 = .ok (.aload_n 0, 1) := zo_42 (zd_b zq_prog_14_method_8_code_0 0 rfl rfl rfl)
theorem d_Mm_draw_1 : decode prog_14_method_8_code 1 = .ok (.iconst 0, 1) := zo_3 (zd_b zq_prog_14_method_8_code_0 1 rfl rfl rfl)
theorem d_Mm_draw_2 : decode prog_14_method_8_code 2 = .ok (.putfield 84, 3) := zo_181 (d := 0) (e := 84) (zd_b zq_prog_14_method_8_code_0 2 rfl rfl rfl) (zd_b zq_prog_14_method_8_code_0 3 rfl rfl rfl) (zd_b zq_prog_14_method_8_code_0 4 rfl rfl rfl)
theorem d_Mm_draw_5 : decode prog_14_method_8_code 5 = .ok (.iload_n 2, 1) := zo_28 (zd_b zq_prog_14_method_8_code_0 5 rfl rfl rfl)
theorem d_Mm_draw_6 : decode prog_14_method_8_code 6 = .ok (.iload_n 3, 1) := zo_29 (zd_b zq_prog_14_method_8_code_0 6 rfl rfl rfl)
theorem d_Mm_draw_7 : decode prog_14_method_8_code 7 = .ok (.invokestatic 91, 3) := zo_184 (d := 0) (e := 91) (zd_b zq_prog_14_method_8_code_0 7 rfl rfl rfl) (zd_b zq_prog_14_method_8_code_0 8 rfl rfl rfl) (zd_b zq_prog_14_method_8_code_0 9 rfl rfl rfl)
theorem ok_Mm_draw_Mm_isCell : z_ok M_Mm_draw M_Mm_isCell 2 := ⟨z_mj7 (i := 187) rfl (by decide +kernel), rfl, ⟨by decide +kernel, by decide +kernel, by decide +kernel⟩, ⟨by decide, by decide⟩, z_mj1 (i := 14) rfl (by decide +kernel), rfl⟩
theorem d_Mm_draw_10 : decode prog_14_method_8_code 10 = .ok (.ifCond .eq 33, 3) := zo_153 (d := 0) (e := 33) (zd_b zq_prog_14_method_8_code_0 10 rfl rfl rfl) (zd_b zq_prog_14_method_8_code_0 11 rfl rfl rfl) (zd_b zq_prog_14_method_8_code_0 12 rfl rfl rfl) (by decide +kernel)
theorem d_Mm_draw_43 : decode prog_14_method_8_code 43 = .ok (.iconst 0, 1) := zo_3 (zd_b zq_prog_14_method_8_code_1 11 rfl rfl rfl)
theorem d_Mm_draw_44 : decode prog_14_method_8_code 44 = .ok (.istore 6, 2) := zo_54 (d := 6) (zd_b zq_prog_14_method_8_code_1 12 rfl rfl rfl) (zd_b zq_prog_14_method_8_code_1 13 rfl rfl rfl)
theorem d_Mm_draw_46 : decode prog_14_method_8_code 46 = .ok (.aload_n 0, 1) := zo_42 (zd_b zq_prog_14_method_8_code_1 14 rfl rfl rfl)
theorem d_Mm_draw_47 : decode prog_14_method_8_code 47 = .ok (.ldc 95, 2) := zo_18 (d := 95) (zd_b zq_prog_14_method_8_code_1 15 rfl rfl rfl) (zd_b zq_prog_14_method_8_code_1 16 rfl rfl rfl)
theorem d_Mm_draw_49 : decode prog_14_method_8_code 49 = .ok (.iload_n 1, 1) := zo_27 (zd_b zq_prog_14_method_8_code_1 17 rfl rfl rfl)
theorem d_Mm_draw_50 : decode prog_14_method_8_code 50 = .ok (.invokevirtual 97, 3) := zo_182 (d := 0) (e := 97) (zd_b zq_prog_14_method_8_code_1 18 rfl rfl rfl) (zd_b zq_prog_14_method_8_code_1 19 rfl rfl rfl) (zd_b zq_prog_14_method_8_code_1 20 rfl rfl rfl)
theorem ok_Mm_draw_String_indexOf_0 : z_ok M_Mm_draw M_String_indexOf_0 1 := ⟨z_mj3 (i := 58) rfl (by decide +kernel), rfl, ⟨by decide +kernel, by decide +kernel, by decide +kernel⟩, ⟨by decide, by decide⟩, z_mj1 (i := 15) rfl (by decide +kernel), rfl⟩
theorem ln_Mm_97 : Cond.methodLink "IronpourModel" 97 M_String_indexOf_0.1 ∈ z_gw := z_mj7 (i := 192) rfl (by decide +kernel)
theorem d_Mm_draw_53 : decode prog_14_method_8_code 53 = .ok (.ifCond .lt 8, 3) := zo_155 (d := 0) (e := 8) (zd_b zq_prog_14_method_8_code_1 21 rfl rfl rfl) (zd_b zq_prog_14_method_8_code_1 22 rfl rfl rfl) (zd_b zq_prog_14_method_8_code_1 23 rfl rfl rfl) (by decide +kernel)
theorem d_Mm_draw_61 : decode prog_14_method_8_code 61 = .ok (.iconst 1, 1) := zo_4 (zd_b zq_prog_14_method_8_code_1 29 rfl rfl rfl)
theorem d_Mm_draw_62 : decode prog_14_method_8_code 62 = .ok (.goto 4, 3) := zo_167 (d := 0) (e := 4) (zd_b zq_prog_14_method_8_code_1 30 rfl rfl rfl) (zd_b zq_prog_14_method_8_code_1 31 rfl rfl rfl) (zd_b zq_prog_14_method_8_code_2 0 rfl rfl rfl) (by decide +kernel)
theorem d_Mm_draw_66 : decode prog_14_method_8_code 66 = .ok (.iconst 1, 1) := zo_4 (zd_b zq_prog_14_method_8_code_2 2 rfl rfl rfl)
theorem d_Mm_draw_67 : decode prog_14_method_8_code 67 = .ok (.invokevirtual 103, 3) := zo_182 (d := 0) (e := 103) (zd_b zq_prog_14_method_8_code_2 3 rfl rfl rfl) (zd_b zq_prog_14_method_8_code_2 4 rfl rfl rfl) (zd_b zq_prog_14_method_8_code_2 5 rfl rfl rfl)
theorem ok_Mm_draw_Mm_fails : z_ok M_Mm_draw M_Mm_fails 2 := ⟨z_mj7 (i := 196) rfl (by decide +kernel), rfl, ⟨by decide +kernel, by decide +kernel, by decide +kernel⟩, ⟨by decide, by decide⟩, z_mj1 (i := 14) rfl (by decide +kernel), rfl⟩
theorem d_Mm_draw_70 : decode prog_14_method_8_code 70 = .ok (.ifCond .eq 5, 3) := zo_153 (d := 0) (e := 5) (zd_b zq_prog_14_method_8_code_2 6 rfl rfl rfl) (zd_b zq_prog_14_method_8_code_2 7 rfl rfl rfl) (zd_b zq_prog_14_method_8_code_2 8 rfl rfl rfl) (by decide +kernel)
theorem d_Mm_draw_73 : decode prog_14_method_8_code 73 = .ok (.iconst 0, 1) := zo_3 (zd_b zq_prog_14_method_8_code_2 9 rfl rfl rfl)
theorem d_Mm_draw_74 : decode prog_14_method_8_code 74 = .ok (.ireturn, 1) := zo_172 (zd_b zq_prog_14_method_8_code_2 10 rfl rfl rfl)
theorem d_Mm_draw_56 : decode prog_14_method_8_code 56 = .ok (.iload 6, 2) := zo_21 (d := 6) (zd_b zq_prog_14_method_8_code_1 24 rfl rfl rfl) (zd_b zq_prog_14_method_8_code_1 25 rfl rfl rfl)
theorem d_Mm_draw_58 : decode prog_14_method_8_code 58 = .ok (.ifCond .ne 7, 3) := zo_154 (d := 0) (e := 7) (zd_b zq_prog_14_method_8_code_1 26 rfl rfl rfl) (zd_b zq_prog_14_method_8_code_1 27 rfl rfl rfl) (zd_b zq_prog_14_method_8_code_1 28 rfl rfl rfl) (by decide +kernel)
theorem d_Mm_draw_13 : decode prog_14_method_8_code 13 = .ok (.iload 4, 2) := zo_21 (d := 4) (zd_b zq_prog_14_method_8_code_0 13 rfl rfl rfl) (zd_b zq_prog_14_method_8_code_0 14 rfl rfl rfl)
theorem d_Mm_draw_15 : decode prog_14_method_8_code 15 = .ok (.iconst 1, 1) := zo_4 (zd_b zq_prog_14_method_8_code_0 15 rfl rfl rfl)
theorem d_Mm_draw_16 : decode prog_14_method_8_code 16 = .ok (.bipush 12, 2) := zo_16 (d := 12) (zd_b zq_prog_14_method_8_code_0 16 rfl rfl rfl) (zd_b zq_prog_14_method_8_code_0 17 rfl rfl rfl) (by decide +kernel)
theorem d_Mm_draw_18 : decode prog_14_method_8_code 18 = .ok (.iload_n 2, 1) := zo_28 (zd_b zq_prog_14_method_8_code_0 18 rfl rfl rfl)
theorem d_Mm_draw_19 : decode prog_14_method_8_code 19 = .ok (.isub, 1) := zo_100 (zd_b zq_prog_14_method_8_code_0 19 rfl rfl rfl)
theorem d_Mm_draw_20 : decode prog_14_method_8_code 20 = .ok (.invokestatic 87, 3) := zo_184 (d := 0) (e := 87) (zd_b zq_prog_14_method_8_code_0 20 rfl rfl rfl) (zd_b zq_prog_14_method_8_code_0 21 rfl rfl rfl) (zd_b zq_prog_14_method_8_code_0 22 rfl rfl rfl)
theorem ok_Mm_draw_Mm_in : z_ok M_Mm_draw M_Mm_in 3 := ⟨z_mj7 (i := 190) rfl (by decide +kernel), rfl, ⟨by decide +kernel, by decide +kernel, by decide +kernel⟩, ⟨by decide, by decide⟩, z_mj1 (i := 14) rfl (by decide +kernel), rfl⟩
theorem d_Mm_draw_23 : decode prog_14_method_8_code 23 = .ok (.ifCond .eq 20, 3) := zo_153 (d := 0) (e := 20) (zd_b zq_prog_14_method_8_code_0 23 rfl rfl rfl) (zd_b zq_prog_14_method_8_code_0 24 rfl rfl rfl) (zd_b zq_prog_14_method_8_code_0 25 rfl rfl rfl) (by decide +kernel)
theorem d_Mm_draw_26 : decode prog_14_method_8_code 26 = .ok (.iload 5, 2) := zo_21 (d := 5) (zd_b zq_prog_14_method_8_code_0 26 rfl rfl rfl) (zd_b zq_prog_14_method_8_code_0 27 rfl rfl rfl)
theorem d_Mm_draw_28 : decode prog_14_method_8_code 28 = .ok (.iconst 1, 1) := zo_4 (zd_b zq_prog_14_method_8_code_0 28 rfl rfl rfl)
theorem d_Mm_draw_29 : decode prog_14_method_8_code 29 = .ok (.bipush 9, 2) := zo_16 (d := 9) (zd_b zq_prog_14_method_8_code_0 29 rfl rfl rfl) (zd_b zq_prog_14_method_8_code_0 30 rfl rfl rfl) (by decide +kernel)
theorem d_Mm_draw_31 : decode prog_14_method_8_code 31 = .ok (.iload_n 3, 1) := zo_29 (zd_b zq_prog_14_method_8_code_0 31 rfl rfl rfl)
theorem d_Mm_draw_32 : decode prog_14_method_8_code 32 = .ok (.isub, 1) := zo_100 (zd_b zq_prog_14_method_8_code_1 0 rfl rfl rfl)
theorem d_Mm_draw_33 : decode prog_14_method_8_code 33 = .ok (.invokestatic 87, 3) := zo_184 (d := 0) (e := 87) (zd_b zq_prog_14_method_8_code_1 1 rfl rfl rfl) (zd_b zq_prog_14_method_8_code_1 2 rfl rfl rfl) (zd_b zq_prog_14_method_8_code_1 3 rfl rfl rfl)
theorem d_Mm_draw_36 : decode prog_14_method_8_code 36 = .ok (.ifCond .eq 7, 3) := zo_153 (d := 0) (e := 7) (zd_b zq_prog_14_method_8_code_1 4 rfl rfl rfl) (zd_b zq_prog_14_method_8_code_1 5 rfl rfl rfl) (zd_b zq_prog_14_method_8_code_1 6 rfl rfl rfl) (by decide +kernel)
theorem d_Mm_draw_39 : decode prog_14_method_8_code 39 = .ok (.iconst 1, 1) := zo_4 (zd_b zq_prog_14_method_8_code_1 7 rfl rfl rfl)
theorem d_Mm_draw_40 : decode prog_14_method_8_code 40 = .ok (.goto 4, 3) := zo_167 (d := 0) (e := 4) (zd_b zq_prog_14_method_8_code_1 8 rfl rfl rfl) (zd_b zq_prog_14_method_8_code_1 9 rfl rfl rfl) (zd_b zq_prog_14_method_8_code_1 10 rfl rfl rfl) (by decide +kernel)
set_option maxHeartbeats 4000000 in
set_option maxRecDepth 100000 in
theorem C_Mm_drawE (g : zG) (m mp mf mh mn mt mz mc_ mq mgr ml mi mr mm mu mk mx : Nat) (th pt cl wa co_ fi bu ho lh mg wd fpi fal : Int32) (po de : Int64) (f : Nat → Int32) (k x y w v : Int32) (hd : ¬ (0 ≤ z_ix 0 k ∧ (0 ≤ x ∧ x < 12 ∧ 0 ≤ y ∧ y < 9) ∧ 1 ≤ w ∧ w ≤ 12 - x ∧ 1 ≤ v ∧ v ≤ 9 - y)) : CT g M_Mm_draw [.ref m, .int k, .int x, .int y, .int w, .int v] [(m, .inr (12, [.int th, .ref mp, .int pt, .ref mf, .ref mh, .ref mn, .ref mt, .ref mz, .ref mc_, .ref mq, .ref mgr, .int cl, .int wa, .int co_, .int fi, .int bu, .int ho, .ref ml, .ref mi, .ref mr, .int lh, .int mg, .int wd, .int fpi, .int fal, .ref mm, .ref mu, .ref mk, .ref mx, .long po, .long de])), (mp, .inl (1, 108, .inl f))] (fun o cs1 => o = .inl (some (.int 0)) ∧ cs1 = [(m, .inr (12, [.int 1, .ref mp, .int pt, .ref mf, .ref mh, .ref mn, .ref mt, .ref mz, .ref mc_, .ref mq, .ref mgr, .int cl, .int wa, .int co_, .int fi, .int bu, .int ho, .ref ml, .ref mi, .ref mr, .int lh, .int mg, .int wd, .int fpi, .int fal, .ref mm, .ref mu, .ref mk, .ref mx, .long po, .long de])), (mp, .inl (1, 108, .inl f))]) 0 0 := by
  refine z_of (by decide) rfl (Nat.le_of_ble_eq_true rfl) (fun w0 => ?_)
  refine r_lvE (lv2 := [(0, .ref m), (1, .int k), (2, .int x), (3, .int y), (4, .int w), (5, .int v)]) rfl ?_
  refine r_aload_n d_Mm_draw_0 rfl 0 rfl ?_
  refine r_iconst d_Mm_draw_1 (v := 0) (by decide) ?_
  refine r_put fp_Mm_84 d_Mm_draw_2 (fun h => nomatch h) rfl rfl (q0 := 0) rfl (Nat.le_of_ble_eq_true rfl) (cs' := [(m, .inr (12, [.int 0, .ref mp, .int pt, .ref mf, .ref mh, .ref mn, .ref mt, .ref mz, .ref mc_, .ref mq, .ref mgr, .int cl, .int wa, .int co_, .int fi, .int bu, .int ho, .ref ml, .ref mi, .ref mr, .int lh, .int mg, .int wd, .int fpi, .int fal, .ref mm, .ref mu, .ref mk, .ref mx, .long po, .long de])), (mp, .inl (1, 108, .inl f))]) rfl ?_
  refine r_iload_n d_Mm_draw_5 rfl 2 rfl ?_
  refine r_iload_n d_Mm_draw_6 rfl 3 rfl ?_
  refine r_callS (As := [.int x, .int y]) (rest := []) (csC := []) (is := []) ln_Mm_91 w_st_Mm_isCell ok_Mm_draw_Mm_isCell d_Mm_draw_7 (C_Mm_isCell g x y) rfl rfl (Nat.le_of_ble_eq_true rfl) rfl (by decide) (by omega) (by omega) (fun E cs1 hx => ?_) (fun v cs1 hx => ?_)
  · exact absurd hx.1 (by simp)
  · obtain ⟨e1, rfl⟩ := hx
    cases e1
    refine ⟨rfl, ?_⟩
    refine r_st (st2 := [.int (if 0 ≤ x ∧ x < 12 ∧ 0 ≤ y ∧ y < 9 then 1 else 0)]) rfl ?_
    refine r_cs (cs2 := [(m, .inr (12, [.int 0, .ref mp, .int pt, .ref mf, .ref mh, .ref mn, .ref mt, .ref mz, .ref mc_, .ref mq, .ref mgr, .int cl, .int wa, .int co_, .int fi, .int bu, .int ho, .ref ml, .ref mi, .ref mr, .int lh, .int mg, .int wd, .int fpi, .int fal, .ref mm, .ref mu, .ref mk, .ref mx, .long po, .long de])), (mp, .inl (1, 108, .inl f))]) rfl ?_
    refine r_if_eq (tgt := 43) d_Mm_draw_10 (by decide) (fun c_10 => ?_) (fun c_10 => ?_)
    · refine r_iconst d_Mm_draw_43 (v := 0) (by decide) ?_
      refine r_istore (lv' := [(6, .int 0), (0, .ref m), (1, .int k), (2, .int x), (3, .int y), (4, .int w), (5, .int v)]) d_Mm_draw_44 (by decide) rfl ?_
      refine r_aload_n d_Mm_draw_46 rfl 1 rfl ?_
      refine r_ldcS (own := "IronpourModel") (i := 0) (by decide) d_Mm_draw_47 ?_
      refine r_iload_n d_Mm_draw_49 rfl 2 rfl ?_
      refine r_callVS (As := [.int k]) (rest := [.ref m]) (csC := []) (is := []) (i := 0) (by first | assumption | decide) rfl ln_Mm_97 w_im_String_indexOf_0 w_se_String_indexOf_0 ok_Mm_draw_String_indexOf_0 d_Mm_draw_50 (C_St_indexOf g 0 (by decide) k) rfl rfl (Nat.le_of_ble_eq_true rfl) rfl (by decide) (by omega) (by omega) (fun E cs1 hx => ?_) (fun v cs1 hx => ?_)
      · exact absurd hx.1 (by simp)
      · obtain ⟨e1, rfl⟩ := hx
        cases e1
        refine ⟨rfl, ?_⟩
        refine r_st (st2 := [.int (z_ix 0 k), .ref m]) rfl ?_
        refine r_cs (cs2 := [(m, .inr (12, [.int 0, .ref mp, .int pt, .ref mf, .ref mh, .ref mn, .ref mt, .ref mz, .ref mc_, .ref mq, .ref mgr, .int cl, .int wa, .int co_, .int fi, .int bu, .int ho, .ref ml, .ref mi, .ref mr, .int lh, .int mg, .int wd, .int fpi, .int fal, .ref mm, .ref mu, .ref mk, .ref mx, .long po, .long de])), (mp, .inl (1, 108, .inl f))]) rfl ?_
        refine r_if_lt (tgt := 61) d_Mm_draw_53 (by decide) (fun c_53 => ?_) (fun c_53 => ?_)
        · refine r_iconst d_Mm_draw_61 (v := 1) (by decide) ?_
          refine r_goto (tgt := 66) d_Mm_draw_62 (by decide) ?_
          refine r_iconst d_Mm_draw_66 (v := 1) (by decide) ?_
          refine r_callV (As := [.int 1, .int 1]) (rest := []) (csC := [(m, .inr (12, [.int 0, .ref mp, .int pt, .ref mf, .ref mh, .ref mn, .ref mt, .ref mz, .ref mc_, .ref mq, .ref mgr, .int cl, .int wa, .int co_, .int fi, .int bu, .int ho, .ref ml, .ref mi, .ref mr, .int lh, .int mg, .int wd, .int fpi, .int fal, .ref mm, .ref mu, .ref mk, .ref mx, .long po, .long de]))]) (is := [0]) (q0 := 0) rfl rfl ln_Mm_103 w_im_Mm_fails w_se_Mm_fails ok_Mm_draw_Mm_fails d_Mm_draw_67 (C_Mm_fails1 g m mp mf mh mn mt mz mc_ mq mgr ml mi mr mm mu mk mx th pt cl wa co_ fi bu ho lh mg wd fpi fal po de) rfl rfl (Nat.le_of_ble_eq_true rfl) rfl (by decide) (by omega) (by omega) (fun E cs1 hx => ?_) (fun v cs1 hx => ?_)
          · exact absurd hx.1 (by simp)
          · obtain ⟨e1, rfl⟩ := hx
            cases e1
            refine ⟨rfl, ?_⟩
            refine r_st (st2 := [.int 1]) rfl ?_
            refine r_cs (cs2 := [(m, .inr (12, [.int 1, .ref mp, .int pt, .ref mf, .ref mh, .ref mn, .ref mt, .ref mz, .ref mc_, .ref mq, .ref mgr, .int cl, .int wa, .int co_, .int fi, .int bu, .int ho, .ref ml, .ref mi, .ref mr, .int lh, .int mg, .int wd, .int fpi, .int fal, .ref mm, .ref mu, .ref mk, .ref mx, .long po, .long de])), (mp, .inl (1, 108, .inl f))]) rfl ?_
            refine r_if_eq (tgt := 75) d_Mm_draw_70 (by decide) (fun c_70 => ?_) (fun c_70 => ?_)
            · exact absurd c_70 (by decide)
            · refine r_iconst d_Mm_draw_73 (v := 0) (by decide) ?_
              refine r_iret d_Mm_draw_74 rfl rfl ?_
              exact ⟨rfl, rfl⟩
        · refine r_iload d_Mm_draw_56 0 rfl ?_
          refine r_if_ne (tgt := 65) d_Mm_draw_58 (by decide) (fun c_58 => ?_) (fun c_58 => ?_)
          · exact absurd c_58 (by decide)
          · refine r_iconst d_Mm_draw_61 (v := 1) (by decide) ?_
            refine r_goto (tgt := 66) d_Mm_draw_62 (by decide) ?_
            refine r_iconst d_Mm_draw_66 (v := 1) (by decide) ?_
            refine r_callV (As := [.int 1, .int 1]) (rest := []) (csC := [(m, .inr (12, [.int 0, .ref mp, .int pt, .ref mf, .ref mh, .ref mn, .ref mt, .ref mz, .ref mc_, .ref mq, .ref mgr, .int cl, .int wa, .int co_, .int fi, .int bu, .int ho, .ref ml, .ref mi, .ref mr, .int lh, .int mg, .int wd, .int fpi, .int fal, .ref mm, .ref mu, .ref mk, .ref mx, .long po, .long de]))]) (is := [0]) (q0 := 0) rfl rfl ln_Mm_103 w_im_Mm_fails w_se_Mm_fails ok_Mm_draw_Mm_fails d_Mm_draw_67 (C_Mm_fails1 g m mp mf mh mn mt mz mc_ mq mgr ml mi mr mm mu mk mx th pt cl wa co_ fi bu ho lh mg wd fpi fal po de) rfl rfl (Nat.le_of_ble_eq_true rfl) rfl (by decide) (by omega) (by omega) (fun E cs1 hx => ?_) (fun v cs1 hx => ?_)
            · exact absurd hx.1 (by simp)
            · obtain ⟨e1, rfl⟩ := hx
              cases e1
              refine ⟨rfl, ?_⟩
              refine r_st (st2 := [.int 1]) rfl ?_
              refine r_cs (cs2 := [(m, .inr (12, [.int 1, .ref mp, .int pt, .ref mf, .ref mh, .ref mn, .ref mt, .ref mz, .ref mc_, .ref mq, .ref mgr, .int cl, .int wa, .int co_, .int fi, .int bu, .int ho, .ref ml, .ref mi, .ref mr, .int lh, .int mg, .int wd, .int fpi, .int fal, .ref mm, .ref mu, .ref mk, .ref mx, .long po, .long de])), (mp, .inl (1, 108, .inl f))]) rfl ?_
              refine r_if_eq (tgt := 75) d_Mm_draw_70 (by decide) (fun c_70 => ?_) (fun c_70 => ?_)
              · exact absurd c_70 (by decide)
              · refine r_iconst d_Mm_draw_73 (v := 0) (by decide) ?_
                refine r_iret d_Mm_draw_74 rfl rfl ?_
                exact ⟨rfl, rfl⟩
    · refine r_iload d_Mm_draw_13 4 rfl ?_
      refine r_iconst d_Mm_draw_15 (v := 1) (by decide) ?_
      refine r_bipush d_Mm_draw_16 (v := 12) (by decide) ?_
      refine r_iload_n d_Mm_draw_18 rfl 2 rfl ?_
      refine r_isub d_Mm_draw_19 (v := 12 - x) rfl ?_
      refine r_callS (As := [.int w, .int 1, .int (12 - x)]) (rest := []) (csC := []) (is := []) ln_Mm_87 w_st_Mm_in ok_Mm_draw_Mm_in d_Mm_draw_20 (C_Mm_in g w 1 (12 - x)) rfl rfl (Nat.le_of_ble_eq_true rfl) rfl (by decide) (by omega) (by omega) (fun E cs1 hx => ?_) (fun v cs1 hx => ?_)
      · exact absurd hx.1 (by simp)
      · obtain ⟨e1, rfl⟩ := hx
        cases e1
        refine ⟨rfl, ?_⟩
        refine r_st (st2 := [.int (if 1 ≤ w ∧ w ≤ 12 - x then 1 else 0)]) rfl ?_
        refine r_cs (cs2 := [(m, .inr (12, [.int 0, .ref mp, .int pt, .ref mf, .ref mh, .ref mn, .ref mt, .ref mz, .ref mc_, .ref mq, .ref mgr, .int cl, .int wa, .int co_, .int fi, .int bu, .int ho, .ref ml, .ref mi, .ref mr, .int lh, .int mg, .int wd, .int fpi, .int fal, .ref mm, .ref mu, .ref mk, .ref mx, .long po, .long de])), (mp, .inl (1, 108, .inl f))]) rfl ?_
        refine r_if_eq (tgt := 43) d_Mm_draw_23 (by decide) (fun c_23 => ?_) (fun c_23 => ?_)
        · refine r_iconst d_Mm_draw_43 (v := 0) (by decide) ?_
          refine r_istore (lv' := [(6, .int 0), (0, .ref m), (1, .int k), (2, .int x), (3, .int y), (4, .int w), (5, .int v)]) d_Mm_draw_44 (by decide) rfl ?_
          refine r_aload_n d_Mm_draw_46 rfl 1 rfl ?_
          refine r_ldcS (own := "IronpourModel") (i := 0) (by decide) d_Mm_draw_47 ?_
          refine r_iload_n d_Mm_draw_49 rfl 2 rfl ?_
          refine r_callVS (As := [.int k]) (rest := [.ref m]) (csC := []) (is := []) (i := 0) (by first | assumption | decide) rfl ln_Mm_97 w_im_String_indexOf_0 w_se_String_indexOf_0 ok_Mm_draw_String_indexOf_0 d_Mm_draw_50 (C_St_indexOf g 0 (by decide) k) rfl rfl (Nat.le_of_ble_eq_true rfl) rfl (by decide) (by omega) (by omega) (fun E cs1 hx => ?_) (fun v cs1 hx => ?_)
          · exact absurd hx.1 (by simp)
          · obtain ⟨e1, rfl⟩ := hx
            cases e1
            refine ⟨rfl, ?_⟩
            refine r_st (st2 := [.int (z_ix 0 k), .ref m]) rfl ?_
            refine r_cs (cs2 := [(m, .inr (12, [.int 0, .ref mp, .int pt, .ref mf, .ref mh, .ref mn, .ref mt, .ref mz, .ref mc_, .ref mq, .ref mgr, .int cl, .int wa, .int co_, .int fi, .int bu, .int ho, .ref ml, .ref mi, .ref mr, .int lh, .int mg, .int wd, .int fpi, .int fal, .ref mm, .ref mu, .ref mk, .ref mx, .long po, .long de])), (mp, .inl (1, 108, .inl f))]) rfl ?_
            refine r_if_lt (tgt := 61) d_Mm_draw_53 (by decide) (fun c_53 => ?_) (fun c_53 => ?_)
            · refine r_iconst d_Mm_draw_61 (v := 1) (by decide) ?_
              refine r_goto (tgt := 66) d_Mm_draw_62 (by decide) ?_
              refine r_iconst d_Mm_draw_66 (v := 1) (by decide) ?_
              refine r_callV (As := [.int 1, .int 1]) (rest := []) (csC := [(m, .inr (12, [.int 0, .ref mp, .int pt, .ref mf, .ref mh, .ref mn, .ref mt, .ref mz, .ref mc_, .ref mq, .ref mgr, .int cl, .int wa, .int co_, .int fi, .int bu, .int ho, .ref ml, .ref mi, .ref mr, .int lh, .int mg, .int wd, .int fpi, .int fal, .ref mm, .ref mu, .ref mk, .ref mx, .long po, .long de]))]) (is := [0]) (q0 := 0) rfl rfl ln_Mm_103 w_im_Mm_fails w_se_Mm_fails ok_Mm_draw_Mm_fails d_Mm_draw_67 (C_Mm_fails1 g m mp mf mh mn mt mz mc_ mq mgr ml mi mr mm mu mk mx th pt cl wa co_ fi bu ho lh mg wd fpi fal po de) rfl rfl (Nat.le_of_ble_eq_true rfl) rfl (by decide) (by omega) (by omega) (fun E cs1 hx => ?_) (fun v cs1 hx => ?_)
              · exact absurd hx.1 (by simp)
              · obtain ⟨e1, rfl⟩ := hx
                cases e1
                refine ⟨rfl, ?_⟩
                refine r_st (st2 := [.int 1]) rfl ?_
                refine r_cs (cs2 := [(m, .inr (12, [.int 1, .ref mp, .int pt, .ref mf, .ref mh, .ref mn, .ref mt, .ref mz, .ref mc_, .ref mq, .ref mgr, .int cl, .int wa, .int co_, .int fi, .int bu, .int ho, .ref ml, .ref mi, .ref mr, .int lh, .int mg, .int wd, .int fpi, .int fal, .ref mm, .ref mu, .ref mk, .ref mx, .long po, .long de])), (mp, .inl (1, 108, .inl f))]) rfl ?_
                refine r_if_eq (tgt := 75) d_Mm_draw_70 (by decide) (fun c_70 => ?_) (fun c_70 => ?_)
                · exact absurd c_70 (by decide)
                · refine r_iconst d_Mm_draw_73 (v := 0) (by decide) ?_
                  refine r_iret d_Mm_draw_74 rfl rfl ?_
                  exact ⟨rfl, rfl⟩
            · refine r_iload d_Mm_draw_56 0 rfl ?_
              refine r_if_ne (tgt := 65) d_Mm_draw_58 (by decide) (fun c_58 => ?_) (fun c_58 => ?_)
              · exact absurd c_58 (by decide)
              · refine r_iconst d_Mm_draw_61 (v := 1) (by decide) ?_
                refine r_goto (tgt := 66) d_Mm_draw_62 (by decide) ?_
                refine r_iconst d_Mm_draw_66 (v := 1) (by decide) ?_
                refine r_callV (As := [.int 1, .int 1]) (rest := []) (csC := [(m, .inr (12, [.int 0, .ref mp, .int pt, .ref mf, .ref mh, .ref mn, .ref mt, .ref mz, .ref mc_, .ref mq, .ref mgr, .int cl, .int wa, .int co_, .int fi, .int bu, .int ho, .ref ml, .ref mi, .ref mr, .int lh, .int mg, .int wd, .int fpi, .int fal, .ref mm, .ref mu, .ref mk, .ref mx, .long po, .long de]))]) (is := [0]) (q0 := 0) rfl rfl ln_Mm_103 w_im_Mm_fails w_se_Mm_fails ok_Mm_draw_Mm_fails d_Mm_draw_67 (C_Mm_fails1 g m mp mf mh mn mt mz mc_ mq mgr ml mi mr mm mu mk mx th pt cl wa co_ fi bu ho lh mg wd fpi fal po de) rfl rfl (Nat.le_of_ble_eq_true rfl) rfl (by decide) (by omega) (by omega) (fun E cs1 hx => ?_) (fun v cs1 hx => ?_)
                · exact absurd hx.1 (by simp)
                · obtain ⟨e1, rfl⟩ := hx
                  cases e1
                  refine ⟨rfl, ?_⟩
                  refine r_st (st2 := [.int 1]) rfl ?_
                  refine r_cs (cs2 := [(m, .inr (12, [.int 1, .ref mp, .int pt, .ref mf, .ref mh, .ref mn, .ref mt, .ref mz, .ref mc_, .ref mq, .ref mgr, .int cl, .int wa, .int co_, .int fi, .int bu, .int ho, .ref ml, .ref mi, .ref mr, .int lh, .int mg, .int wd, .int fpi, .int fal, .ref mm, .ref mu, .ref mk, .ref mx, .long po, .long de])), (mp, .inl (1, 108, .inl f))]) rfl ?_
                  refine r_if_eq (tgt := 75) d_Mm_draw_70 (by decide) (fun c_70 => ?_) (fun c_70 => ?_)
                  · exact absurd c_70 (by decide)
                  · refine r_iconst d_Mm_draw_73 (v := 0) (by decide) ?_
                    refine r_iret d_Mm_draw_74 rfl rfl ?_
                    exact ⟨rfl, rfl⟩
        · refine r_iload d_Mm_draw_26 5 rfl ?_
          refine r_iconst d_Mm_draw_28 (v := 1) (by decide) ?_
          refine r_bipush d_Mm_draw_29 (v := 9) (by decide) ?_
          refine r_iload_n d_Mm_draw_31 rfl 3 rfl ?_
          refine r_isub d_Mm_draw_32 (v := 9 - y) rfl ?_
          refine r_callS (As := [.int v, .int 1, .int (9 - y)]) (rest := []) (csC := []) (is := []) ln_Mm_87 w_st_Mm_in ok_Mm_draw_Mm_in d_Mm_draw_33 (C_Mm_in g v 1 (9 - y)) rfl rfl (Nat.le_of_ble_eq_true rfl) rfl (by decide) (by omega) (by omega) (fun E cs1 hx => ?_) (fun v cs1 hx => ?_)
          · exact absurd hx.1 (by simp)
          · obtain ⟨e1, rfl⟩ := hx
            cases e1
            refine ⟨rfl, ?_⟩
            refine r_st (st2 := [.int (if 1 ≤ v ∧ v ≤ 9 - y then 1 else 0)]) rfl ?_
            refine r_cs (cs2 := [(m, .inr (12, [.int 0, .ref mp, .int pt, .ref mf, .ref mh, .ref mn, .ref mt, .ref mz, .ref mc_, .ref mq, .ref mgr, .int cl, .int wa, .int co_, .int fi, .int bu, .int ho, .ref ml, .ref mi, .ref mr, .int lh, .int mg, .int wd, .int fpi, .int fal, .ref mm, .ref mu, .ref mk, .ref mx, .long po, .long de])), (mp, .inl (1, 108, .inl f))]) rfl ?_
            refine r_if_eq (tgt := 43) d_Mm_draw_36 (by decide) (fun c_36 => ?_) (fun c_36 => ?_)
            · refine r_iconst d_Mm_draw_43 (v := 0) (by decide) ?_
              refine r_istore (lv' := [(6, .int 0), (0, .ref m), (1, .int k), (2, .int x), (3, .int y), (4, .int w), (5, .int v)]) d_Mm_draw_44 (by decide) rfl ?_
              refine r_aload_n d_Mm_draw_46 rfl 1 rfl ?_
              refine r_ldcS (own := "IronpourModel") (i := 0) (by decide) d_Mm_draw_47 ?_
              refine r_iload_n d_Mm_draw_49 rfl 2 rfl ?_
              refine r_callVS (As := [.int k]) (rest := [.ref m]) (csC := []) (is := []) (i := 0) (by first | assumption | decide) rfl ln_Mm_97 w_im_String_indexOf_0 w_se_String_indexOf_0 ok_Mm_draw_String_indexOf_0 d_Mm_draw_50 (C_St_indexOf g 0 (by decide) k) rfl rfl (Nat.le_of_ble_eq_true rfl) rfl (by decide) (by omega) (by omega) (fun E cs1 hx => ?_) (fun v cs1 hx => ?_)
              · exact absurd hx.1 (by simp)
              · obtain ⟨e1, rfl⟩ := hx
                cases e1
                refine ⟨rfl, ?_⟩
                refine r_st (st2 := [.int (z_ix 0 k), .ref m]) rfl ?_
                refine r_cs (cs2 := [(m, .inr (12, [.int 0, .ref mp, .int pt, .ref mf, .ref mh, .ref mn, .ref mt, .ref mz, .ref mc_, .ref mq, .ref mgr, .int cl, .int wa, .int co_, .int fi, .int bu, .int ho, .ref ml, .ref mi, .ref mr, .int lh, .int mg, .int wd, .int fpi, .int fal, .ref mm, .ref mu, .ref mk, .ref mx, .long po, .long de])), (mp, .inl (1, 108, .inl f))]) rfl ?_
                refine r_if_lt (tgt := 61) d_Mm_draw_53 (by decide) (fun c_53 => ?_) (fun c_53 => ?_)
                · refine r_iconst d_Mm_draw_61 (v := 1) (by decide) ?_
                  refine r_goto (tgt := 66) d_Mm_draw_62 (by decide) ?_
                  refine r_iconst d_Mm_draw_66 (v := 1) (by decide) ?_
                  refine r_callV (As := [.int 1, .int 1]) (rest := []) (csC := [(m, .inr (12, [.int 0, .ref mp, .int pt, .ref mf, .ref mh, .ref mn, .ref mt, .ref mz, .ref mc_, .ref mq, .ref mgr, .int cl, .int wa, .int co_, .int fi, .int bu, .int ho, .ref ml, .ref mi, .ref mr, .int lh, .int mg, .int wd, .int fpi, .int fal, .ref mm, .ref mu, .ref mk, .ref mx, .long po, .long de]))]) (is := [0]) (q0 := 0) rfl rfl ln_Mm_103 w_im_Mm_fails w_se_Mm_fails ok_Mm_draw_Mm_fails d_Mm_draw_67 (C_Mm_fails1 g m mp mf mh mn mt mz mc_ mq mgr ml mi mr mm mu mk mx th pt cl wa co_ fi bu ho lh mg wd fpi fal po de) rfl rfl (Nat.le_of_ble_eq_true rfl) rfl (by decide) (by omega) (by omega) (fun E cs1 hx => ?_) (fun v cs1 hx => ?_)
                  · exact absurd hx.1 (by simp)
                  · obtain ⟨e1, rfl⟩ := hx
                    cases e1
                    refine ⟨rfl, ?_⟩
                    refine r_st (st2 := [.int 1]) rfl ?_
                    refine r_cs (cs2 := [(m, .inr (12, [.int 1, .ref mp, .int pt, .ref mf, .ref mh, .ref mn, .ref mt, .ref mz, .ref mc_, .ref mq, .ref mgr, .int cl, .int wa, .int co_, .int fi, .int bu, .int ho, .ref ml, .ref mi, .ref mr, .int lh, .int mg, .int wd, .int fpi, .int fal, .ref mm, .ref mu, .ref mk, .ref mx, .long po, .long de])), (mp, .inl (1, 108, .inl f))]) rfl ?_
                    refine r_if_eq (tgt := 75) d_Mm_draw_70 (by decide) (fun c_70 => ?_) (fun c_70 => ?_)
                    · exact absurd c_70 (by decide)
                    · refine r_iconst d_Mm_draw_73 (v := 0) (by decide) ?_
                      refine r_iret d_Mm_draw_74 rfl rfl ?_
                      exact ⟨rfl, rfl⟩
                · refine r_iload d_Mm_draw_56 0 rfl ?_
                  refine r_if_ne (tgt := 65) d_Mm_draw_58 (by decide) (fun c_58 => ?_) (fun c_58 => ?_)
                  · exact absurd c_58 (by decide)
                  · refine r_iconst d_Mm_draw_61 (v := 1) (by decide) ?_
                    refine r_goto (tgt := 66) d_Mm_draw_62 (by decide) ?_
                    refine r_iconst d_Mm_draw_66 (v := 1) (by decide) ?_
                    refine r_callV (As := [.int 1, .int 1]) (rest := []) (csC := [(m, .inr (12, [.int 0, .ref mp, .int pt, .ref mf, .ref mh, .ref mn, .ref mt, .ref mz, .ref mc_, .ref mq, .ref mgr, .int cl, .int wa, .int co_, .int fi, .int bu, .int ho, .ref ml, .ref mi, .ref mr, .int lh, .int mg, .int wd, .int fpi, .int fal, .ref mm, .ref mu, .ref mk, .ref mx, .long po, .long de]))]) (is := [0]) (q0 := 0) rfl rfl ln_Mm_103 w_im_Mm_fails w_se_Mm_fails ok_Mm_draw_Mm_fails d_Mm_draw_67 (C_Mm_fails1 g m mp mf mh mn mt mz mc_ mq mgr ml mi mr mm mu mk mx th pt cl wa co_ fi bu ho lh mg wd fpi fal po de) rfl rfl (Nat.le_of_ble_eq_true rfl) rfl (by decide) (by omega) (by omega) (fun E cs1 hx => ?_) (fun v cs1 hx => ?_)
                    · exact absurd hx.1 (by simp)
                    · obtain ⟨e1, rfl⟩ := hx
                      cases e1
                      refine ⟨rfl, ?_⟩
                      refine r_st (st2 := [.int 1]) rfl ?_
                      refine r_cs (cs2 := [(m, .inr (12, [.int 1, .ref mp, .int pt, .ref mf, .ref mh, .ref mn, .ref mt, .ref mz, .ref mc_, .ref mq, .ref mgr, .int cl, .int wa, .int co_, .int fi, .int bu, .int ho, .ref ml, .ref mi, .ref mr, .int lh, .int mg, .int wd, .int fpi, .int fal, .ref mm, .ref mu, .ref mk, .ref mx, .long po, .long de])), (mp, .inl (1, 108, .inl f))]) rfl ?_
                      refine r_if_eq (tgt := 75) d_Mm_draw_70 (by decide) (fun c_70 => ?_) (fun c_70 => ?_)
                      · exact absurd c_70 (by decide)
                      · refine r_iconst d_Mm_draw_73 (v := 0) (by decide) ?_
                        refine r_iret d_Mm_draw_74 rfl rfl ?_
                        exact ⟨rfl, rfl⟩
            · refine r_iconst d_Mm_draw_39 (v := 1) (by decide) ?_
              refine r_goto (tgt := 44) d_Mm_draw_40 (by decide) ?_
              refine r_istore (lv' := [(6, .int 1), (0, .ref m), (1, .int k), (2, .int x), (3, .int y), (4, .int w), (5, .int v)]) d_Mm_draw_44 (by decide) rfl ?_
              refine r_aload_n d_Mm_draw_46 rfl 1 rfl ?_
              refine r_ldcS (own := "IronpourModel") (i := 0) (by decide) d_Mm_draw_47 ?_
              refine r_iload_n d_Mm_draw_49 rfl 2 rfl ?_
              refine r_callVS (As := [.int k]) (rest := [.ref m]) (csC := []) (is := []) (i := 0) (by first | assumption | decide) rfl ln_Mm_97 w_im_String_indexOf_0 w_se_String_indexOf_0 ok_Mm_draw_String_indexOf_0 d_Mm_draw_50 (C_St_indexOf g 0 (by decide) k) rfl rfl (Nat.le_of_ble_eq_true rfl) rfl (by decide) (by omega) (by omega) (fun E cs1 hx => ?_) (fun v cs1 hx => ?_)
              · exact absurd hx.1 (by simp)
              · obtain ⟨e1, rfl⟩ := hx
                cases e1
                refine ⟨rfl, ?_⟩
                refine r_st (st2 := [.int (z_ix 0 k), .ref m]) rfl ?_
                refine r_cs (cs2 := [(m, .inr (12, [.int 0, .ref mp, .int pt, .ref mf, .ref mh, .ref mn, .ref mt, .ref mz, .ref mc_, .ref mq, .ref mgr, .int cl, .int wa, .int co_, .int fi, .int bu, .int ho, .ref ml, .ref mi, .ref mr, .int lh, .int mg, .int wd, .int fpi, .int fal, .ref mm, .ref mu, .ref mk, .ref mx, .long po, .long de])), (mp, .inl (1, 108, .inl f))]) rfl ?_
                refine r_if_lt (tgt := 61) d_Mm_draw_53 (by decide) (fun c_53 => ?_) (fun c_53 => ?_)
                · refine r_iconst d_Mm_draw_61 (v := 1) (by decide) ?_
                  refine r_goto (tgt := 66) d_Mm_draw_62 (by decide) ?_
                  refine r_iconst d_Mm_draw_66 (v := 1) (by decide) ?_
                  refine r_callV (As := [.int 1, .int 1]) (rest := []) (csC := [(m, .inr (12, [.int 0, .ref mp, .int pt, .ref mf, .ref mh, .ref mn, .ref mt, .ref mz, .ref mc_, .ref mq, .ref mgr, .int cl, .int wa, .int co_, .int fi, .int bu, .int ho, .ref ml, .ref mi, .ref mr, .int lh, .int mg, .int wd, .int fpi, .int fal, .ref mm, .ref mu, .ref mk, .ref mx, .long po, .long de]))]) (is := [0]) (q0 := 0) rfl rfl ln_Mm_103 w_im_Mm_fails w_se_Mm_fails ok_Mm_draw_Mm_fails d_Mm_draw_67 (C_Mm_fails1 g m mp mf mh mn mt mz mc_ mq mgr ml mi mr mm mu mk mx th pt cl wa co_ fi bu ho lh mg wd fpi fal po de) rfl rfl (Nat.le_of_ble_eq_true rfl) rfl (by decide) (by omega) (by omega) (fun E cs1 hx => ?_) (fun v cs1 hx => ?_)
                  · exact absurd hx.1 (by simp)
                  · obtain ⟨e1, rfl⟩ := hx
                    cases e1
                    refine ⟨rfl, ?_⟩
                    refine r_st (st2 := [.int 1]) rfl ?_
                    refine r_cs (cs2 := [(m, .inr (12, [.int 1, .ref mp, .int pt, .ref mf, .ref mh, .ref mn, .ref mt, .ref mz, .ref mc_, .ref mq, .ref mgr, .int cl, .int wa, .int co_, .int fi, .int bu, .int ho, .ref ml, .ref mi, .ref mr, .int lh, .int mg, .int wd, .int fpi, .int fal, .ref mm, .ref mu, .ref mk, .ref mx, .long po, .long de])), (mp, .inl (1, 108, .inl f))]) rfl ?_
                    refine r_if_eq (tgt := 75) d_Mm_draw_70 (by decide) (fun c_70 => ?_) (fun c_70 => ?_)
                    · exact absurd c_70 (by decide)
                    · refine r_iconst d_Mm_draw_73 (v := 0) (by decide) ?_
                      refine r_iret d_Mm_draw_74 rfl rfl ?_
                      exact ⟨rfl, rfl⟩
                · refine r_iload d_Mm_draw_56 0 rfl ?_
                  refine r_if_ne (tgt := 65) d_Mm_draw_58 (by decide) (fun c_58 => ?_) (fun c_58 => ?_)
                  · exact absurd ⟨Int32.not_lt.mp c_53, z_b1 c_10, (z_b1 c_23).1, (z_b1 c_23).2, (z_b1 c_36).1, (z_b1 c_36).2⟩ hd
                  · exact absurd c_58 (by decide)
theorem d_Mm_draw_93 : decode prog_14_method_8_code 93 = .ok (.iload 9, 2) := zo_21 (d := 9) (zd_b zq_prog_14_method_8_code_2 29 rfl rfl rfl) (zd_b zq_prog_14_method_8_code_2 30 rfl rfl rfl)
theorem d_Mm_draw_95 : decode prog_14_method_8_code 95 = .ok (.iload_n 2, 1) := zo_28 (zd_b zq_prog_14_method_8_code_2 31 rfl rfl rfl)
theorem d_Mm_draw_96 : decode prog_14_method_8_code 96 = .ok (.iload 4, 2) := zo_21 (d := 4) (zd_b zq_prog_14_method_8_code_3 0 rfl rfl rfl) (zd_b zq_prog_14_method_8_code_3 1 rfl rfl rfl)
theorem d_Mm_draw_98 : decode prog_14_method_8_code 98 = .ok (.iadd, 1) := zo_96 (zd_b zq_prog_14_method_8_code_3 2 rfl rfl rfl)
theorem d_Mm_draw_99 : decode prog_14_method_8_code 99 = .ok (.if_icmp .ge 50, 3) := zo_162 (d := 0) (e := 50) (zd_b zq_prog_14_method_8_code_3 3 rfl rfl rfl) (zd_b zq_prog_14_method_8_code_3 4 rfl rfl rfl) (zd_b zq_prog_14_method_8_code_3 5 rfl rfl rfl) (by decide +kernel)
theorem d_Mm_draw_102 : decode prog_14_method_8_code 102 = .ok (.iload 7, 2) := zo_21 (d := 7) (zd_b zq_prog_14_method_8_code_3 6 rfl rfl rfl) (zd_b zq_prog_14_method_8_code_3 7 rfl rfl rfl)
theorem d_Mm_draw_104 : decode prog_14_method_8_code 104 = .ok (.aload_n 0, 1) := zo_42 (zd_b zq_prog_14_method_8_code_3 8 rfl rfl rfl)
theorem d_Mm_draw_105 : decode prog_14_method_8_code 105 = .ok (.getfield 7, 3) := zo_180 (d := 0) (e := 7) (zd_b zq_prog_14_method_8_code_3 9 rfl rfl rfl) (zd_b zq_prog_14_method_8_code_3 10 rfl rfl rfl) (zd_b zq_prog_14_method_8_code_3 11 rfl rfl rfl)
theorem d_Mm_draw_108 : decode prog_14_method_8_code 108 = .ok (.bipush 12, 2) := zo_16 (d := 12) (zd_b zq_prog_14_method_8_code_3 12 rfl rfl rfl) (zd_b zq_prog_14_method_8_code_3 13 rfl rfl rfl) (by decide +kernel)
theorem d_Mm_draw_110 : decode prog_14_method_8_code 110 = .ok (.iload 8, 2) := zo_21 (d := 8) (zd_b zq_prog_14_method_8_code_3 14 rfl rfl rfl) (zd_b zq_prog_14_method_8_code_3 15 rfl rfl rfl)
theorem d_Mm_draw_112 : decode prog_14_method_8_code 112 = .ok (.imul, 1) := zo_104 (zd_b zq_prog_14_method_8_code_3 16 rfl rfl rfl)
theorem d_Mm_draw_113 : decode prog_14_method_8_code 113 = .ok (.iload 9, 2) := zo_21 (d := 9) (zd_b zq_prog_14_method_8_code_3 17 rfl rfl rfl) (zd_b zq_prog_14_method_8_code_3 18 rfl rfl rfl)
theorem d_Mm_draw_115 : decode prog_14_method_8_code 115 = .ok (.iadd, 1) := zo_96 (zd_b zq_prog_14_method_8_code_3 19 rfl rfl rfl)
theorem d_Mm_draw_116 : decode prog_14_method_8_code 116 = .ok (.caload, 1) := zo_52 (zd_b zq_prog_14_method_8_code_3 20 rfl rfl rfl)
theorem d_Mm_draw_117 : decode prog_14_method_8_code 117 = .ok (.iload_n 1, 1) := zo_27 (zd_b zq_prog_14_method_8_code_3 21 rfl rfl rfl)
theorem d_Mm_draw_118 : decode prog_14_method_8_code 118 = .ok (.if_icmp .ne 7, 3) := zo_160 (d := 0) (e := 7) (zd_b zq_prog_14_method_8_code_3 22 rfl rfl rfl) (zd_b zq_prog_14_method_8_code_3 23 rfl rfl rfl) (zd_b zq_prog_14_method_8_code_3 24 rfl rfl rfl) (by decide +kernel)
theorem d_Mm_draw_125 : decode prog_14_method_8_code 125 = .ok (.iconst 1, 1) := zo_4 (zd_b zq_prog_14_method_8_code_3 29 rfl rfl rfl)
theorem d_Mm_draw_126 : decode prog_14_method_8_code 126 = .ok (.iadd, 1) := zo_96 (zd_b zq_prog_14_method_8_code_3 30 rfl rfl rfl)
theorem d_Mm_draw_127 : decode prog_14_method_8_code 127 = .ok (.istore 7, 2) := zo_54 (d := 7) (zd_b zq_prog_14_method_8_code_3 31 rfl rfl rfl) (zd_b zq_prog_14_method_8_code_4 0 rfl rfl rfl)
theorem d_Mm_draw_129 : decode prog_14_method_8_code 129 = .ok (.aload_n 0, 1) := zo_42 (zd_b zq_prog_14_method_8_code_4 1 rfl rfl rfl)
theorem d_Mm_draw_130 : decode prog_14_method_8_code 130 = .ok (.getfield 7, 3) := zo_180 (d := 0) (e := 7) (zd_b zq_prog_14_method_8_code_4 2 rfl rfl rfl) (zd_b zq_prog_14_method_8_code_4 3 rfl rfl rfl) (zd_b zq_prog_14_method_8_code_4 4 rfl rfl rfl)
theorem d_Mm_draw_133 : decode prog_14_method_8_code 133 = .ok (.bipush 12, 2) := zo_16 (d := 12) (zd_b zq_prog_14_method_8_code_4 5 rfl rfl rfl) (zd_b zq_prog_14_method_8_code_4 6 rfl rfl rfl) (by decide +kernel)
theorem d_Mm_draw_135 : decode prog_14_method_8_code 135 = .ok (.iload 8, 2) := zo_21 (d := 8) (zd_b zq_prog_14_method_8_code_4 7 rfl rfl rfl) (zd_b zq_prog_14_method_8_code_4 8 rfl rfl rfl)
theorem d_Mm_draw_137 : decode prog_14_method_8_code 137 = .ok (.imul, 1) := zo_104 (zd_b zq_prog_14_method_8_code_4 9 rfl rfl rfl)
theorem d_Mm_draw_138 : decode prog_14_method_8_code 138 = .ok (.iload 9, 2) := zo_21 (d := 9) (zd_b zq_prog_14_method_8_code_4 10 rfl rfl rfl) (zd_b zq_prog_14_method_8_code_4 11 rfl rfl rfl)
theorem d_Mm_draw_140 : decode prog_14_method_8_code 140 = .ok (.iadd, 1) := zo_96 (zd_b zq_prog_14_method_8_code_4 12 rfl rfl rfl)
theorem d_Mm_draw_141 : decode prog_14_method_8_code 141 = .ok (.iload_n 1, 1) := zo_27 (zd_b zq_prog_14_method_8_code_4 13 rfl rfl rfl)
theorem d_Mm_draw_142 : decode prog_14_method_8_code 142 = .ok (.castore, 1) := zo_85 (zd_b zq_prog_14_method_8_code_4 14 rfl rfl rfl)
theorem d_Mm_draw_143 : decode prog_14_method_8_code 143 = .ok (.iinc 9 1, 3) := by decide +kernel
theorem d_Mm_draw_146 : decode prog_14_method_8_code 146 = .ok (.goto (-53), 3) := zo_167 (d := 255) (e := 203) (zd_b zq_prog_14_method_8_code_4 18 rfl rfl rfl) (zd_b zq_prog_14_method_8_code_4 19 rfl rfl rfl) (zd_b zq_prog_14_method_8_code_4 20 rfl rfl rfl) (by decide +kernel)
theorem d_Mm_draw_121 : decode prog_14_method_8_code 121 = .ok (.iconst 0, 1) := zo_3 (zd_b zq_prog_14_method_8_code_3 25 rfl rfl rfl)
theorem d_Mm_draw_122 : decode prog_14_method_8_code 122 = .ok (.goto 4, 3) := zo_167 (d := 0) (e := 4) (zd_b zq_prog_14_method_8_code_3 26 rfl rfl rfl) (zd_b zq_prog_14_method_8_code_3 27 rfl rfl rfl) (zd_b zq_prog_14_method_8_code_3 28 rfl rfl rfl) (by decide +kernel)
theorem d_Mm_draw_81 : decode prog_14_method_8_code 81 = .ok (.iload 8, 2) := zo_21 (d := 8) (zd_b zq_prog_14_method_8_code_2 17 rfl rfl rfl) (zd_b zq_prog_14_method_8_code_2 18 rfl rfl rfl)
theorem d_Mm_draw_83 : decode prog_14_method_8_code 83 = .ok (.iload_n 3, 1) := zo_29 (zd_b zq_prog_14_method_8_code_2 19 rfl rfl rfl)
theorem d_Mm_draw_84 : decode prog_14_method_8_code 84 = .ok (.iload 5, 2) := zo_21 (d := 5) (zd_b zq_prog_14_method_8_code_2 20 rfl rfl rfl) (zd_b zq_prog_14_method_8_code_2 21 rfl rfl rfl)
theorem d_Mm_draw_86 : decode prog_14_method_8_code 86 = .ok (.iadd, 1) := zo_96 (zd_b zq_prog_14_method_8_code_2 22 rfl rfl rfl)
theorem d_Mm_draw_87 : decode prog_14_method_8_code 87 = .ok (.if_icmp .ge 68, 3) := zo_162 (d := 0) (e := 68) (zd_b zq_prog_14_method_8_code_2 23 rfl rfl rfl) (zd_b zq_prog_14_method_8_code_2 24 rfl rfl rfl) (zd_b zq_prog_14_method_8_code_2 25 rfl rfl rfl) (by decide +kernel)
theorem d_Mm_draw_155 : decode prog_14_method_8_code 155 = .ok (.iload 7, 2) := zo_21 (d := 7) (zd_b zq_prog_14_method_8_code_4 27 rfl rfl rfl) (zd_b zq_prog_14_method_8_code_4 28 rfl rfl rfl)
theorem d_Mm_draw_157 : decode prog_14_method_8_code 157 = .ok (.ireturn, 1) := zo_172 (zd_b zq_prog_14_method_8_code_4 29 rfl rfl rfl)
theorem d_Mm_draw_90 : decode prog_14_method_8_code 90 = .ok (.iload_n 2, 1) := zo_28 (zd_b zq_prog_14_method_8_code_2 26 rfl rfl rfl)
theorem d_Mm_draw_91 : decode prog_14_method_8_code 91 = .ok (.istore 9, 2) := zo_54 (d := 9) (zd_b zq_prog_14_method_8_code_2 27 rfl rfl rfl) (zd_b zq_prog_14_method_8_code_2 28 rfl rfl rfl)
theorem d_Mm_draw_149 : decode prog_14_method_8_code 149 = .ok (.iinc 8 1, 3) := by decide +kernel
theorem d_Mm_draw_152 : decode prog_14_method_8_code 152 = .ok (.goto (-71), 3) := zo_167 (d := 255) (e := 185) (zd_b zq_prog_14_method_8_code_4 24 rfl rfl rfl) (zd_b zq_prog_14_method_8_code_4 25 rfl rfl rfl) (zd_b zq_prog_14_method_8_code_4 26 rfl rfl rfl) (by decide +kernel)
theorem d_Mm_draw_65 : decode prog_14_method_8_code 65 = .ok (.iconst 0, 1) := zo_3 (zd_b zq_prog_14_method_8_code_2 1 rfl rfl rfl)
theorem d_Mm_draw_75 : decode prog_14_method_8_code 75 = .ok (.iconst 0, 1) := zo_3 (zd_b zq_prog_14_method_8_code_2 11 rfl rfl rfl)
theorem d_Mm_draw_76 : decode prog_14_method_8_code 76 = .ok (.istore 7, 2) := zo_54 (d := 7) (zd_b zq_prog_14_method_8_code_2 12 rfl rfl rfl) (zd_b zq_prog_14_method_8_code_2 13 rfl rfl rfl)
theorem d_Mm_draw_78 : decode prog_14_method_8_code 78 = .ok (.iload_n 3, 1) := zo_29 (zd_b zq_prog_14_method_8_code_2 14 rfl rfl rfl)
theorem d_Mm_draw_79 : decode prog_14_method_8_code 79 = .ok (.istore 8, 2) := zo_54 (d := 8) (zd_b zq_prog_14_method_8_code_2 15 rfl rfl rfl) (zd_b zq_prog_14_method_8_code_2 16 rfl rfl rfl)
set_option maxHeartbeats 4000000 in
set_option maxRecDepth 100000 in
theorem L_Mm_drawN_93 (g : zG) (m mp mf mh mn mt mz mc_ mq mgr ml mi mr mm mu mk mx : Nat) (th pt cl wa co_ fi bu ho lh mg wd fpi fal : Int32) (po de : Int64) (f : Nat → Int32) (kd : Int32) (hk : z_kind kd) (hki : 0 ≤ z_ix 0 kd) (x y u v : Nat) (hx : x + u ≤ 12) (hy : y + v ≤ 9) (hu : 1 ≤ u) (hv : 1 ≤ v) (w0 : zW) (n : Nat) (i : Nat) (hi : i < v) (K : DV g M_Mm_draw (fun o cs1 => o = .inl (some (.int (nI (prect kd x y u (f, 0) v).2))) ∧ cs1 = [(m, .inr (12, [.int 0, .ref mp, .int pt, .ref mf, .ref mh, .ref mn, .ref mt, .ref mz, .ref mc_, .ref mq, .ref mgr, .int cl, .int wa, .int co_, .int fi, .int bu, .int ho, .ref ml, .ref mi, .ref mr, .int lh, .int mg, .int wd, .int fpi, .int fal, .ref mm, .ref mu, .ref mk, .ref mx, .long po, .long de])), (mp, .inl (1, 108, .inl ((prect kd x y u (f, 0) v).1)))]) w0 n 149 [(9, .int (nI (x + u))), (8, .int (nI (y + i))), (7, .int (nI (prow kd (12 * (y + i) + x) (prect kd x y u (f, 0) i) u).2)), (5, .int (nI v)), (4, .int (nI u)), (3, .int (nI y)), (2, .int (nI x)), (1, .int kd), (0, .ref m)] [] [(m, .inr (12, [.int 0, .ref mp, .int pt, .ref mf, .ref mh, .ref mn, .ref mt, .ref mz, .ref mc_, .ref mq, .ref mgr, .int cl, .int wa, .int co_, .int fi, .int bu, .int ho, .ref ml, .ref mi, .ref mr, .int lh, .int mg, .int wd, .int fpi, .int fal, .ref mm, .ref mu, .ref mk, .ref mx, .long po, .long de])), (mp, .inl (1, 108, .inl ((prow kd (12 * (y + i) + x) (prect kd x y u (f, 0) i) u).1)))] 0 0) : ∀ (d j : Nat), j ≤ u → u < j + d → DV g M_Mm_draw (fun o cs1 => o = .inl (some (.int (nI (prect kd x y u (f, 0) v).2))) ∧ cs1 = [(m, .inr (12, [.int 0, .ref mp, .int pt, .ref mf, .ref mh, .ref mn, .ref mt, .ref mz, .ref mc_, .ref mq, .ref mgr, .int cl, .int wa, .int co_, .int fi, .int bu, .int ho, .ref ml, .ref mi, .ref mr, .int lh, .int mg, .int wd, .int fpi, .int fal, .ref mm, .ref mu, .ref mk, .ref mx, .long po, .long de])), (mp, .inl (1, 108, .inl ((prect kd x y u (f, 0) v).1)))]) w0 n 93 [(9, .int (nI (x + j))), (8, .int (nI (y + i))), (7, .int (nI (prow kd (12 * (y + i) + x) (prect kd x y u (f, 0) i) j).2)), (5, .int (nI v)), (4, .int (nI u)), (3, .int (nI y)), (2, .int (nI x)), (1, .int kd), (0, .ref m)] [] [(m, .inr (12, [.int 0, .ref mp, .int pt, .ref mf, .ref mh, .ref mn, .ref mt, .ref mz, .ref mc_, .ref mq, .ref mgr, .int cl, .int wa, .int co_, .int fi, .int bu, .int ho, .ref ml, .ref mi, .ref mr, .int lh, .int mg, .int wd, .int fpi, .int fal, .ref mm, .ref mu, .ref mk, .ref mx, .long po, .long de])), (mp, .inl (1, 108, .inl ((prow kd (12 * (y + i) + x) (prect kd x y u (f, 0) i) j).1)))] 0 0 := by
  intro d
  induction d with
  | zero => intro j h1 h2 ; exact absurd h2 (by omega)
  | succ d ih =>
    intro j h1 h2 
    refine r_iload d_Mm_draw_93 0 rfl ?_
    refine r_iload_n d_Mm_draw_95 rfl 6 rfl ?_
    refine r_iload d_Mm_draw_96 4 rfl ?_
    refine r_iadd d_Mm_draw_98 (v := nI (x + u)) (nI_add _ _) ?_
    refine r_icmp_ge (tgt := 149) d_Mm_draw_99 (by decide) (fun c_99 => ?_) (fun c_99 => ?_)
    · have hn := z_le (a := x + u) (by omega) (by omega) c_99
      have hv9 : j = u := by omega
      subst hv9
      exact K
    · have hn := z_nle (a := x + u) (by omega) (by omega) c_99
      refine r_iload d_Mm_draw_102 2 rfl ?_
      refine r_aload_n d_Mm_draw_104 rfl 8 rfl ?_
      refine r_get fs_Mm_7 d_Mm_draw_105 (q0 := 0) rfl rfl ?_
      refine r_bipush d_Mm_draw_108 (v := 12) (by decide) ?_
      refine r_iload d_Mm_draw_110 1 rfl ?_
      refine r_imul d_Mm_draw_112 (v := nI (12 * (y + i))) (pk_mul _ _) ?_
      refine r_iload d_Mm_draw_113 0 rfl ?_
      refine r_iadd d_Mm_draw_115 (v := nI (12 * (y + i) + x + j)) (by rw [nI_add]; congr 1; omega) ?_
      refine r_cald d_Mm_draw_116 (q0 := 1) rfl (vp_in_nI (by omega) (by omega)) (v := ((prow kd (12 * (y + i) + x) (prect kd x y u (f, 0) i) j).1) (12 * (y + i) + x + j)) (by rw [nI_clamp (by omega)]) ?_
      refine r_iload_n d_Mm_draw_117 rfl 7 rfl ?_
      refine r_icmp_ne (tgt := 125) d_Mm_draw_118 (by decide) (fun c_118 => ?_) (fun c_118 => ?_)
      · refine r_iconst d_Mm_draw_125 (v := 1) (by decide) ?_
        refine r_iadd d_Mm_draw_126 (v := nI ((prow kd (12 * (y + i) + x) (prect kd x y u (f, 0) i) j).2 + 1)) (nI_add _ _) ?_
        refine r_istore (lv' := [(7, .int (nI ((prow kd (12 * (y + i) + x) (prect kd x y u (f, 0) i) j).2 + 1))), (9, .int (nI (x + j))), (8, .int (nI (y + i))), (5, .int (nI v)), (4, .int (nI u)), (3, .int (nI y)), (2, .int (nI x)), (1, .int kd), (0, .ref m)]) d_Mm_draw_127 (by decide) rfl ?_
        refine r_aload_n d_Mm_draw_129 rfl 8 rfl ?_
        refine r_get fs_Mm_7 d_Mm_draw_130 (q0 := 0) rfl rfl ?_
        refine r_bipush d_Mm_draw_133 (v := 12) (by decide) ?_
        refine r_iload d_Mm_draw_135 2 rfl ?_
        refine r_imul d_Mm_draw_137 (v := nI (12 * (y + i))) (pk_mul _ _) ?_
        refine r_iload d_Mm_draw_138 1 rfl ?_
        refine r_iadd d_Mm_draw_140 (v := nI (12 * (y + i) + x + j)) (by rw [nI_add]; congr 1; omega) ?_
        refine r_iload_n d_Mm_draw_141 rfl 7 rfl ?_
        refine r_cast d_Mm_draw_142 (q0 := 1) rfl (vp_in_nI (by omega) (by omega)) (f' := upd (prow kd (12 * (y + i) + x) (prect kd x y u (f, 0) i) j).1 (12 * (y + i) + x + j) kd) (by rw [z_kind_c hk, nI_clamp (by omega)]) (cs' := [(m, .inr (12, [.int 0, .ref mp, .int pt, .ref mf, .ref mh, .ref mn, .ref mt, .ref mz, .ref mc_, .ref mq, .ref mgr, .int cl, .int wa, .int co_, .int fi, .int bu, .int ho, .ref ml, .ref mi, .ref mr, .int lh, .int mg, .int wd, .int fpi, .int fal, .ref mm, .ref mu, .ref mk, .ref mx, .long po, .long de])), (mp, .inl (1, 108, .inl (upd (prow kd (12 * (y + i) + x) (prect kd x y u (f, 0) i) j).1 (12 * (y + i) + x + j) kd)))]) rfl ?_
        refine r_iinc (lv' := [(9, .int (nI ((x + j) + 1))), (7, .int (nI ((prow kd (12 * (y + i) + x) (prect kd x y u (f, 0) i) j).2 + 1))), (8, .int (nI (y + i))), (5, .int (nI v)), (4, .int (nI u)), (3, .int (nI y)), (2, .int (nI x)), (1, .int kd), (0, .ref m)]) (v := nI ((x + j) + 1)) d_Mm_draw_143 (j := 1) rfl (nI_add _ _) (by decide) rfl ?_
        refine r_goto (tgt := 93) d_Mm_draw_146 (by decide) ?_
        refine r_lv (lv' := [(9, .int (nI ((x + j) + 1))), (8, .int (nI (y + i))), (7, .int (nI ((prow kd (12 * (y + i) + x) (prect kd x y u (f, 0) i) j).2 + 1))), (5, .int (nI v)), (4, .int (nI u)), (3, .int (nI y)), (2, .int (nI x)), (1, .int kd), (0, .ref m)]) [0, 2, 1, 3, 4, 5, 6, 7, 8] rfl ?_
        refine r_lvE (lv2 := [(9, .int (nI (x + (j + 1)))), (8, .int (nI (y + i))), (7, .int (nI (prow kd (12 * (y + i) + x) (prect kd x y u (f, 0) i) (j + 1)).2)), (5, .int (nI v)), (4, .int (nI u)), (3, .int (nI y)), (2, .int (nI x)), (1, .int kd), (0, .ref m)]) (by first | (rw [prow_f c_118] <;> rfl) | (rw [prow_t c_118] <;> rfl)) ?_
        refine r_cs (cs2 := [(m, .inr (12, [.int 0, .ref mp, .int pt, .ref mf, .ref mh, .ref mn, .ref mt, .ref mz, .ref mc_, .ref mq, .ref mgr, .int cl, .int wa, .int co_, .int fi, .int bu, .int ho, .ref ml, .ref mi, .ref mr, .int lh, .int mg, .int wd, .int fpi, .int fal, .ref mm, .ref mu, .ref mk, .ref mx, .long po, .long de])), (mp, .inl (1, 108, .inl ((prow kd (12 * (y + i) + x) (prect kd x y u (f, 0) i) (j + 1)).1)))]) (by first | (rw [prow_f c_118] <;> rfl) | (rw [prow_t (Classical.not_not.mp c_118), z_updk (Classical.not_not.mp c_118)] <;> rfl) | (rw [prow_t c_118, z_updk c_118] <;> rfl)) ?_
        exact ih (j + 1) (by omega) (by omega)
      · refine r_iconst d_Mm_draw_121 (v := 0) (by decide) ?_
        refine r_goto (tgt := 126) d_Mm_draw_122 (by decide) ?_
        refine r_iadd d_Mm_draw_126 (v := nI ((prow kd (12 * (y + i) + x) (prect kd x y u (f, 0) i) j).2 + 0)) (nI_add _ _) ?_
        refine r_istore (lv' := [(7, .int (nI ((prow kd (12 * (y + i) + x) (prect kd x y u (f, 0) i) j).2 + 0))), (9, .int (nI (x + j))), (8, .int (nI (y + i))), (5, .int (nI v)), (4, .int (nI u)), (3, .int (nI y)), (2, .int (nI x)), (1, .int kd), (0, .ref m)]) d_Mm_draw_127 (by decide) rfl ?_
        refine r_aload_n d_Mm_draw_129 rfl 8 rfl ?_
        refine r_get fs_Mm_7 d_Mm_draw_130 (q0 := 0) rfl rfl ?_
        refine r_bipush d_Mm_draw_133 (v := 12) (by decide) ?_
        refine r_iload d_Mm_draw_135 2 rfl ?_
        refine r_imul d_Mm_draw_137 (v := nI (12 * (y + i))) (pk_mul _ _) ?_
        refine r_iload d_Mm_draw_138 1 rfl ?_
        refine r_iadd d_Mm_draw_140 (v := nI (12 * (y + i) + x + j)) (by rw [nI_add]; congr 1; omega) ?_
        refine r_iload_n d_Mm_draw_141 rfl 7 rfl ?_
        refine r_cast d_Mm_draw_142 (q0 := 1) rfl (vp_in_nI (by omega) (by omega)) (f' := upd (prow kd (12 * (y + i) + x) (prect kd x y u (f, 0) i) j).1 (12 * (y + i) + x + j) kd) (by rw [z_kind_c hk, nI_clamp (by omega)]) (cs' := [(m, .inr (12, [.int 0, .ref mp, .int pt, .ref mf, .ref mh, .ref mn, .ref mt, .ref mz, .ref mc_, .ref mq, .ref mgr, .int cl, .int wa, .int co_, .int fi, .int bu, .int ho, .ref ml, .ref mi, .ref mr, .int lh, .int mg, .int wd, .int fpi, .int fal, .ref mm, .ref mu, .ref mk, .ref mx, .long po, .long de])), (mp, .inl (1, 108, .inl (upd (prow kd (12 * (y + i) + x) (prect kd x y u (f, 0) i) j).1 (12 * (y + i) + x + j) kd)))]) rfl ?_
        refine r_iinc (lv' := [(9, .int (nI ((x + j) + 1))), (7, .int (nI ((prow kd (12 * (y + i) + x) (prect kd x y u (f, 0) i) j).2 + 0))), (8, .int (nI (y + i))), (5, .int (nI v)), (4, .int (nI u)), (3, .int (nI y)), (2, .int (nI x)), (1, .int kd), (0, .ref m)]) (v := nI ((x + j) + 1)) d_Mm_draw_143 (j := 1) rfl (nI_add _ _) (by decide) rfl ?_
        refine r_goto (tgt := 93) d_Mm_draw_146 (by decide) ?_
        refine r_lv (lv' := [(9, .int (nI ((x + j) + 1))), (8, .int (nI (y + i))), (7, .int (nI ((prow kd (12 * (y + i) + x) (prect kd x y u (f, 0) i) j).2 + 0))), (5, .int (nI v)), (4, .int (nI u)), (3, .int (nI y)), (2, .int (nI x)), (1, .int kd), (0, .ref m)]) [0, 2, 1, 3, 4, 5, 6, 7, 8] rfl ?_
        refine r_lvE (lv2 := [(9, .int (nI (x + (j + 1)))), (8, .int (nI (y + i))), (7, .int (nI (prow kd (12 * (y + i) + x) (prect kd x y u (f, 0) i) (j + 1)).2)), (5, .int (nI v)), (4, .int (nI u)), (3, .int (nI y)), (2, .int (nI x)), (1, .int kd), (0, .ref m)]) (by first | (rw [prow_f c_118] <;> rfl) | (rw [prow_t c_118] <;> rfl)) ?_
        refine r_cs (cs2 := [(m, .inr (12, [.int 0, .ref mp, .int pt, .ref mf, .ref mh, .ref mn, .ref mt, .ref mz, .ref mc_, .ref mq, .ref mgr, .int cl, .int wa, .int co_, .int fi, .int bu, .int ho, .ref ml, .ref mi, .ref mr, .int lh, .int mg, .int wd, .int fpi, .int fal, .ref mm, .ref mu, .ref mk, .ref mx, .long po, .long de])), (mp, .inl (1, 108, .inl ((prow kd (12 * (y + i) + x) (prect kd x y u (f, 0) i) (j + 1)).1)))]) (by first | (rw [prow_f c_118] <;> rfl) | (rw [prow_t (Classical.not_not.mp c_118), z_updk (Classical.not_not.mp c_118)] <;> rfl) | (rw [prow_t c_118, z_updk c_118] <;> rfl)) ?_
        exact ih (j + 1) (by omega) (by omega)
set_option maxHeartbeats 4000000 in
set_option maxRecDepth 100000 in
theorem L_Mm_drawN_81 (g : zG) (m mp mf mh mn mt mz mc_ mq mgr ml mi mr mm mu mk mx : Nat) (th pt cl wa co_ fi bu ho lh mg wd fpi fal : Int32) (po de : Int64) (f : Nat → Int32) (kd : Int32) (hk : z_kind kd) (hki : 0 ≤ z_ix 0 kd) (x y u v : Nat) (hx : x + u ≤ 12) (hy : y + v ≤ 9) (hu : 1 ≤ u) (hv : 1 ≤ v) (w0 : zW) (n : Nat) : ∀ (d i : Nat), i ≤ v → v < i + d → DV g M_Mm_draw (fun o cs1 => o = .inl (some (.int (nI (prect kd x y u (f, 0) v).2))) ∧ cs1 = [(m, .inr (12, [.int 0, .ref mp, .int pt, .ref mf, .ref mh, .ref mn, .ref mt, .ref mz, .ref mc_, .ref mq, .ref mgr, .int cl, .int wa, .int co_, .int fi, .int bu, .int ho, .ref ml, .ref mi, .ref mr, .int lh, .int mg, .int wd, .int fpi, .int fal, .ref mm, .ref mu, .ref mk, .ref mx, .long po, .long de])), (mp, .inl (1, 108, .inl ((prect kd x y u (f, 0) v).1)))]) w0 n 81 [(8, .int (nI (y + i))), (7, .int (nI (prect kd x y u (f, 0) i).2)), (5, .int (nI v)), (4, .int (nI u)), (3, .int (nI y)), (2, .int (nI x)), (1, .int kd), (0, .ref m)] [] [(m, .inr (12, [.int 0, .ref mp, .int pt, .ref mf, .ref mh, .ref mn, .ref mt, .ref mz, .ref mc_, .ref mq, .ref mgr, .int cl, .int wa, .int co_, .int fi, .int bu, .int ho, .ref ml, .ref mi, .ref mr, .int lh, .int mg, .int wd, .int fpi, .int fal, .ref mm, .ref mu, .ref mk, .ref mx, .long po, .long de])), (mp, .inl (1, 108, .inl ((prect kd x y u (f, 0) i).1)))] 0 0 := by
  intro d
  induction d with
  | zero => intro i h1 h2 ; exact absurd h2 (by omega)
  | succ d ih =>
    intro i h1 h2 
    refine r_iload d_Mm_draw_81 0 rfl ?_
    refine r_iload_n d_Mm_draw_83 rfl 4 rfl ?_
    refine r_iload d_Mm_draw_84 2 rfl ?_
    refine r_iadd d_Mm_draw_86 (v := nI (y + v)) (nI_add _ _) ?_
    refine r_icmp_ge (tgt := 155) d_Mm_draw_87 (by decide) (fun c_87 => ?_) (fun c_87 => ?_)
    · have hn := z_le (a := y + v) (by omega) (by omega) c_87
      have hv9 : i = v := by omega
      subst hv9
      refine r_iload d_Mm_draw_155 1 rfl ?_
      refine r_iret d_Mm_draw_157 rfl rfl ?_
      exact ⟨rfl, rfl⟩
    · have hn := z_nle (a := y + v) (by omega) (by omega) c_87
      refine r_iload_n d_Mm_draw_90 rfl 5 rfl ?_
      refine r_istore (lv' := [(9, .int (nI x)), (8, .int (nI (y + i))), (7, .int (nI (prect kd x y u (f, 0) i).2)), (5, .int (nI v)), (4, .int (nI u)), (3, .int (nI y)), (2, .int (nI x)), (1, .int kd), (0, .ref m)]) d_Mm_draw_91 (by decide) rfl ?_
      refine r_lvE (lv2 := [(9, .int (nI (x + 0))), (8, .int (nI (y + i))), (7, .int (nI (prow kd (12 * (y + i) + x) (prect kd x y u (f, 0) i) 0).2)), (5, .int (nI v)), (4, .int (nI u)), (3, .int (nI y)), (2, .int (nI x)), (1, .int kd), (0, .ref m)]) (rfl) ?_
      refine r_cs (cs2 := [(m, .inr (12, [.int 0, .ref mp, .int pt, .ref mf, .ref mh, .ref mn, .ref mt, .ref mz, .ref mc_, .ref mq, .ref mgr, .int cl, .int wa, .int co_, .int fi, .int bu, .int ho, .ref ml, .ref mi, .ref mr, .int lh, .int mg, .int wd, .int fpi, .int fal, .ref mm, .ref mu, .ref mk, .ref mx, .long po, .long de])), (mp, .inl (1, 108, .inl ((prow kd (12 * (y + i) + x) (prect kd x y u (f, 0) i) 0).1)))]) (rfl) ?_
      refine L_Mm_drawN_93 g m mp mf mh mn mt mz mc_ mq mgr ml mi mr mm mu mk mx th pt cl wa co_ fi bu ho lh mg wd fpi fal po de f kd hk hki x y u v hx hy hu hv w0 _ i (by omega) (?_) (u + 1) 0 (Nat.zero_le _) (by omega)
      refine r_iinc (lv' := [(8, .int (nI ((y + i) + 1))), (9, .int (nI (x + u))), (7, .int (nI (prow kd (12 * (y + i) + x) (prect kd x y u (f, 0) i) u).2)), (5, .int (nI v)), (4, .int (nI u)), (3, .int (nI y)), (2, .int (nI x)), (1, .int kd), (0, .ref m)]) (v := nI ((y + i) + 1)) d_Mm_draw_149 (j := 1) rfl (nI_add _ _) (by decide) rfl ?_
      refine r_goto (tgt := 81) d_Mm_draw_152 (by decide) ?_
      refine r_lv (lv' := [(8, .int (nI ((y + i) + 1))), (7, .int (nI (prow kd (12 * (y + i) + x) (prect kd x y u (f, 0) i) u).2)), (5, .int (nI v)), (4, .int (nI u)), (3, .int (nI y)), (2, .int (nI x)), (1, .int kd), (0, .ref m)]) [0, 2, 3, 4, 5, 6, 7, 8] rfl ?_
      refine r_lvE (lv2 := [(8, .int (nI (y + (i + 1)))), (7, .int (nI (prect kd x y u (f, 0) (i + 1)).2)), (5, .int (nI v)), (4, .int (nI u)), (3, .int (nI y)), (2, .int (nI x)), (1, .int kd), (0, .ref m)]) (rfl) ?_
      refine r_cs (cs2 := [(m, .inr (12, [.int 0, .ref mp, .int pt, .ref mf, .ref mh, .ref mn, .ref mt, .ref mz, .ref mc_, .ref mq, .ref mgr, .int cl, .int wa, .int co_, .int fi, .int bu, .int ho, .ref ml, .ref mi, .ref mr, .int lh, .int mg, .int wd, .int fpi, .int fal, .ref mm, .ref mu, .ref mk, .ref mx, .long po, .long de])), (mp, .inl (1, 108, .inl ((prect kd x y u (f, 0) (i + 1)).1)))]) (rfl) ?_
      exact ih (i + 1) (by omega) (by omega)
set_option maxHeartbeats 4000000 in
set_option maxRecDepth 100000 in
theorem C_Mm_drawN (g : zG) (m mp mf mh mn mt mz mc_ mq mgr ml mi mr mm mu mk mx : Nat) (th pt cl wa co_ fi bu ho lh mg wd fpi fal : Int32) (po de : Int64) (f : Nat → Int32) (kd : Int32) (hk : z_kind kd) (hki : 0 ≤ z_ix 0 kd) (x y u v : Nat) (hx : x + u ≤ 12) (hy : y + v ≤ 9) (hu : 1 ≤ u) (hv : 1 ≤ v) : CT g M_Mm_draw [.ref m, .int kd, .int (nI x), .int (nI y), .int (nI u), .int (nI v)] [(m, .inr (12, [.int th, .ref mp, .int pt, .ref mf, .ref mh, .ref mn, .ref mt, .ref mz, .ref mc_, .ref mq, .ref mgr, .int cl, .int wa, .int co_, .int fi, .int bu, .int ho, .ref ml, .ref mi, .ref mr, .int lh, .int mg, .int wd, .int fpi, .int fal, .ref mm, .ref mu, .ref mk, .ref mx, .long po, .long de])), (mp, .inl (1, 108, .inl f))] (fun o cs1 => o = .inl (some (.int (nI (prect kd x y u (f, 0) v).2))) ∧ cs1 = [(m, .inr (12, [.int 0, .ref mp, .int pt, .ref mf, .ref mh, .ref mn, .ref mt, .ref mz, .ref mc_, .ref mq, .ref mgr, .int cl, .int wa, .int co_, .int fi, .int bu, .int ho, .ref ml, .ref mi, .ref mr, .int lh, .int mg, .int wd, .int fpi, .int fal, .ref mm, .ref mu, .ref mk, .ref mx, .long po, .long de])), (mp, .inl (1, 108, .inl ((prect kd x y u (f, 0) v).1)))]) 0 0 := by
  refine z_of (by decide) rfl (Nat.le_of_ble_eq_true rfl) (fun w0 => ?_)
  refine r_lvE (lv2 := [(0, .ref m), (1, .int kd), (2, .int (nI x)), (3, .int (nI y)), (4, .int (nI u)), (5, .int (nI v))]) rfl ?_
  refine r_aload_n d_Mm_draw_0 rfl 0 rfl ?_
  refine r_iconst d_Mm_draw_1 (v := 0) (by decide) ?_
  refine r_put fp_Mm_84 d_Mm_draw_2 (fun h => nomatch h) rfl rfl (q0 := 0) rfl (Nat.le_of_ble_eq_true rfl) (cs' := [(m, .inr (12, [.int 0, .ref mp, .int pt, .ref mf, .ref mh, .ref mn, .ref mt, .ref mz, .ref mc_, .ref mq, .ref mgr, .int cl, .int wa, .int co_, .int fi, .int bu, .int ho, .ref ml, .ref mi, .ref mr, .int lh, .int mg, .int wd, .int fpi, .int fal, .ref mm, .ref mu, .ref mk, .ref mx, .long po, .long de])), (mp, .inl (1, 108, .inl f))]) rfl ?_
  refine r_iload_n d_Mm_draw_5 rfl 2 rfl ?_
  refine r_iload_n d_Mm_draw_6 rfl 3 rfl ?_
  refine r_callS (As := [.int (nI x), .int (nI y)]) (rest := []) (csC := []) (is := []) ln_Mm_91 w_st_Mm_isCell ok_Mm_draw_Mm_isCell d_Mm_draw_7 (C_Mm_isCell g (nI x) (nI y)) rfl rfl (Nat.le_of_ble_eq_true rfl) rfl (by decide) (by omega) (by omega) (fun E cs1 hx => ?_) (fun v cs1 hx => ?_)
  · exact absurd hx.1 (by simp)
  · obtain ⟨e1, rfl⟩ := hx
    rw [if_pos (z_cellN (by omega) (by omega))] at e1
    cases e1
    refine ⟨rfl, ?_⟩
    refine r_st (st2 := [.int 1]) rfl ?_
    refine r_cs (cs2 := [(m, .inr (12, [.int 0, .ref mp, .int pt, .ref mf, .ref mh, .ref mn, .ref mt, .ref mz, .ref mc_, .ref mq, .ref mgr, .int cl, .int wa, .int co_, .int fi, .int bu, .int ho, .ref ml, .ref mi, .ref mr, .int lh, .int mg, .int wd, .int fpi, .int fal, .ref mm, .ref mu, .ref mk, .ref mx, .long po, .long de])), (mp, .inl (1, 108, .inl f))]) rfl ?_
    refine r_if_eq (tgt := 43) d_Mm_draw_10 (by decide) (fun c_10 => ?_) (fun c_10 => ?_)
    · exact absurd c_10 (by decide)
    · refine r_iload d_Mm_draw_13 4 rfl ?_
      refine r_iconst d_Mm_draw_15 (v := 1) (by decide) ?_
      refine r_bipush d_Mm_draw_16 (v := 12) (by decide) ?_
      refine r_iload_n d_Mm_draw_18 rfl 2 rfl ?_
      refine r_isub d_Mm_draw_19 (v := nI (12 - x)) (pk_sub (a := 12) (by omega)) ?_
      refine r_callS (As := [.int (nI u), .int 1, .int (nI (12 - x))]) (rest := []) (csC := []) (is := []) ln_Mm_87 w_st_Mm_in ok_Mm_draw_Mm_in d_Mm_draw_20 (C_Mm_in g (nI u) 1 (nI (12 - x))) rfl rfl (Nat.le_of_ble_eq_true rfl) rfl (by decide) (by omega) (by omega) (fun E cs1 hx => ?_) (fun v cs1 hx => ?_)
      · exact absurd hx.1 (by simp)
      · obtain ⟨e1, rfl⟩ := hx
        rw [if_pos ⟨(nI_leI (a := 1) (by decide) (by omega)).mpr (by omega), (nI_leI (by omega) (by omega)).mpr (by omega)⟩] at e1
        cases e1
        refine ⟨rfl, ?_⟩
        refine r_st (st2 := [.int 1]) rfl ?_
        refine r_cs (cs2 := [(m, .inr (12, [.int 0, .ref mp, .int pt, .ref mf, .ref mh, .ref mn, .ref mt, .ref mz, .ref mc_, .ref mq, .ref mgr, .int cl, .int wa, .int co_, .int fi, .int bu, .int ho, .ref ml, .ref mi, .ref mr, .int lh, .int mg, .int wd, .int fpi, .int fal, .ref mm, .ref mu, .ref mk, .ref mx, .long po, .long de])), (mp, .inl (1, 108, .inl f))]) rfl ?_
        refine r_if_eq (tgt := 43) d_Mm_draw_23 (by decide) (fun c_23 => ?_) (fun c_23 => ?_)
        · exact absurd c_23 (by decide)
        · refine r_iload d_Mm_draw_26 5 rfl ?_
          refine r_iconst d_Mm_draw_28 (v := 1) (by decide) ?_
          refine r_bipush d_Mm_draw_29 (v := 9) (by decide) ?_
          refine r_iload_n d_Mm_draw_31 rfl 3 rfl ?_
          refine r_isub d_Mm_draw_32 (v := nI (9 - y)) (pk_sub (a := 9) (by omega)) ?_
          refine r_callS (As := [.int (nI v), .int 1, .int (nI (9 - y))]) (rest := []) (csC := []) (is := []) ln_Mm_87 w_st_Mm_in ok_Mm_draw_Mm_in d_Mm_draw_33 (C_Mm_in g (nI v) 1 (nI (9 - y))) rfl rfl (Nat.le_of_ble_eq_true rfl) rfl (by decide) (by omega) (by omega) (fun E cs1 hx => ?_) (fun v cs1 hx => ?_)
          · exact absurd hx.1 (by simp)
          · obtain ⟨e1, rfl⟩ := hx
            rw [if_pos ⟨(nI_leI (a := 1) (by decide) (by omega)).mpr (by omega), (nI_leI (by omega) (by omega)).mpr (by omega)⟩] at e1
            cases e1
            refine ⟨rfl, ?_⟩
            refine r_st (st2 := [.int 1]) rfl ?_
            refine r_cs (cs2 := [(m, .inr (12, [.int 0, .ref mp, .int pt, .ref mf, .ref mh, .ref mn, .ref mt, .ref mz, .ref mc_, .ref mq, .ref mgr, .int cl, .int wa, .int co_, .int fi, .int bu, .int ho, .ref ml, .ref mi, .ref mr, .int lh, .int mg, .int wd, .int fpi, .int fal, .ref mm, .ref mu, .ref mk, .ref mx, .long po, .long de])), (mp, .inl (1, 108, .inl f))]) rfl ?_
            refine r_if_eq (tgt := 43) d_Mm_draw_36 (by decide) (fun c_36 => ?_) (fun c_36 => ?_)
            · exact absurd c_36 (by decide)
            · refine r_iconst d_Mm_draw_39 (v := 1) (by decide) ?_
              refine r_goto (tgt := 44) d_Mm_draw_40 (by decide) ?_
              refine r_istore (lv' := [(6, .int 1), (0, .ref m), (1, .int kd), (2, .int (nI x)), (3, .int (nI y)), (4, .int (nI u)), (5, .int (nI v))]) d_Mm_draw_44 (by decide) rfl ?_
              refine r_aload_n d_Mm_draw_46 rfl 1 rfl ?_
              refine r_ldcS (own := "IronpourModel") (i := 0) (by decide) d_Mm_draw_47 ?_
              refine r_iload_n d_Mm_draw_49 rfl 2 rfl ?_
              refine r_callVS (As := [.int kd]) (rest := [.ref m]) (csC := []) (is := []) (i := 0) (by first | assumption | decide) rfl ln_Mm_97 w_im_String_indexOf_0 w_se_String_indexOf_0 ok_Mm_draw_String_indexOf_0 d_Mm_draw_50 (C_St_indexOf g 0 (by decide) kd) rfl rfl (Nat.le_of_ble_eq_true rfl) rfl (by decide) (by omega) (by omega) (fun E cs1 hx => ?_) (fun v cs1 hx => ?_)
              · exact absurd hx.1 (by simp)
              · obtain ⟨e1, rfl⟩ := hx
                cases e1
                refine ⟨rfl, ?_⟩
                refine r_st (st2 := [.int (z_ix 0 kd), .ref m]) rfl ?_
                refine r_cs (cs2 := [(m, .inr (12, [.int 0, .ref mp, .int pt, .ref mf, .ref mh, .ref mn, .ref mt, .ref mz, .ref mc_, .ref mq, .ref mgr, .int cl, .int wa, .int co_, .int fi, .int bu, .int ho, .ref ml, .ref mi, .ref mr, .int lh, .int mg, .int wd, .int fpi, .int fal, .ref mm, .ref mu, .ref mk, .ref mx, .long po, .long de])), (mp, .inl (1, 108, .inl f))]) rfl ?_
                refine r_if_lt (tgt := 61) d_Mm_draw_53 (by decide) (fun c_53 => ?_) (fun c_53 => ?_)
                · exact absurd hki (Int32.not_le.mpr c_53)
                · refine r_iload d_Mm_draw_56 0 rfl ?_
                  refine r_if_ne (tgt := 65) d_Mm_draw_58 (by decide) (fun c_58 => ?_) (fun c_58 => ?_)
                  · refine r_iconst d_Mm_draw_65 (v := 0) (by decide) ?_
                    refine r_iconst d_Mm_draw_66 (v := 1) (by decide) ?_
                    refine r_callV (As := [.int 0, .int 1]) (rest := []) (csC := [(m, .inr (12, [.int 0, .ref mp, .int pt, .ref mf, .ref mh, .ref mn, .ref mt, .ref mz, .ref mc_, .ref mq, .ref mgr, .int cl, .int wa, .int co_, .int fi, .int bu, .int ho, .ref ml, .ref mi, .ref mr, .int lh, .int mg, .int wd, .int fpi, .int fal, .ref mm, .ref mu, .ref mk, .ref mx, .long po, .long de]))]) (is := [0]) (q0 := 0) rfl rfl ln_Mm_103 w_im_Mm_fails w_se_Mm_fails ok_Mm_draw_Mm_fails d_Mm_draw_67 (C_Mm_fails0 g m mp mf mh mn mt mz mc_ mq mgr ml mi mr mm mu mk mx th pt cl wa co_ fi bu ho lh mg wd fpi fal po de 1) rfl rfl (Nat.le_of_ble_eq_true rfl) rfl (by decide) (by omega) (by omega) (fun E cs1 hx => ?_) (fun v cs1 hx => ?_)
                    · exact absurd hx.1 (by simp)
                    · obtain ⟨e1, rfl⟩ := hx
                      cases e1
                      refine ⟨rfl, ?_⟩
                      refine r_st (st2 := [.int 0]) rfl ?_
                      refine r_cs (cs2 := [(m, .inr (12, [.int 0, .ref mp, .int pt, .ref mf, .ref mh, .ref mn, .ref mt, .ref mz, .ref mc_, .ref mq, .ref mgr, .int cl, .int wa, .int co_, .int fi, .int bu, .int ho, .ref ml, .ref mi, .ref mr, .int lh, .int mg, .int wd, .int fpi, .int fal, .ref mm, .ref mu, .ref mk, .ref mx, .long po, .long de])), (mp, .inl (1, 108, .inl f))]) rfl ?_
                      refine r_if_eq (tgt := 75) d_Mm_draw_70 (by decide) (fun c_70 => ?_) (fun c_70 => ?_)
                      · refine r_iconst d_Mm_draw_75 (v := 0) (by decide) ?_
                        refine r_istore (lv' := [(7, .int 0), (6, .int 1), (0, .ref m), (1, .int kd), (2, .int (nI x)), (3, .int (nI y)), (4, .int (nI u)), (5, .int (nI v))]) d_Mm_draw_76 (by decide) rfl ?_
                        refine r_iload_n d_Mm_draw_78 rfl 5 rfl ?_
                        refine r_istore (lv' := [(8, .int (nI y)), (7, .int 0), (6, .int 1), (0, .ref m), (1, .int kd), (2, .int (nI x)), (3, .int (nI y)), (4, .int (nI u)), (5, .int (nI v))]) d_Mm_draw_79 (by decide) rfl ?_
                        refine r_lv (lv' := [(8, .int (nI y)), (7, .int 0), (5, .int (nI v)), (4, .int (nI u)), (3, .int (nI y)), (2, .int (nI x)), (1, .int kd), (0, .ref m)]) [0, 1, 8, 7, 6, 5, 4, 3] rfl ?_
                        refine r_lvE (lv2 := [(8, .int (nI (y + 0))), (7, .int (nI (prect kd x y u (f, 0) 0).2)), (5, .int (nI v)), (4, .int (nI u)), (3, .int (nI y)), (2, .int (nI x)), (1, .int kd), (0, .ref m)]) (rfl) ?_
                        refine r_cs (cs2 := [(m, .inr (12, [.int 0, .ref mp, .int pt, .ref mf, .ref mh, .ref mn, .ref mt, .ref mz, .ref mc_, .ref mq, .ref mgr, .int cl, .int wa, .int co_, .int fi, .int bu, .int ho, .ref ml, .ref mi, .ref mr, .int lh, .int mg, .int wd, .int fpi, .int fal, .ref mm, .ref mu, .ref mk, .ref mx, .long po, .long de])), (mp, .inl (1, 108, .inl ((prect kd x y u (f, 0) 0).1)))]) (rfl) ?_
                        exact L_Mm_drawN_81 g m mp mf mh mn mt mz mc_ mq mgr ml mi mr mm mu mk mx th pt cl wa co_ fi bu ho lh mg wd fpi fal po de f kd hk hki x y u v hx hy hu hv w0 _  (v + 1) 0 (Nat.zero_le _) (by omega)
                      · exact absurd c_70 (by decide)
                  · exact absurd c_58 (by decide)
abbrev M_Mm_undercutIn : zM := (⟨"IronpourModel", "undercutIn", "([CI)I"⟩, prog_14_method_11_code, 7, (Option.some FieldType.int), 2, 40, [])
theorem d_Mm_undercutIn_93 : decode prog_14_method_11_code 93 = .ok (.iload 5, 2) := zo_21 (d := 5) (zd_b zq_prog_14_method_11_code_2 29 rfl rfl rfl) (zd_b zq_prog_14_method_11_code_2 30 rfl rfl rfl)
theorem d_Mm_undercutIn_95 : decode prog_14_method_11_code 95 = .ok (.bipush 9, 2) := zo_16 (d := 9) (zd_b zq_prog_14_method_11_code_2 31 rfl rfl rfl) (zd_b zq_prog_14_method_11_code_3 0 rfl rfl rfl) (by decide +kernel)
theorem d_Mm_undercutIn_97 : decode prog_14_method_11_code 97 = .ok (.if_icmp .ge 67, 3) := zo_162 (d := 0) (e := 67) (zd_b zq_prog_14_method_11_code_3 1 rfl rfl rfl) (zd_b zq_prog_14_method_11_code_3 2 rfl rfl rfl) (zd_b zq_prog_14_method_11_code_3 3 rfl rfl rfl) (by decide +kernel)
theorem d_Mm_undercutIn_100 : decode prog_14_method_11_code 100 = .ok (.aload_n 0, 1) := zo_42 (zd_b zq_prog_14_method_11_code_3 4 rfl rfl rfl)
theorem d_Mm_undercutIn_101 : decode prog_14_method_11_code 101 = .ok (.bipush 12, 2) := zo_16 (d := 12) (zd_b zq_prog_14_method_11_code_3 5 rfl rfl rfl) (zd_b zq_prog_14_method_11_code_3 6 rfl rfl rfl) (by decide +kernel)
theorem d_Mm_undercutIn_103 : decode prog_14_method_11_code 103 = .ok (.iload 5, 2) := zo_21 (d := 5) (zd_b zq_prog_14_method_11_code_3 7 rfl rfl rfl) (zd_b zq_prog_14_method_11_code_3 8 rfl rfl rfl)
theorem d_Mm_undercutIn_105 : decode prog_14_method_11_code 105 = .ok (.imul, 1) := zo_104 (zd_b zq_prog_14_method_11_code_3 9 rfl rfl rfl)
theorem d_Mm_undercutIn_106 : decode prog_14_method_11_code 106 = .ok (.iload_n 3, 1) := zo_29 (zd_b zq_prog_14_method_11_code_3 10 rfl rfl rfl)
theorem d_Mm_undercutIn_107 : decode prog_14_method_11_code 107 = .ok (.iadd, 1) := zo_96 (zd_b zq_prog_14_method_11_code_3 11 rfl rfl rfl)
theorem d_Mm_undercutIn_108 : decode prog_14_method_11_code 108 = .ok (.caload, 1) := zo_52 (zd_b zq_prog_14_method_11_code_3 12 rfl rfl rfl)
theorem d_Mm_undercutIn_109 : decode prog_14_method_11_code 109 = .ok (.istore 6, 2) := zo_54 (d := 6) (zd_b zq_prog_14_method_11_code_3 13 rfl rfl rfl) (zd_b zq_prog_14_method_11_code_3 14 rfl rfl rfl)
theorem d_Mm_undercutIn_111 : decode prog_14_method_11_code 111 = .ok (.iload 4, 2) := zo_21 (d := 4) (zd_b zq_prog_14_method_11_code_3 15 rfl rfl rfl) (zd_b zq_prog_14_method_11_code_3 16 rfl rfl rfl)
theorem d_Mm_undercutIn_113 : decode prog_14_method_11_code 113 = .ok (.ifCond .eq 21, 3) := zo_153 (d := 0) (e := 21) (zd_b zq_prog_14_method_11_code_3 17 rfl rfl rfl) (zd_b zq_prog_14_method_11_code_3 18 rfl rfl rfl) (zd_b zq_prog_14_method_11_code_3 19 rfl rfl rfl) (by decide +kernel)
theorem d_Mm_undercutIn_134 : decode prog_14_method_11_code 134 = .ok (.iconst 0, 1) := zo_3 (zd_b zq_prog_14_method_11_code_4 6 rfl rfl rfl)
theorem d_Mm_undercutIn_135 : decode prog_14_method_11_code 135 = .ok (.istore 4, 2) := zo_54 (d := 4) (zd_b zq_prog_14_method_11_code_4 7 rfl rfl rfl) (zd_b zq_prog_14_method_11_code_4 8 rfl rfl rfl)
theorem d_Mm_undercutIn_137 : decode prog_14_method_11_code 137 = .ok (.iload_n 2, 1) := zo_28 (zd_b zq_prog_14_method_11_code_4 9 rfl rfl rfl)
theorem d_Mm_undercutIn_138 : decode prog_14_method_11_code 138 = .ok (.iload 4, 2) := zo_21 (d := 4) (zd_b zq_prog_14_method_11_code_4 10 rfl rfl rfl) (zd_b zq_prog_14_method_11_code_4 11 rfl rfl rfl)
theorem d_Mm_undercutIn_140 : decode prog_14_method_11_code 140 = .ok (.ifCond .ne 15, 3) := zo_154 (d := 0) (e := 15) (zd_b zq_prog_14_method_11_code_4 12 rfl rfl rfl) (zd_b zq_prog_14_method_11_code_4 13 rfl rfl rfl) (zd_b zq_prog_14_method_11_code_4 14 rfl rfl rfl) (by decide +kernel)
theorem d_Mm_undercutIn_143 : decode prog_14_method_11_code 143 = .ok (.iload 6, 2) := zo_21 (d := 6) (zd_b zq_prog_14_method_11_code_4 15 rfl rfl rfl) (zd_b zq_prog_14_method_11_code_4 16 rfl rfl rfl)
theorem d_Mm_undercutIn_145 : decode prog_14_method_11_code 145 = .ok (.invokestatic 107, 3) := zo_184 (d := 0) (e := 107) (zd_b zq_prog_14_method_11_code_4 17 rfl rfl rfl) (zd_b zq_prog_14_method_11_code_4 18 rfl rfl rfl) (zd_b zq_prog_14_method_11_code_4 19 rfl rfl rfl)
theorem ok_Mm_undercutIn_Mm_isMetal : z_ok M_Mm_undercutIn M_Mm_isMetal 1 := ⟨z_mj7 (i := 214) rfl (by decide +kernel), rfl, ⟨by decide +kernel, by decide +kernel, by decide +kernel⟩, ⟨by decide, by decide⟩, z_mj1 (i := 14) rfl (by decide +kernel), rfl⟩
theorem d_Mm_undercutIn_148 : decode prog_14_method_11_code 148 = .ok (.ifCond .eq 7, 3) := zo_153 (d := 0) (e := 7) (zd_b zq_prog_14_method_11_code_4 20 rfl rfl rfl) (zd_b zq_prog_14_method_11_code_4 21 rfl rfl rfl) (zd_b zq_prog_14_method_11_code_4 22 rfl rfl rfl) (by decide +kernel)
theorem d_Mm_undercutIn_155 : decode prog_14_method_11_code 155 = .ok (.iconst 0, 1) := zo_3 (zd_b zq_prog_14_method_11_code_4 27 rfl rfl rfl)
theorem d_Mm_undercutIn_156 : decode prog_14_method_11_code 156 = .ok (.iadd, 1) := zo_96 (zd_b zq_prog_14_method_11_code_4 28 rfl rfl rfl)
theorem d_Mm_undercutIn_157 : decode prog_14_method_11_code 157 = .ok (.istore_n 2, 1) := zo_61 (zd_b zq_prog_14_method_11_code_4 29 rfl rfl rfl)
theorem d_Mm_undercutIn_158 : decode prog_14_method_11_code 158 = .ok (.iinc 5 1, 3) := by decide +kernel
theorem d_Mm_undercutIn_161 : decode prog_14_method_11_code 161 = .ok (.goto (-68), 3) := zo_167 (d := 255) (e := 188) (zd_b zq_prog_14_method_11_code_5 1 rfl rfl rfl) (zd_b zq_prog_14_method_11_code_5 2 rfl rfl rfl) (zd_b zq_prog_14_method_11_code_5 3 rfl rfl rfl) (by decide +kernel)
theorem d_Mm_undercutIn_151 : decode prog_14_method_11_code 151 = .ok (.iconst 1, 1) := zo_4 (zd_b zq_prog_14_method_11_code_4 23 rfl rfl rfl)
theorem d_Mm_undercutIn_152 : decode prog_14_method_11_code 152 = .ok (.goto 4, 3) := zo_167 (d := 0) (e := 4) (zd_b zq_prog_14_method_11_code_4 24 rfl rfl rfl) (zd_b zq_prog_14_method_11_code_4 25 rfl rfl rfl) (zd_b zq_prog_14_method_11_code_4 26 rfl rfl rfl) (by decide +kernel)
theorem d_Mm_undercutIn_116 : decode prog_14_method_11_code 116 = .ok (.iload 6, 2) := zo_21 (d := 6) (zd_b zq_prog_14_method_11_code_3 20 rfl rfl rfl) (zd_b zq_prog_14_method_11_code_3 21 rfl rfl rfl)
theorem d_Mm_undercutIn_118 : decode prog_14_method_11_code 118 = .ok (.bipush 46, 2) := zo_16 (d := 46) (zd_b zq_prog_14_method_11_code_3 22 rfl rfl rfl) (zd_b zq_prog_14_method_11_code_3 23 rfl rfl rfl) (by decide +kernel)
theorem d_Mm_undercutIn_120 : decode prog_14_method_11_code 120 = .ok (.if_icmp .eq 14, 3) := zo_159 (d := 0) (e := 14) (zd_b zq_prog_14_method_11_code_3 24 rfl rfl rfl) (zd_b zq_prog_14_method_11_code_3 25 rfl rfl rfl) (zd_b zq_prog_14_method_11_code_3 26 rfl rfl rfl) (by decide +kernel)
theorem d_Mm_undercutIn_123 : decode prog_14_method_11_code 123 = .ok (.iload 6, 2) := zo_21 (d := 6) (zd_b zq_prog_14_method_11_code_3 27 rfl rfl rfl) (zd_b zq_prog_14_method_11_code_3 28 rfl rfl rfl)
theorem d_Mm_undercutIn_125 : decode prog_14_method_11_code 125 = .ok (.bipush 107, 2) := zo_16 (d := 107) (zd_b zq_prog_14_method_11_code_3 29 rfl rfl rfl) (zd_b zq_prog_14_method_11_code_3 30 rfl rfl rfl) (by decide +kernel)
theorem d_Mm_undercutIn_127 : decode prog_14_method_11_code 127 = .ok (.if_icmp .eq 7, 3) := zo_159 (d := 0) (e := 7) (zd_b zq_prog_14_method_11_code_3 31 rfl rfl rfl) (zd_b zq_prog_14_method_11_code_4 0 rfl rfl rfl) (zd_b zq_prog_14_method_11_code_4 1 rfl rfl rfl) (by decide +kernel)
theorem d_Mm_undercutIn_130 : decode prog_14_method_11_code 130 = .ok (.iconst 1, 1) := zo_4 (zd_b zq_prog_14_method_11_code_4 2 rfl rfl rfl)
theorem d_Mm_undercutIn_131 : decode prog_14_method_11_code 131 = .ok (.goto 4, 3) := zo_167 (d := 0) (e := 4) (zd_b zq_prog_14_method_11_code_4 3 rfl rfl rfl) (zd_b zq_prog_14_method_11_code_4 4 rfl rfl rfl) (zd_b zq_prog_14_method_11_code_4 5 rfl rfl rfl) (by decide +kernel)
theorem d_Mm_undercutIn_18 : decode prog_14_method_11_code 18 = .ok (.iload 5, 2) := zo_21 (d := 5) (zd_b zq_prog_14_method_11_code_0 18 rfl rfl rfl) (zd_b zq_prog_14_method_11_code_0 19 rfl rfl rfl)
theorem d_Mm_undercutIn_20 : decode prog_14_method_11_code 20 = .ok (.ifCond .lt 67, 3) := zo_155 (d := 0) (e := 67) (zd_b zq_prog_14_method_11_code_0 20 rfl rfl rfl) (zd_b zq_prog_14_method_11_code_0 21 rfl rfl rfl) (zd_b zq_prog_14_method_11_code_0 22 rfl rfl rfl) (by decide +kernel)
theorem d_Mm_undercutIn_23 : decode prog_14_method_11_code 23 = .ok (.aload_n 0, 1) := zo_42 (zd_b zq_prog_14_method_11_code_0 23 rfl rfl rfl)
theorem d_Mm_undercutIn_24 : decode prog_14_method_11_code 24 = .ok (.bipush 12, 2) := zo_16 (d := 12) (zd_b zq_prog_14_method_11_code_0 24 rfl rfl rfl) (zd_b zq_prog_14_method_11_code_0 25 rfl rfl rfl) (by decide +kernel)
theorem d_Mm_undercutIn_26 : decode prog_14_method_11_code 26 = .ok (.iload 5, 2) := zo_21 (d := 5) (zd_b zq_prog_14_method_11_code_0 26 rfl rfl rfl) (zd_b zq_prog_14_method_11_code_0 27 rfl rfl rfl)
theorem d_Mm_undercutIn_28 : decode prog_14_method_11_code 28 = .ok (.imul, 1) := zo_104 (zd_b zq_prog_14_method_11_code_0 28 rfl rfl rfl)
theorem d_Mm_undercutIn_29 : decode prog_14_method_11_code 29 = .ok (.iload_n 3, 1) := zo_29 (zd_b zq_prog_14_method_11_code_0 29 rfl rfl rfl)
theorem d_Mm_undercutIn_30 : decode prog_14_method_11_code 30 = .ok (.iadd, 1) := zo_96 (zd_b zq_prog_14_method_11_code_0 30 rfl rfl rfl)
theorem d_Mm_undercutIn_31 : decode prog_14_method_11_code 31 = .ok (.caload, 1) := zo_52 (zd_b zq_prog_14_method_11_code_0 31 rfl rfl rfl)
theorem d_Mm_undercutIn_32 : decode prog_14_method_11_code 32 = .ok (.istore 6, 2) := zo_54 (d := 6) (zd_b zq_prog_14_method_11_code_1 0 rfl rfl rfl) (zd_b zq_prog_14_method_11_code_1 1 rfl rfl rfl)
theorem d_Mm_undercutIn_34 : decode prog_14_method_11_code 34 = .ok (.iload 4, 2) := zo_21 (d := 4) (zd_b zq_prog_14_method_11_code_1 2 rfl rfl rfl) (zd_b zq_prog_14_method_11_code_1 3 rfl rfl rfl)
theorem d_Mm_undercutIn_36 : decode prog_14_method_11_code 36 = .ok (.ifCond .eq 21, 3) := zo_153 (d := 0) (e := 21) (zd_b zq_prog_14_method_11_code_1 4 rfl rfl rfl) (zd_b zq_prog_14_method_11_code_1 5 rfl rfl rfl) (zd_b zq_prog_14_method_11_code_1 6 rfl rfl rfl) (by decide +kernel)
theorem d_Mm_undercutIn_57 : decode prog_14_method_11_code 57 = .ok (.iconst 0, 1) := zo_3 (zd_b zq_prog_14_method_11_code_1 25 rfl rfl rfl)
theorem d_Mm_undercutIn_58 : decode prog_14_method_11_code 58 = .ok (.istore 4, 2) := zo_54 (d := 4) (zd_b zq_prog_14_method_11_code_1 26 rfl rfl rfl) (zd_b zq_prog_14_method_11_code_1 27 rfl rfl rfl)
theorem d_Mm_undercutIn_60 : decode prog_14_method_11_code 60 = .ok (.iload_n 2, 1) := zo_28 (zd_b zq_prog_14_method_11_code_1 28 rfl rfl rfl)
theorem d_Mm_undercutIn_61 : decode prog_14_method_11_code 61 = .ok (.iload 4, 2) := zo_21 (d := 4) (zd_b zq_prog_14_method_11_code_1 29 rfl rfl rfl) (zd_b zq_prog_14_method_11_code_1 30 rfl rfl rfl)
theorem d_Mm_undercutIn_63 : decode prog_14_method_11_code 63 = .ok (.ifCond .ne 15, 3) := zo_154 (d := 0) (e := 15) (zd_b zq_prog_14_method_11_code_1 31 rfl rfl rfl) (zd_b zq_prog_14_method_11_code_2 0 rfl rfl rfl) (zd_b zq_prog_14_method_11_code_2 1 rfl rfl rfl) (by decide +kernel)
theorem d_Mm_undercutIn_66 : decode prog_14_method_11_code 66 = .ok (.iload 6, 2) := zo_21 (d := 6) (zd_b zq_prog_14_method_11_code_2 2 rfl rfl rfl) (zd_b zq_prog_14_method_11_code_2 3 rfl rfl rfl)
theorem d_Mm_undercutIn_68 : decode prog_14_method_11_code 68 = .ok (.invokestatic 107, 3) := zo_184 (d := 0) (e := 107) (zd_b zq_prog_14_method_11_code_2 4 rfl rfl rfl) (zd_b zq_prog_14_method_11_code_2 5 rfl rfl rfl) (zd_b zq_prog_14_method_11_code_2 6 rfl rfl rfl)
theorem d_Mm_undercutIn_71 : decode prog_14_method_11_code 71 = .ok (.ifCond .eq 7, 3) := zo_153 (d := 0) (e := 7) (zd_b zq_prog_14_method_11_code_2 7 rfl rfl rfl) (zd_b zq_prog_14_method_11_code_2 8 rfl rfl rfl) (zd_b zq_prog_14_method_11_code_2 9 rfl rfl rfl) (by decide +kernel)
theorem d_Mm_undercutIn_78 : decode prog_14_method_11_code 78 = .ok (.iconst 0, 1) := zo_3 (zd_b zq_prog_14_method_11_code_2 14 rfl rfl rfl)
theorem d_Mm_undercutIn_79 : decode prog_14_method_11_code 79 = .ok (.iadd, 1) := zo_96 (zd_b zq_prog_14_method_11_code_2 15 rfl rfl rfl)
theorem d_Mm_undercutIn_80 : decode prog_14_method_11_code 80 = .ok (.istore_n 2, 1) := zo_61 (zd_b zq_prog_14_method_11_code_2 16 rfl rfl rfl)
theorem d_Mm_undercutIn_81 : decode prog_14_method_11_code 81 = .ok (.iinc 5 (-1), 3) := by decide +kernel
theorem d_Mm_undercutIn_84 : decode prog_14_method_11_code 84 = .ok (.goto (-66), 3) := zo_167 (d := 255) (e := 190) (zd_b zq_prog_14_method_11_code_2 20 rfl rfl rfl) (zd_b zq_prog_14_method_11_code_2 21 rfl rfl rfl) (zd_b zq_prog_14_method_11_code_2 22 rfl rfl rfl) (by decide +kernel)
theorem d_Mm_undercutIn_74 : decode prog_14_method_11_code 74 = .ok (.iconst 1, 1) := zo_4 (zd_b zq_prog_14_method_11_code_2 10 rfl rfl rfl)
theorem d_Mm_undercutIn_75 : decode prog_14_method_11_code 75 = .ok (.goto 4, 3) := zo_167 (d := 0) (e := 4) (zd_b zq_prog_14_method_11_code_2 11 rfl rfl rfl) (zd_b zq_prog_14_method_11_code_2 12 rfl rfl rfl) (zd_b zq_prog_14_method_11_code_2 13 rfl rfl rfl) (by decide +kernel)
theorem d_Mm_undercutIn_39 : decode prog_14_method_11_code 39 = .ok (.iload 6, 2) := zo_21 (d := 6) (zd_b zq_prog_14_method_11_code_1 7 rfl rfl rfl) (zd_b zq_prog_14_method_11_code_1 8 rfl rfl rfl)
theorem d_Mm_undercutIn_41 : decode prog_14_method_11_code 41 = .ok (.bipush 46, 2) := zo_16 (d := 46) (zd_b zq_prog_14_method_11_code_1 9 rfl rfl rfl) (zd_b zq_prog_14_method_11_code_1 10 rfl rfl rfl) (by decide +kernel)
theorem d_Mm_undercutIn_43 : decode prog_14_method_11_code 43 = .ok (.if_icmp .eq 14, 3) := zo_159 (d := 0) (e := 14) (zd_b zq_prog_14_method_11_code_1 11 rfl rfl rfl) (zd_b zq_prog_14_method_11_code_1 12 rfl rfl rfl) (zd_b zq_prog_14_method_11_code_1 13 rfl rfl rfl) (by decide +kernel)
theorem d_Mm_undercutIn_46 : decode prog_14_method_11_code 46 = .ok (.iload 6, 2) := zo_21 (d := 6) (zd_b zq_prog_14_method_11_code_1 14 rfl rfl rfl) (zd_b zq_prog_14_method_11_code_1 15 rfl rfl rfl)
theorem d_Mm_undercutIn_48 : decode prog_14_method_11_code 48 = .ok (.bipush 107, 2) := zo_16 (d := 107) (zd_b zq_prog_14_method_11_code_1 16 rfl rfl rfl) (zd_b zq_prog_14_method_11_code_1 17 rfl rfl rfl) (by decide +kernel)
theorem d_Mm_undercutIn_50 : decode prog_14_method_11_code 50 = .ok (.if_icmp .eq 7, 3) := zo_159 (d := 0) (e := 7) (zd_b zq_prog_14_method_11_code_1 18 rfl rfl rfl) (zd_b zq_prog_14_method_11_code_1 19 rfl rfl rfl) (zd_b zq_prog_14_method_11_code_1 20 rfl rfl rfl) (by decide +kernel)
theorem d_Mm_undercutIn_53 : decode prog_14_method_11_code 53 = .ok (.iconst 1, 1) := zo_4 (zd_b zq_prog_14_method_11_code_1 21 rfl rfl rfl)
theorem d_Mm_undercutIn_54 : decode prog_14_method_11_code 54 = .ok (.goto 4, 3) := zo_167 (d := 0) (e := 4) (zd_b zq_prog_14_method_11_code_1 22 rfl rfl rfl) (zd_b zq_prog_14_method_11_code_1 23 rfl rfl rfl) (zd_b zq_prog_14_method_11_code_1 24 rfl rfl rfl) (by decide +kernel)
theorem d_Mm_undercutIn_4 : decode prog_14_method_11_code 4 = .ok (.iload_n 3, 1) := zo_29 (zd_b zq_prog_14_method_11_code_0 4 rfl rfl rfl)
theorem d_Mm_undercutIn_5 : decode prog_14_method_11_code 5 = .ok (.bipush 12, 2) := zo_16 (d := 12) (zd_b zq_prog_14_method_11_code_0 5 rfl rfl rfl) (zd_b zq_prog_14_method_11_code_0 6 rfl rfl rfl) (by decide +kernel)
theorem d_Mm_undercutIn_7 : decode prog_14_method_11_code 7 = .ok (.if_icmp .ge 163, 3) := zo_162 (d := 0) (e := 163) (zd_b zq_prog_14_method_11_code_0 7 rfl rfl rfl) (zd_b zq_prog_14_method_11_code_0 8 rfl rfl rfl) (zd_b zq_prog_14_method_11_code_0 9 rfl rfl rfl) (by decide +kernel)
theorem d_Mm_undercutIn_170 : decode prog_14_method_11_code 170 = .ok (.iload_n 2, 1) := zo_28 (zd_b zq_prog_14_method_11_code_5 10 rfl rfl rfl)
theorem d_Mm_undercutIn_171 : decode prog_14_method_11_code 171 = .ok (.ireturn, 1) := zo_172 (zd_b zq_prog_14_method_11_code_5 11 rfl rfl rfl)
theorem d_Mm_undercutIn_10 : decode prog_14_method_11_code 10 = .ok (.iconst 1, 1) := zo_4 (zd_b zq_prog_14_method_11_code_0 10 rfl rfl rfl)
theorem d_Mm_undercutIn_11 : decode prog_14_method_11_code 11 = .ok (.istore 4, 2) := zo_54 (d := 4) (zd_b zq_prog_14_method_11_code_0 11 rfl rfl rfl) (zd_b zq_prog_14_method_11_code_0 12 rfl rfl rfl)
theorem d_Mm_undercutIn_13 : decode prog_14_method_11_code 13 = .ok (.iload_n 1, 1) := zo_27 (zd_b zq_prog_14_method_11_code_0 13 rfl rfl rfl)
theorem d_Mm_undercutIn_14 : decode prog_14_method_11_code 14 = .ok (.iconst 1, 1) := zo_4 (zd_b zq_prog_14_method_11_code_0 14 rfl rfl rfl)
theorem d_Mm_undercutIn_15 : decode prog_14_method_11_code 15 = .ok (.isub, 1) := zo_100 (zd_b zq_prog_14_method_11_code_0 15 rfl rfl rfl)
theorem d_Mm_undercutIn_16 : decode prog_14_method_11_code 16 = .ok (.istore 5, 2) := zo_54 (d := 5) (zd_b zq_prog_14_method_11_code_0 16 rfl rfl rfl) (zd_b zq_prog_14_method_11_code_0 17 rfl rfl rfl)
theorem d_Mm_undercutIn_87 : decode prog_14_method_11_code 87 = .ok (.iconst 1, 1) := zo_4 (zd_b zq_prog_14_method_11_code_2 23 rfl rfl rfl)
theorem d_Mm_undercutIn_88 : decode prog_14_method_11_code 88 = .ok (.istore 4, 2) := zo_54 (d := 4) (zd_b zq_prog_14_method_11_code_2 24 rfl rfl rfl) (zd_b zq_prog_14_method_11_code_2 25 rfl rfl rfl)
theorem d_Mm_undercutIn_90 : decode prog_14_method_11_code 90 = .ok (.iload_n 1, 1) := zo_27 (zd_b zq_prog_14_method_11_code_2 26 rfl rfl rfl)
theorem d_Mm_undercutIn_91 : decode prog_14_method_11_code 91 = .ok (.istore 5, 2) := zo_54 (d := 5) (zd_b zq_prog_14_method_11_code_2 27 rfl rfl rfl) (zd_b zq_prog_14_method_11_code_2 28 rfl rfl rfl)
theorem d_Mm_undercutIn_164 : decode prog_14_method_11_code 164 = .ok (.iinc 3 1, 3) := by decide +kernel
theorem d_Mm_undercutIn_167 : decode prog_14_method_11_code 167 = .ok (.goto (-163), 3) := zo_167 (d := 255) (e := 93) (zd_b zq_prog_14_method_11_code_5 7 rfl rfl rfl) (zd_b zq_prog_14_method_11_code_5 8 rfl rfl rfl) (zd_b zq_prog_14_method_11_code_5 9 rfl rfl rfl) (by decide +kernel)
theorem d_Mm_undercutIn_0 : decode prog_14_method_11_code 0 = .ok (.iconst 0, 1) := zo_3 (zd_b zq_prog_14_method_11_code_0 0 rfl rfl rfl)
theorem d_Mm_undercutIn_1 : decode prog_14_method_11_code 1 = .ok (.istore_n 2, 1) := zo_61 (zd_b zq_prog_14_method_11_code_0 1 rfl rfl rfl)
theorem d_Mm_undercutIn_2 : decode prog_14_method_11_code 2 = .ok (.iconst 0, 1) := zo_3 (zd_b zq_prog_14_method_11_code_0 2 rfl rfl rfl)
theorem d_Mm_undercutIn_3 : decode prog_14_method_11_code 3 = .ok (.istore_n 3, 1) := zo_62 (zd_b zq_prog_14_method_11_code_0 3 rfl rfl rfl)
set_option maxHeartbeats 4000000 in
set_option maxRecDepth 100000 in
theorem L_Mm_undercutIn_93 (g : zG) (b : Nat) (f : Nat → Int32) (p : Nat) (hp1 : 1 ≤ p) (hp : p < 9) (hf : z_ch f) (w0 : zW) (n : Nat) (x : Nat) (hx : x < 12) (K : DV g M_Mm_undercutIn (fun o cs1 => o = .inl (some (.int (nI (ucT f p 12)))) ∧ cs1 = [(b, .inl (1, 108, .inl f))]) w0 n 164 [(5, .int (nI (p + (9 - p)))), (4, .int ((ucS (fun k => f ((p + k) * 12 + x)) (9 - p)).1)), (3, .int (nI x)), (2, .int (nI (ucT f p x + (ucS (fun k => f ((p - 1 - k) * 12 + x)) p).2 + (ucS (fun k => f ((p + k) * 12 + x)) (9 - p)).2))), (0, .ref b), (1, .int (nI p))] [] [(b, .inl (1, 108, .inl f))] 0 0) : ∀ (d i : Nat), i ≤ (9 - p) → (9 - p) < i + d → DV g M_Mm_undercutIn (fun o cs1 => o = .inl (some (.int (nI (ucT f p 12)))) ∧ cs1 = [(b, .inl (1, 108, .inl f))]) w0 n 93 [(5, .int (nI (p + i))), (4, .int ((ucS (fun k => f ((p + k) * 12 + x)) i).1)), (3, .int (nI x)), (2, .int (nI (ucT f p x + (ucS (fun k => f ((p - 1 - k) * 12 + x)) p).2 + (ucS (fun k => f ((p + k) * 12 + x)) i).2))), (0, .ref b), (1, .int (nI p))] [] [(b, .inl (1, 108, .inl f))] 0 0 := by
  intro d
  induction d with
  | zero => intro i h1 h2 ; exact absurd h2 (by omega)
  | succ d ih =>
    intro i h1 h2 
    refine r_iload d_Mm_undercutIn_93 0 rfl ?_
    refine r_bipush d_Mm_undercutIn_95 (v := 9) (by decide) ?_
    refine r_icmp_ge (tgt := 164) d_Mm_undercutIn_97 (by decide) (fun c_97 => ?_) (fun c_97 => ?_)
    · have hn := z_le (a := 9) (by omega) (by decide) c_97
      have hv : i = 9 - p := by omega
      rw [hv]
      refine r_lv (lv' := [(5, .int (nI (p + (9 - p)))), (4, .int ((ucS (fun k => f ((p + k) * 12 + x)) (9 - p)).1)), (3, .int (nI x)), (2, .int (nI (ucT f p x + (ucS (fun k => f ((p - 1 - k) * 12 + x)) p).2 + (ucS (fun k => f ((p + k) * 12 + x)) (9 - p)).2))), (0, .ref b), (1, .int (nI p))]) [0, 1, 2, 3, 4, 5] rfl ?_
      exact K
    · have hn := z_nle (a := 9) (by omega) (by decide) c_97
      refine r_aload_n d_Mm_undercutIn_100 rfl 4 rfl ?_
      refine r_bipush d_Mm_undercutIn_101 (v := 12) (by decide) ?_
      refine r_iload d_Mm_undercutIn_103 0 rfl ?_
      refine r_imul d_Mm_undercutIn_105 (v := nI (12 * (p + i))) (pk_mul _ _) ?_
      refine r_iload_n d_Mm_undercutIn_106 rfl 2 rfl ?_
      refine r_iadd d_Mm_undercutIn_107 (v := nI ((p + i) * 12 + x)) (by rw [nI_add]; congr 1; omega) ?_
      refine r_cald d_Mm_undercutIn_108 (q0 := 0) rfl (vp_in_nI (by omega) (by omega)) (v := f ((p + i) * 12 + x)) (by rw [nI_clamp (by omega)]) ?_
      refine r_istore (lv' := [(6, .int (f ((p + i) * 12 + x))), (5, .int (nI (p + i))), (4, .int ((ucS (fun k => f ((p + k) * 12 + x)) i).1)), (3, .int (nI x)), (2, .int (nI (ucT f p x + (ucS (fun k => f ((p - 1 - k) * 12 + x)) p).2 + (ucS (fun k => f ((p + k) * 12 + x)) i).2))), (0, .ref b), (1, .int (nI p))]) d_Mm_undercutIn_109 (by decide) rfl ?_
      refine r_iload d_Mm_undercutIn_111 2 rfl ?_
      refine r_if_eq (tgt := 134) d_Mm_undercutIn_113 (by decide) (fun c_113 => ?_) (fun c_113 => ?_)
      · have hA : (ucS (fun k => f ((p + k) * 12 + x)) i).1 = 0 ∨ f ((p + i) * 12 + x) = 46 ∨ f ((p + i) * 12 + x) = 107 := Or.inl c_113
        refine r_iconst d_Mm_undercutIn_134 (v := 0) (by decide) ?_
        refine r_istore (lv' := [(4, .int 0), (6, .int (f ((p + i) * 12 + x))), (5, .int (nI (p + i))), (3, .int (nI x)), (2, .int (nI (ucT f p x + (ucS (fun k => f ((p - 1 - k) * 12 + x)) p).2 + (ucS (fun k => f ((p + k) * 12 + x)) i).2))), (0, .ref b), (1, .int (nI p))]) d_Mm_undercutIn_135 (by decide) rfl ?_
        refine r_iload_n d_Mm_undercutIn_137 rfl 4 rfl ?_
        refine r_iload d_Mm_undercutIn_138 0 rfl ?_
        refine r_if_ne (tgt := 155) d_Mm_undercutIn_140 (by decide) (fun c_140 => ?_) (fun c_140 => ?_)
        · exact absurd c_140 (by decide)
        · refine r_iload d_Mm_undercutIn_143 1 rfl ?_
          refine r_callS (As := [.int (f ((p + i) * 12 + x))]) (rest := [.int (nI (ucT f p x + (ucS (fun k => f ((p - 1 - k) * 12 + x)) p).2 + (ucS (fun k => f ((p + k) * 12 + x)) i).2))]) (csC := []) (is := []) ln_Mm_107 w_st_Mm_isMetal ok_Mm_undercutIn_Mm_isMetal d_Mm_undercutIn_145 (C_Mm_isMetal g (f ((p + i) * 12 + x))) rfl rfl (Nat.le_of_ble_eq_true rfl) rfl (by decide) (by omega) (by omega) (fun E cs1 hx => ?_) (fun v cs1 hx => ?_)
          · exact absurd hx.1 (by simp)
          · obtain ⟨e1, rfl⟩ := hx
            cases e1
            refine ⟨rfl, ?_⟩
            refine r_st (st2 := [.int (z_bi (tmB (f ((p + i) * 12 + x)))), .int (nI (ucT f p x + (ucS (fun k => f ((p - 1 - k) * 12 + x)) p).2 + (ucS (fun k => f ((p + k) * 12 + x)) i).2))]) rfl ?_
            refine r_cs (cs2 := [(b, .inl (1, 108, .inl f))]) rfl ?_
            refine r_if_eq (tgt := 155) d_Mm_undercutIn_148 (by decide) (fun c_148 => ?_) (fun c_148 => ?_)
            · have hk : ucS (fun k => f ((p + k) * 12 + x)) (i + 1) = (0, (ucS (fun k => f ((p + k) * 12 + x)) i).2 + 0) := by rw [ucR (ks := (fun k => f ((p + k) * 12 + x))) (hf _ (by omega)), if_pos hA, if_neg (fun q => by have := z_bi0 c_148; rw [q.2] at this; cases this)]
              refine r_iconst d_Mm_undercutIn_155 (v := 0) (by decide) ?_
              refine r_iadd d_Mm_undercutIn_156 (v := nI ((ucT f p x + (ucS (fun k => f ((p - 1 - k) * 12 + x)) p).2 + (ucS (fun k => f ((p + k) * 12 + x)) i).2) + 0)) (nI_add _ _) ?_
              refine r_istore_n (lv' := [(2, .int (nI ((ucT f p x + (ucS (fun k => f ((p - 1 - k) * 12 + x)) p).2 + (ucS (fun k => f ((p + k) * 12 + x)) i).2) + 0))), (4, .int 0), (6, .int (f ((p + i) * 12 + x))), (5, .int (nI (p + i))), (3, .int (nI x)), (0, .ref b), (1, .int (nI p))]) d_Mm_undercutIn_157 rfl (by decide) rfl ?_
              refine r_iinc (lv' := [(5, .int (nI ((p + i) + 1))), (2, .int (nI ((ucT f p x + (ucS (fun k => f ((p - 1 - k) * 12 + x)) p).2 + (ucS (fun k => f ((p + k) * 12 + x)) i).2) + 0))), (4, .int 0), (6, .int (f ((p + i) * 12 + x))), (3, .int (nI x)), (0, .ref b), (1, .int (nI p))]) (v := nI ((p + i) + 1)) d_Mm_undercutIn_158 (j := 3) rfl (nI_add _ _) (by decide) rfl ?_
              refine r_goto (tgt := 93) d_Mm_undercutIn_161 (by decide) ?_
              refine r_lv (lv' := [(5, .int (nI ((p + i) + 1))), (4, .int 0), (3, .int (nI x)), (2, .int (nI ((ucT f p x + (ucS (fun k => f ((p - 1 - k) * 12 + x)) p).2 + (ucS (fun k => f ((p + k) * 12 + x)) i).2) + 0))), (0, .ref b), (1, .int (nI p))]) [0, 2, 4, 1, 5, 6] rfl ?_
              refine r_lvE (lv2 := [(5, .int (nI (p + (i + 1)))), (4, .int ((ucS (fun k => f ((p + k) * 12 + x)) (i + 1)).1)), (3, .int (nI x)), (2, .int (nI (ucT f p x + (ucS (fun k => f ((p - 1 - k) * 12 + x)) p).2 + (ucS (fun k => f ((p + k) * 12 + x)) (i + 1)).2))), (0, .ref b), (1, .int (nI p))]) (by rw [hk] <;> rfl) ?_
              refine r_cs (cs2 := [(b, .inl (1, 108, .inl f))]) (rfl) ?_
              exact ih (i + 1) (by omega) (by omega)
            · have hk : ucS (fun k => f ((p + k) * 12 + x)) (i + 1) = (0, (ucS (fun k => f ((p + k) * 12 + x)) i).2 + 1) := by rw [ucR (ks := (fun k => f ((p + k) * 12 + x))) (hf _ (by omega)), if_pos hA, if_pos ⟨hA, z_bi1 c_148⟩]
              refine r_iconst d_Mm_undercutIn_151 (v := 1) (by decide) ?_
              refine r_goto (tgt := 156) d_Mm_undercutIn_152 (by decide) ?_
              refine r_iadd d_Mm_undercutIn_156 (v := nI ((ucT f p x + (ucS (fun k => f ((p - 1 - k) * 12 + x)) p).2 + (ucS (fun k => f ((p + k) * 12 + x)) i).2) + 1)) (nI_add _ _) ?_
              refine r_istore_n (lv' := [(2, .int (nI ((ucT f p x + (ucS (fun k => f ((p - 1 - k) * 12 + x)) p).2 + (ucS (fun k => f ((p + k) * 12 + x)) i).2) + 1))), (4, .int 0), (6, .int (f ((p + i) * 12 + x))), (5, .int (nI (p + i))), (3, .int (nI x)), (0, .ref b), (1, .int (nI p))]) d_Mm_undercutIn_157 rfl (by decide) rfl ?_
              refine r_iinc (lv' := [(5, .int (nI ((p + i) + 1))), (2, .int (nI ((ucT f p x + (ucS (fun k => f ((p - 1 - k) * 12 + x)) p).2 + (ucS (fun k => f ((p + k) * 12 + x)) i).2) + 1))), (4, .int 0), (6, .int (f ((p + i) * 12 + x))), (3, .int (nI x)), (0, .ref b), (1, .int (nI p))]) (v := nI ((p + i) + 1)) d_Mm_undercutIn_158 (j := 3) rfl (nI_add _ _) (by decide) rfl ?_
              refine r_goto (tgt := 93) d_Mm_undercutIn_161 (by decide) ?_
              refine r_lv (lv' := [(5, .int (nI ((p + i) + 1))), (4, .int 0), (3, .int (nI x)), (2, .int (nI ((ucT f p x + (ucS (fun k => f ((p - 1 - k) * 12 + x)) p).2 + (ucS (fun k => f ((p + k) * 12 + x)) i).2) + 1))), (0, .ref b), (1, .int (nI p))]) [0, 2, 4, 1, 5, 6] rfl ?_
              refine r_lvE (lv2 := [(5, .int (nI (p + (i + 1)))), (4, .int ((ucS (fun k => f ((p + k) * 12 + x)) (i + 1)).1)), (3, .int (nI x)), (2, .int (nI (ucT f p x + (ucS (fun k => f ((p - 1 - k) * 12 + x)) p).2 + (ucS (fun k => f ((p + k) * 12 + x)) (i + 1)).2))), (0, .ref b), (1, .int (nI p))]) (by rw [hk] <;> rfl) ?_
              refine r_cs (cs2 := [(b, .inl (1, 108, .inl f))]) (rfl) ?_
              exact ih (i + 1) (by omega) (by omega)
      · refine r_iload d_Mm_undercutIn_116 0 rfl ?_
        refine r_bipush d_Mm_undercutIn_118 (v := 46) (by decide) ?_
        refine r_icmp_eq (tgt := 134) d_Mm_undercutIn_120 (by decide) (fun c_120 => ?_) (fun c_120 => ?_)
        · have hA : (ucS (fun k => f ((p + k) * 12 + x)) i).1 = 0 ∨ f ((p + i) * 12 + x) = 46 ∨ f ((p + i) * 12 + x) = 107 := Or.inr (Or.inl c_120)
          refine r_iconst d_Mm_undercutIn_134 (v := 0) (by decide) ?_
          refine r_istore (lv' := [(4, .int 0), (6, .int (f ((p + i) * 12 + x))), (5, .int (nI (p + i))), (3, .int (nI x)), (2, .int (nI (ucT f p x + (ucS (fun k => f ((p - 1 - k) * 12 + x)) p).2 + (ucS (fun k => f ((p + k) * 12 + x)) i).2))), (0, .ref b), (1, .int (nI p))]) d_Mm_undercutIn_135 (by decide) rfl ?_
          refine r_iload_n d_Mm_undercutIn_137 rfl 4 rfl ?_
          refine r_iload d_Mm_undercutIn_138 0 rfl ?_
          refine r_if_ne (tgt := 155) d_Mm_undercutIn_140 (by decide) (fun c_140 => ?_) (fun c_140 => ?_)
          · exact absurd c_140 (by decide)
          · refine r_iload d_Mm_undercutIn_143 1 rfl ?_
            refine r_callS (As := [.int (f ((p + i) * 12 + x))]) (rest := [.int (nI (ucT f p x + (ucS (fun k => f ((p - 1 - k) * 12 + x)) p).2 + (ucS (fun k => f ((p + k) * 12 + x)) i).2))]) (csC := []) (is := []) ln_Mm_107 w_st_Mm_isMetal ok_Mm_undercutIn_Mm_isMetal d_Mm_undercutIn_145 (C_Mm_isMetal g (f ((p + i) * 12 + x))) rfl rfl (Nat.le_of_ble_eq_true rfl) rfl (by decide) (by omega) (by omega) (fun E cs1 hx => ?_) (fun v cs1 hx => ?_)
            · exact absurd hx.1 (by simp)
            · obtain ⟨e1, rfl⟩ := hx
              cases e1
              refine ⟨rfl, ?_⟩
              refine r_st (st2 := [.int (z_bi (tmB (f ((p + i) * 12 + x)))), .int (nI (ucT f p x + (ucS (fun k => f ((p - 1 - k) * 12 + x)) p).2 + (ucS (fun k => f ((p + k) * 12 + x)) i).2))]) rfl ?_
              refine r_cs (cs2 := [(b, .inl (1, 108, .inl f))]) rfl ?_
              refine r_if_eq (tgt := 155) d_Mm_undercutIn_148 (by decide) (fun c_148 => ?_) (fun c_148 => ?_)
              · have hk : ucS (fun k => f ((p + k) * 12 + x)) (i + 1) = (0, (ucS (fun k => f ((p + k) * 12 + x)) i).2 + 0) := by rw [ucR (ks := (fun k => f ((p + k) * 12 + x))) (hf _ (by omega)), if_pos hA, if_neg (fun q => by have := z_bi0 c_148; rw [q.2] at this; cases this)]
                refine r_iconst d_Mm_undercutIn_155 (v := 0) (by decide) ?_
                refine r_iadd d_Mm_undercutIn_156 (v := nI ((ucT f p x + (ucS (fun k => f ((p - 1 - k) * 12 + x)) p).2 + (ucS (fun k => f ((p + k) * 12 + x)) i).2) + 0)) (nI_add _ _) ?_
                refine r_istore_n (lv' := [(2, .int (nI ((ucT f p x + (ucS (fun k => f ((p - 1 - k) * 12 + x)) p).2 + (ucS (fun k => f ((p + k) * 12 + x)) i).2) + 0))), (4, .int 0), (6, .int (f ((p + i) * 12 + x))), (5, .int (nI (p + i))), (3, .int (nI x)), (0, .ref b), (1, .int (nI p))]) d_Mm_undercutIn_157 rfl (by decide) rfl ?_
                refine r_iinc (lv' := [(5, .int (nI ((p + i) + 1))), (2, .int (nI ((ucT f p x + (ucS (fun k => f ((p - 1 - k) * 12 + x)) p).2 + (ucS (fun k => f ((p + k) * 12 + x)) i).2) + 0))), (4, .int 0), (6, .int (f ((p + i) * 12 + x))), (3, .int (nI x)), (0, .ref b), (1, .int (nI p))]) (v := nI ((p + i) + 1)) d_Mm_undercutIn_158 (j := 3) rfl (nI_add _ _) (by decide) rfl ?_
                refine r_goto (tgt := 93) d_Mm_undercutIn_161 (by decide) ?_
                refine r_lv (lv' := [(5, .int (nI ((p + i) + 1))), (4, .int 0), (3, .int (nI x)), (2, .int (nI ((ucT f p x + (ucS (fun k => f ((p - 1 - k) * 12 + x)) p).2 + (ucS (fun k => f ((p + k) * 12 + x)) i).2) + 0))), (0, .ref b), (1, .int (nI p))]) [0, 2, 4, 1, 5, 6] rfl ?_
                refine r_lvE (lv2 := [(5, .int (nI (p + (i + 1)))), (4, .int ((ucS (fun k => f ((p + k) * 12 + x)) (i + 1)).1)), (3, .int (nI x)), (2, .int (nI (ucT f p x + (ucS (fun k => f ((p - 1 - k) * 12 + x)) p).2 + (ucS (fun k => f ((p + k) * 12 + x)) (i + 1)).2))), (0, .ref b), (1, .int (nI p))]) (by rw [hk] <;> rfl) ?_
                refine r_cs (cs2 := [(b, .inl (1, 108, .inl f))]) (rfl) ?_
                exact ih (i + 1) (by omega) (by omega)
              · have hk : ucS (fun k => f ((p + k) * 12 + x)) (i + 1) = (0, (ucS (fun k => f ((p + k) * 12 + x)) i).2 + 1) := by rw [ucR (ks := (fun k => f ((p + k) * 12 + x))) (hf _ (by omega)), if_pos hA, if_pos ⟨hA, z_bi1 c_148⟩]
                refine r_iconst d_Mm_undercutIn_151 (v := 1) (by decide) ?_
                refine r_goto (tgt := 156) d_Mm_undercutIn_152 (by decide) ?_
                refine r_iadd d_Mm_undercutIn_156 (v := nI ((ucT f p x + (ucS (fun k => f ((p - 1 - k) * 12 + x)) p).2 + (ucS (fun k => f ((p + k) * 12 + x)) i).2) + 1)) (nI_add _ _) ?_
                refine r_istore_n (lv' := [(2, .int (nI ((ucT f p x + (ucS (fun k => f ((p - 1 - k) * 12 + x)) p).2 + (ucS (fun k => f ((p + k) * 12 + x)) i).2) + 1))), (4, .int 0), (6, .int (f ((p + i) * 12 + x))), (5, .int (nI (p + i))), (3, .int (nI x)), (0, .ref b), (1, .int (nI p))]) d_Mm_undercutIn_157 rfl (by decide) rfl ?_
                refine r_iinc (lv' := [(5, .int (nI ((p + i) + 1))), (2, .int (nI ((ucT f p x + (ucS (fun k => f ((p - 1 - k) * 12 + x)) p).2 + (ucS (fun k => f ((p + k) * 12 + x)) i).2) + 1))), (4, .int 0), (6, .int (f ((p + i) * 12 + x))), (3, .int (nI x)), (0, .ref b), (1, .int (nI p))]) (v := nI ((p + i) + 1)) d_Mm_undercutIn_158 (j := 3) rfl (nI_add _ _) (by decide) rfl ?_
                refine r_goto (tgt := 93) d_Mm_undercutIn_161 (by decide) ?_
                refine r_lv (lv' := [(5, .int (nI ((p + i) + 1))), (4, .int 0), (3, .int (nI x)), (2, .int (nI ((ucT f p x + (ucS (fun k => f ((p - 1 - k) * 12 + x)) p).2 + (ucS (fun k => f ((p + k) * 12 + x)) i).2) + 1))), (0, .ref b), (1, .int (nI p))]) [0, 2, 4, 1, 5, 6] rfl ?_
                refine r_lvE (lv2 := [(5, .int (nI (p + (i + 1)))), (4, .int ((ucS (fun k => f ((p + k) * 12 + x)) (i + 1)).1)), (3, .int (nI x)), (2, .int (nI (ucT f p x + (ucS (fun k => f ((p - 1 - k) * 12 + x)) p).2 + (ucS (fun k => f ((p + k) * 12 + x)) (i + 1)).2))), (0, .ref b), (1, .int (nI p))]) (by rw [hk] <;> rfl) ?_
                refine r_cs (cs2 := [(b, .inl (1, 108, .inl f))]) (rfl) ?_
                exact ih (i + 1) (by omega) (by omega)
        · refine r_iload d_Mm_undercutIn_123 0 rfl ?_
          refine r_bipush d_Mm_undercutIn_125 (v := 107) (by decide) ?_
          refine r_icmp_eq (tgt := 134) d_Mm_undercutIn_127 (by decide) (fun c_127 => ?_) (fun c_127 => ?_)
          · have hA : (ucS (fun k => f ((p + k) * 12 + x)) i).1 = 0 ∨ f ((p + i) * 12 + x) = 46 ∨ f ((p + i) * 12 + x) = 107 := Or.inr (Or.inr c_127)
            refine r_iconst d_Mm_undercutIn_134 (v := 0) (by decide) ?_
            refine r_istore (lv' := [(4, .int 0), (6, .int (f ((p + i) * 12 + x))), (5, .int (nI (p + i))), (3, .int (nI x)), (2, .int (nI (ucT f p x + (ucS (fun k => f ((p - 1 - k) * 12 + x)) p).2 + (ucS (fun k => f ((p + k) * 12 + x)) i).2))), (0, .ref b), (1, .int (nI p))]) d_Mm_undercutIn_135 (by decide) rfl ?_
            refine r_iload_n d_Mm_undercutIn_137 rfl 4 rfl ?_
            refine r_iload d_Mm_undercutIn_138 0 rfl ?_
            refine r_if_ne (tgt := 155) d_Mm_undercutIn_140 (by decide) (fun c_140 => ?_) (fun c_140 => ?_)
            · exact absurd c_140 (by decide)
            · refine r_iload d_Mm_undercutIn_143 1 rfl ?_
              refine r_callS (As := [.int (f ((p + i) * 12 + x))]) (rest := [.int (nI (ucT f p x + (ucS (fun k => f ((p - 1 - k) * 12 + x)) p).2 + (ucS (fun k => f ((p + k) * 12 + x)) i).2))]) (csC := []) (is := []) ln_Mm_107 w_st_Mm_isMetal ok_Mm_undercutIn_Mm_isMetal d_Mm_undercutIn_145 (C_Mm_isMetal g (f ((p + i) * 12 + x))) rfl rfl (Nat.le_of_ble_eq_true rfl) rfl (by decide) (by omega) (by omega) (fun E cs1 hx => ?_) (fun v cs1 hx => ?_)
              · exact absurd hx.1 (by simp)
              · obtain ⟨e1, rfl⟩ := hx
                cases e1
                refine ⟨rfl, ?_⟩
                refine r_st (st2 := [.int (z_bi (tmB (f ((p + i) * 12 + x)))), .int (nI (ucT f p x + (ucS (fun k => f ((p - 1 - k) * 12 + x)) p).2 + (ucS (fun k => f ((p + k) * 12 + x)) i).2))]) rfl ?_
                refine r_cs (cs2 := [(b, .inl (1, 108, .inl f))]) rfl ?_
                refine r_if_eq (tgt := 155) d_Mm_undercutIn_148 (by decide) (fun c_148 => ?_) (fun c_148 => ?_)
                · have hk : ucS (fun k => f ((p + k) * 12 + x)) (i + 1) = (0, (ucS (fun k => f ((p + k) * 12 + x)) i).2 + 0) := by rw [ucR (ks := (fun k => f ((p + k) * 12 + x))) (hf _ (by omega)), if_pos hA, if_neg (fun q => by have := z_bi0 c_148; rw [q.2] at this; cases this)]
                  refine r_iconst d_Mm_undercutIn_155 (v := 0) (by decide) ?_
                  refine r_iadd d_Mm_undercutIn_156 (v := nI ((ucT f p x + (ucS (fun k => f ((p - 1 - k) * 12 + x)) p).2 + (ucS (fun k => f ((p + k) * 12 + x)) i).2) + 0)) (nI_add _ _) ?_
                  refine r_istore_n (lv' := [(2, .int (nI ((ucT f p x + (ucS (fun k => f ((p - 1 - k) * 12 + x)) p).2 + (ucS (fun k => f ((p + k) * 12 + x)) i).2) + 0))), (4, .int 0), (6, .int (f ((p + i) * 12 + x))), (5, .int (nI (p + i))), (3, .int (nI x)), (0, .ref b), (1, .int (nI p))]) d_Mm_undercutIn_157 rfl (by decide) rfl ?_
                  refine r_iinc (lv' := [(5, .int (nI ((p + i) + 1))), (2, .int (nI ((ucT f p x + (ucS (fun k => f ((p - 1 - k) * 12 + x)) p).2 + (ucS (fun k => f ((p + k) * 12 + x)) i).2) + 0))), (4, .int 0), (6, .int (f ((p + i) * 12 + x))), (3, .int (nI x)), (0, .ref b), (1, .int (nI p))]) (v := nI ((p + i) + 1)) d_Mm_undercutIn_158 (j := 3) rfl (nI_add _ _) (by decide) rfl ?_
                  refine r_goto (tgt := 93) d_Mm_undercutIn_161 (by decide) ?_
                  refine r_lv (lv' := [(5, .int (nI ((p + i) + 1))), (4, .int 0), (3, .int (nI x)), (2, .int (nI ((ucT f p x + (ucS (fun k => f ((p - 1 - k) * 12 + x)) p).2 + (ucS (fun k => f ((p + k) * 12 + x)) i).2) + 0))), (0, .ref b), (1, .int (nI p))]) [0, 2, 4, 1, 5, 6] rfl ?_
                  refine r_lvE (lv2 := [(5, .int (nI (p + (i + 1)))), (4, .int ((ucS (fun k => f ((p + k) * 12 + x)) (i + 1)).1)), (3, .int (nI x)), (2, .int (nI (ucT f p x + (ucS (fun k => f ((p - 1 - k) * 12 + x)) p).2 + (ucS (fun k => f ((p + k) * 12 + x)) (i + 1)).2))), (0, .ref b), (1, .int (nI p))]) (by rw [hk] <;> rfl) ?_
                  refine r_cs (cs2 := [(b, .inl (1, 108, .inl f))]) (rfl) ?_
                  exact ih (i + 1) (by omega) (by omega)
                · have hk : ucS (fun k => f ((p + k) * 12 + x)) (i + 1) = (0, (ucS (fun k => f ((p + k) * 12 + x)) i).2 + 1) := by rw [ucR (ks := (fun k => f ((p + k) * 12 + x))) (hf _ (by omega)), if_pos hA, if_pos ⟨hA, z_bi1 c_148⟩]
                  refine r_iconst d_Mm_undercutIn_151 (v := 1) (by decide) ?_
                  refine r_goto (tgt := 156) d_Mm_undercutIn_152 (by decide) ?_
                  refine r_iadd d_Mm_undercutIn_156 (v := nI ((ucT f p x + (ucS (fun k => f ((p - 1 - k) * 12 + x)) p).2 + (ucS (fun k => f ((p + k) * 12 + x)) i).2) + 1)) (nI_add _ _) ?_
                  refine r_istore_n (lv' := [(2, .int (nI ((ucT f p x + (ucS (fun k => f ((p - 1 - k) * 12 + x)) p).2 + (ucS (fun k => f ((p + k) * 12 + x)) i).2) + 1))), (4, .int 0), (6, .int (f ((p + i) * 12 + x))), (5, .int (nI (p + i))), (3, .int (nI x)), (0, .ref b), (1, .int (nI p))]) d_Mm_undercutIn_157 rfl (by decide) rfl ?_
                  refine r_iinc (lv' := [(5, .int (nI ((p + i) + 1))), (2, .int (nI ((ucT f p x + (ucS (fun k => f ((p - 1 - k) * 12 + x)) p).2 + (ucS (fun k => f ((p + k) * 12 + x)) i).2) + 1))), (4, .int 0), (6, .int (f ((p + i) * 12 + x))), (3, .int (nI x)), (0, .ref b), (1, .int (nI p))]) (v := nI ((p + i) + 1)) d_Mm_undercutIn_158 (j := 3) rfl (nI_add _ _) (by decide) rfl ?_
                  refine r_goto (tgt := 93) d_Mm_undercutIn_161 (by decide) ?_
                  refine r_lv (lv' := [(5, .int (nI ((p + i) + 1))), (4, .int 0), (3, .int (nI x)), (2, .int (nI ((ucT f p x + (ucS (fun k => f ((p - 1 - k) * 12 + x)) p).2 + (ucS (fun k => f ((p + k) * 12 + x)) i).2) + 1))), (0, .ref b), (1, .int (nI p))]) [0, 2, 4, 1, 5, 6] rfl ?_
                  refine r_lvE (lv2 := [(5, .int (nI (p + (i + 1)))), (4, .int ((ucS (fun k => f ((p + k) * 12 + x)) (i + 1)).1)), (3, .int (nI x)), (2, .int (nI (ucT f p x + (ucS (fun k => f ((p - 1 - k) * 12 + x)) p).2 + (ucS (fun k => f ((p + k) * 12 + x)) (i + 1)).2))), (0, .ref b), (1, .int (nI p))]) (by rw [hk] <;> rfl) ?_
                  refine r_cs (cs2 := [(b, .inl (1, 108, .inl f))]) (rfl) ?_
                  exact ih (i + 1) (by omega) (by omega)
          · have hA : ¬ ((ucS (fun k => f ((p + k) * 12 + x)) i).1 = 0 ∨ f ((p + i) * 12 + x) = 46 ∨ f ((p + i) * 12 + x) = 107) := fun q => q.elim c_113 (fun q => q.elim c_120 c_127)
            have hk : ucS (fun k => f ((p + k) * 12 + x)) (i + 1) = (1, (ucS (fun k => f ((p + k) * 12 + x)) i).2 + 0) := by rw [ucR (ks := (fun k => f ((p + k) * 12 + x))) (hf _ (by omega)), if_neg hA, if_neg (fun q => hA q.1)]
            refine r_iconst d_Mm_undercutIn_130 (v := 1) (by decide) ?_
            refine r_goto (tgt := 135) d_Mm_undercutIn_131 (by decide) ?_
            refine r_istore (lv' := [(4, .int 1), (6, .int (f ((p + i) * 12 + x))), (5, .int (nI (p + i))), (3, .int (nI x)), (2, .int (nI (ucT f p x + (ucS (fun k => f ((p - 1 - k) * 12 + x)) p).2 + (ucS (fun k => f ((p + k) * 12 + x)) i).2))), (0, .ref b), (1, .int (nI p))]) d_Mm_undercutIn_135 (by decide) rfl ?_
            refine r_iload_n d_Mm_undercutIn_137 rfl 4 rfl ?_
            refine r_iload d_Mm_undercutIn_138 0 rfl ?_
            refine r_if_ne (tgt := 155) d_Mm_undercutIn_140 (by decide) (fun c_140 => ?_) (fun c_140 => ?_)
            · refine r_iconst d_Mm_undercutIn_155 (v := 0) (by decide) ?_
              refine r_iadd d_Mm_undercutIn_156 (v := nI ((ucT f p x + (ucS (fun k => f ((p - 1 - k) * 12 + x)) p).2 + (ucS (fun k => f ((p + k) * 12 + x)) i).2) + 0)) (nI_add _ _) ?_
              refine r_istore_n (lv' := [(2, .int (nI ((ucT f p x + (ucS (fun k => f ((p - 1 - k) * 12 + x)) p).2 + (ucS (fun k => f ((p + k) * 12 + x)) i).2) + 0))), (4, .int 1), (6, .int (f ((p + i) * 12 + x))), (5, .int (nI (p + i))), (3, .int (nI x)), (0, .ref b), (1, .int (nI p))]) d_Mm_undercutIn_157 rfl (by decide) rfl ?_
              refine r_iinc (lv' := [(5, .int (nI ((p + i) + 1))), (2, .int (nI ((ucT f p x + (ucS (fun k => f ((p - 1 - k) * 12 + x)) p).2 + (ucS (fun k => f ((p + k) * 12 + x)) i).2) + 0))), (4, .int 1), (6, .int (f ((p + i) * 12 + x))), (3, .int (nI x)), (0, .ref b), (1, .int (nI p))]) (v := nI ((p + i) + 1)) d_Mm_undercutIn_158 (j := 3) rfl (nI_add _ _) (by decide) rfl ?_
              refine r_goto (tgt := 93) d_Mm_undercutIn_161 (by decide) ?_
              refine r_lv (lv' := [(5, .int (nI ((p + i) + 1))), (4, .int 1), (3, .int (nI x)), (2, .int (nI ((ucT f p x + (ucS (fun k => f ((p - 1 - k) * 12 + x)) p).2 + (ucS (fun k => f ((p + k) * 12 + x)) i).2) + 0))), (0, .ref b), (1, .int (nI p))]) [0, 2, 4, 1, 5, 6] rfl ?_
              refine r_lvE (lv2 := [(5, .int (nI (p + (i + 1)))), (4, .int ((ucS (fun k => f ((p + k) * 12 + x)) (i + 1)).1)), (3, .int (nI x)), (2, .int (nI (ucT f p x + (ucS (fun k => f ((p - 1 - k) * 12 + x)) p).2 + (ucS (fun k => f ((p + k) * 12 + x)) (i + 1)).2))), (0, .ref b), (1, .int (nI p))]) (by rw [hk] <;> rfl) ?_
              refine r_cs (cs2 := [(b, .inl (1, 108, .inl f))]) (rfl) ?_
              exact ih (i + 1) (by omega) (by omega)
            · exact absurd c_140 (by decide)
set_option maxHeartbeats 4000000 in
set_option maxRecDepth 100000 in
theorem L_Mm_undercutIn_18 (g : zG) (b : Nat) (f : Nat → Int32) (p : Nat) (hp1 : 1 ≤ p) (hp : p < 9) (hf : z_ch f) (w0 : zW) (n : Nat) (x : Nat) (hx : x < 12) (K : DV g M_Mm_undercutIn (fun o cs1 => o = .inl (some (.int (nI (ucT f p 12)))) ∧ cs1 = [(b, .inl (1, 108, .inl f))]) w0 n 87 [(5, .int (dnI p p)), (4, .int ((ucS (fun k => f ((p - 1 - k) * 12 + x)) p).1)), (3, .int (nI x)), (2, .int (nI (ucT f p x + (ucS (fun k => f ((p - 1 - k) * 12 + x)) p).2))), (0, .ref b), (1, .int (nI p))] [] [(b, .inl (1, 108, .inl f))] 0 0) : ∀ (d i : Nat), i ≤ p → p < i + d → DV g M_Mm_undercutIn (fun o cs1 => o = .inl (some (.int (nI (ucT f p 12)))) ∧ cs1 = [(b, .inl (1, 108, .inl f))]) w0 n 18 [(5, .int (dnI p i)), (4, .int ((ucS (fun k => f ((p - 1 - k) * 12 + x)) i).1)), (3, .int (nI x)), (2, .int (nI (ucT f p x + (ucS (fun k => f ((p - 1 - k) * 12 + x)) i).2))), (0, .ref b), (1, .int (nI p))] [] [(b, .inl (1, 108, .inl f))] 0 0 := by
  intro d
  induction d with
  | zero => intro i h1 h2 ; exact absurd h2 (by omega)
  | succ d ih =>
    intro i h1 h2 
    refine r_iload d_Mm_undercutIn_18 0 rfl ?_
    refine r_if_lt (tgt := 87) d_Mm_undercutIn_20 (by decide) (fun c_20 => ?_) (fun c_20 => ?_)
    · have hv : i = p := Classical.byContradiction (fun q => (dnL p hp i (by omega)).1 c_20)
      rw [hv]
      refine r_lv (lv' := [(5, .int (dnI p p)), (4, .int ((ucS (fun k => f ((p - 1 - k) * 12 + x)) p).1)), (3, .int (nI x)), (2, .int (nI (ucT f p x + (ucS (fun k => f ((p - 1 - k) * 12 + x)) p).2))), (0, .ref b), (1, .int (nI p))]) [0, 1, 2, 3, 4, 5] rfl ?_
      exact K
    · have hi : i < p := Classical.byContradiction (fun q => c_20 (by rw [show i = p by omega]; exact dnE p hp))
      refine r_aload_n d_Mm_undercutIn_23 rfl 4 rfl ?_
      refine r_bipush d_Mm_undercutIn_24 (v := 12) (by decide) ?_
      refine r_iload d_Mm_undercutIn_26 0 rfl ?_
      refine r_imul d_Mm_undercutIn_28 (v := nI (12 * (p - 1 - i))) (by rw [(dnL p hp i hi).2]; exact pk_mul _ _) ?_
      refine r_iload_n d_Mm_undercutIn_29 rfl 2 rfl ?_
      refine r_iadd d_Mm_undercutIn_30 (v := nI ((p - 1 - i) * 12 + x)) (by rw [nI_add]; congr 1; omega) ?_
      refine r_cald d_Mm_undercutIn_31 (q0 := 0) rfl (vp_in_nI (by omega) (by omega)) (v := f ((p - 1 - i) * 12 + x)) (by rw [nI_clamp (by omega)]) ?_
      refine r_istore (lv' := [(6, .int (f ((p - 1 - i) * 12 + x))), (5, .int (dnI p i)), (4, .int ((ucS (fun k => f ((p - 1 - k) * 12 + x)) i).1)), (3, .int (nI x)), (2, .int (nI (ucT f p x + (ucS (fun k => f ((p - 1 - k) * 12 + x)) i).2))), (0, .ref b), (1, .int (nI p))]) d_Mm_undercutIn_32 (by decide) rfl ?_
      refine r_iload d_Mm_undercutIn_34 2 rfl ?_
      refine r_if_eq (tgt := 57) d_Mm_undercutIn_36 (by decide) (fun c_36 => ?_) (fun c_36 => ?_)
      · have hA : (ucS (fun k => f ((p - 1 - k) * 12 + x)) i).1 = 0 ∨ f ((p - 1 - i) * 12 + x) = 46 ∨ f ((p - 1 - i) * 12 + x) = 107 := Or.inl c_36
        refine r_iconst d_Mm_undercutIn_57 (v := 0) (by decide) ?_
        refine r_istore (lv' := [(4, .int 0), (6, .int (f ((p - 1 - i) * 12 + x))), (5, .int (dnI p i)), (3, .int (nI x)), (2, .int (nI (ucT f p x + (ucS (fun k => f ((p - 1 - k) * 12 + x)) i).2))), (0, .ref b), (1, .int (nI p))]) d_Mm_undercutIn_58 (by decide) rfl ?_
        refine r_iload_n d_Mm_undercutIn_60 rfl 4 rfl ?_
        refine r_iload d_Mm_undercutIn_61 0 rfl ?_
        refine r_if_ne (tgt := 78) d_Mm_undercutIn_63 (by decide) (fun c_63 => ?_) (fun c_63 => ?_)
        · exact absurd c_63 (by decide)
        · refine r_iload d_Mm_undercutIn_66 1 rfl ?_
          refine r_callS (As := [.int (f ((p - 1 - i) * 12 + x))]) (rest := [.int (nI (ucT f p x + (ucS (fun k => f ((p - 1 - k) * 12 + x)) i).2))]) (csC := []) (is := []) ln_Mm_107 w_st_Mm_isMetal ok_Mm_undercutIn_Mm_isMetal d_Mm_undercutIn_68 (C_Mm_isMetal g (f ((p - 1 - i) * 12 + x))) rfl rfl (Nat.le_of_ble_eq_true rfl) rfl (by decide) (by omega) (by omega) (fun E cs1 hx => ?_) (fun v cs1 hx => ?_)
          · exact absurd hx.1 (by simp)
          · obtain ⟨e1, rfl⟩ := hx
            cases e1
            refine ⟨rfl, ?_⟩
            refine r_st (st2 := [.int (z_bi (tmB (f ((p - 1 - i) * 12 + x)))), .int (nI (ucT f p x + (ucS (fun k => f ((p - 1 - k) * 12 + x)) i).2))]) rfl ?_
            refine r_cs (cs2 := [(b, .inl (1, 108, .inl f))]) rfl ?_
            refine r_if_eq (tgt := 78) d_Mm_undercutIn_71 (by decide) (fun c_71 => ?_) (fun c_71 => ?_)
            · have hk : ucS (fun k => f ((p - 1 - k) * 12 + x)) (i + 1) = (0, (ucS (fun k => f ((p - 1 - k) * 12 + x)) i).2 + 0) := by rw [ucR (ks := (fun k => f ((p - 1 - k) * 12 + x))) (hf _ (by omega)), if_pos hA, if_neg (fun q => by have := z_bi0 c_71; rw [q.2] at this; cases this)]
              refine r_iconst d_Mm_undercutIn_78 (v := 0) (by decide) ?_
              refine r_iadd d_Mm_undercutIn_79 (v := nI ((ucT f p x + (ucS (fun k => f ((p - 1 - k) * 12 + x)) i).2) + 0)) (nI_add _ _) ?_
              refine r_istore_n (lv' := [(2, .int (nI ((ucT f p x + (ucS (fun k => f ((p - 1 - k) * 12 + x)) i).2) + 0))), (4, .int 0), (6, .int (f ((p - 1 - i) * 12 + x))), (5, .int (dnI p i)), (3, .int (nI x)), (0, .ref b), (1, .int (nI p))]) d_Mm_undercutIn_80 rfl (by decide) rfl ?_
              refine r_iinc (lv' := [(5, .int (dnI p (i + 1))), (2, .int (nI ((ucT f p x + (ucS (fun k => f ((p - 1 - k) * 12 + x)) i).2) + 0))), (4, .int 0), (6, .int (f ((p - 1 - i) * 12 + x))), (3, .int (nI x)), (0, .ref b), (1, .int (nI p))]) (v := dnI p (i + 1)) d_Mm_undercutIn_81 (j := 3) rfl (dn1 p hp i hi) (by decide) rfl ?_
              refine r_goto (tgt := 18) d_Mm_undercutIn_84 (by decide) ?_
              refine r_lv (lv' := [(5, .int (dnI p (i + 1))), (4, .int 0), (3, .int (nI x)), (2, .int (nI ((ucT f p x + (ucS (fun k => f ((p - 1 - k) * 12 + x)) i).2) + 0))), (0, .ref b), (1, .int (nI p))]) [0, 2, 4, 1, 5, 6] rfl ?_
              refine r_lvE (lv2 := [(5, .int (dnI p (i + 1))), (4, .int ((ucS (fun k => f ((p - 1 - k) * 12 + x)) (i + 1)).1)), (3, .int (nI x)), (2, .int (nI (ucT f p x + (ucS (fun k => f ((p - 1 - k) * 12 + x)) (i + 1)).2))), (0, .ref b), (1, .int (nI p))]) (by rw [hk] <;> rfl) ?_
              refine r_cs (cs2 := [(b, .inl (1, 108, .inl f))]) (rfl) ?_
              exact ih (i + 1) (by omega) (by omega)
            · have hk : ucS (fun k => f ((p - 1 - k) * 12 + x)) (i + 1) = (0, (ucS (fun k => f ((p - 1 - k) * 12 + x)) i).2 + 1) := by rw [ucR (ks := (fun k => f ((p - 1 - k) * 12 + x))) (hf _ (by omega)), if_pos hA, if_pos ⟨hA, z_bi1 c_71⟩]
              refine r_iconst d_Mm_undercutIn_74 (v := 1) (by decide) ?_
              refine r_goto (tgt := 79) d_Mm_undercutIn_75 (by decide) ?_
              refine r_iadd d_Mm_undercutIn_79 (v := nI ((ucT f p x + (ucS (fun k => f ((p - 1 - k) * 12 + x)) i).2) + 1)) (nI_add _ _) ?_
              refine r_istore_n (lv' := [(2, .int (nI ((ucT f p x + (ucS (fun k => f ((p - 1 - k) * 12 + x)) i).2) + 1))), (4, .int 0), (6, .int (f ((p - 1 - i) * 12 + x))), (5, .int (dnI p i)), (3, .int (nI x)), (0, .ref b), (1, .int (nI p))]) d_Mm_undercutIn_80 rfl (by decide) rfl ?_
              refine r_iinc (lv' := [(5, .int (dnI p (i + 1))), (2, .int (nI ((ucT f p x + (ucS (fun k => f ((p - 1 - k) * 12 + x)) i).2) + 1))), (4, .int 0), (6, .int (f ((p - 1 - i) * 12 + x))), (3, .int (nI x)), (0, .ref b), (1, .int (nI p))]) (v := dnI p (i + 1)) d_Mm_undercutIn_81 (j := 3) rfl (dn1 p hp i hi) (by decide) rfl ?_
              refine r_goto (tgt := 18) d_Mm_undercutIn_84 (by decide) ?_
              refine r_lv (lv' := [(5, .int (dnI p (i + 1))), (4, .int 0), (3, .int (nI x)), (2, .int (nI ((ucT f p x + (ucS (fun k => f ((p - 1 - k) * 12 + x)) i).2) + 1))), (0, .ref b), (1, .int (nI p))]) [0, 2, 4, 1, 5, 6] rfl ?_
              refine r_lvE (lv2 := [(5, .int (dnI p (i + 1))), (4, .int ((ucS (fun k => f ((p - 1 - k) * 12 + x)) (i + 1)).1)), (3, .int (nI x)), (2, .int (nI (ucT f p x + (ucS (fun k => f ((p - 1 - k) * 12 + x)) (i + 1)).2))), (0, .ref b), (1, .int (nI p))]) (by rw [hk] <;> rfl) ?_
              refine r_cs (cs2 := [(b, .inl (1, 108, .inl f))]) (rfl) ?_
              exact ih (i + 1) (by omega) (by omega)
      · refine r_iload d_Mm_undercutIn_39 0 rfl ?_
        refine r_bipush d_Mm_undercutIn_41 (v := 46) (by decide) ?_
        refine r_icmp_eq (tgt := 57) d_Mm_undercutIn_43 (by decide) (fun c_43 => ?_) (fun c_43 => ?_)
        · have hA : (ucS (fun k => f ((p - 1 - k) * 12 + x)) i).1 = 0 ∨ f ((p - 1 - i) * 12 + x) = 46 ∨ f ((p - 1 - i) * 12 + x) = 107 := Or.inr (Or.inl c_43)
          refine r_iconst d_Mm_undercutIn_57 (v := 0) (by decide) ?_
          refine r_istore (lv' := [(4, .int 0), (6, .int (f ((p - 1 - i) * 12 + x))), (5, .int (dnI p i)), (3, .int (nI x)), (2, .int (nI (ucT f p x + (ucS (fun k => f ((p - 1 - k) * 12 + x)) i).2))), (0, .ref b), (1, .int (nI p))]) d_Mm_undercutIn_58 (by decide) rfl ?_
          refine r_iload_n d_Mm_undercutIn_60 rfl 4 rfl ?_
          refine r_iload d_Mm_undercutIn_61 0 rfl ?_
          refine r_if_ne (tgt := 78) d_Mm_undercutIn_63 (by decide) (fun c_63 => ?_) (fun c_63 => ?_)
          · exact absurd c_63 (by decide)
          · refine r_iload d_Mm_undercutIn_66 1 rfl ?_
            refine r_callS (As := [.int (f ((p - 1 - i) * 12 + x))]) (rest := [.int (nI (ucT f p x + (ucS (fun k => f ((p - 1 - k) * 12 + x)) i).2))]) (csC := []) (is := []) ln_Mm_107 w_st_Mm_isMetal ok_Mm_undercutIn_Mm_isMetal d_Mm_undercutIn_68 (C_Mm_isMetal g (f ((p - 1 - i) * 12 + x))) rfl rfl (Nat.le_of_ble_eq_true rfl) rfl (by decide) (by omega) (by omega) (fun E cs1 hx => ?_) (fun v cs1 hx => ?_)
            · exact absurd hx.1 (by simp)
            · obtain ⟨e1, rfl⟩ := hx
              cases e1
              refine ⟨rfl, ?_⟩
              refine r_st (st2 := [.int (z_bi (tmB (f ((p - 1 - i) * 12 + x)))), .int (nI (ucT f p x + (ucS (fun k => f ((p - 1 - k) * 12 + x)) i).2))]) rfl ?_
              refine r_cs (cs2 := [(b, .inl (1, 108, .inl f))]) rfl ?_
              refine r_if_eq (tgt := 78) d_Mm_undercutIn_71 (by decide) (fun c_71 => ?_) (fun c_71 => ?_)
              · have hk : ucS (fun k => f ((p - 1 - k) * 12 + x)) (i + 1) = (0, (ucS (fun k => f ((p - 1 - k) * 12 + x)) i).2 + 0) := by rw [ucR (ks := (fun k => f ((p - 1 - k) * 12 + x))) (hf _ (by omega)), if_pos hA, if_neg (fun q => by have := z_bi0 c_71; rw [q.2] at this; cases this)]
                refine r_iconst d_Mm_undercutIn_78 (v := 0) (by decide) ?_
                refine r_iadd d_Mm_undercutIn_79 (v := nI ((ucT f p x + (ucS (fun k => f ((p - 1 - k) * 12 + x)) i).2) + 0)) (nI_add _ _) ?_
                refine r_istore_n (lv' := [(2, .int (nI ((ucT f p x + (ucS (fun k => f ((p - 1 - k) * 12 + x)) i).2) + 0))), (4, .int 0), (6, .int (f ((p - 1 - i) * 12 + x))), (5, .int (dnI p i)), (3, .int (nI x)), (0, .ref b), (1, .int (nI p))]) d_Mm_undercutIn_80 rfl (by decide) rfl ?_
                refine r_iinc (lv' := [(5, .int (dnI p (i + 1))), (2, .int (nI ((ucT f p x + (ucS (fun k => f ((p - 1 - k) * 12 + x)) i).2) + 0))), (4, .int 0), (6, .int (f ((p - 1 - i) * 12 + x))), (3, .int (nI x)), (0, .ref b), (1, .int (nI p))]) (v := dnI p (i + 1)) d_Mm_undercutIn_81 (j := 3) rfl (dn1 p hp i hi) (by decide) rfl ?_
                refine r_goto (tgt := 18) d_Mm_undercutIn_84 (by decide) ?_
                refine r_lv (lv' := [(5, .int (dnI p (i + 1))), (4, .int 0), (3, .int (nI x)), (2, .int (nI ((ucT f p x + (ucS (fun k => f ((p - 1 - k) * 12 + x)) i).2) + 0))), (0, .ref b), (1, .int (nI p))]) [0, 2, 4, 1, 5, 6] rfl ?_
                refine r_lvE (lv2 := [(5, .int (dnI p (i + 1))), (4, .int ((ucS (fun k => f ((p - 1 - k) * 12 + x)) (i + 1)).1)), (3, .int (nI x)), (2, .int (nI (ucT f p x + (ucS (fun k => f ((p - 1 - k) * 12 + x)) (i + 1)).2))), (0, .ref b), (1, .int (nI p))]) (by rw [hk] <;> rfl) ?_
                refine r_cs (cs2 := [(b, .inl (1, 108, .inl f))]) (rfl) ?_
                exact ih (i + 1) (by omega) (by omega)
              · have hk : ucS (fun k => f ((p - 1 - k) * 12 + x)) (i + 1) = (0, (ucS (fun k => f ((p - 1 - k) * 12 + x)) i).2 + 1) := by rw [ucR (ks := (fun k => f ((p - 1 - k) * 12 + x))) (hf _ (by omega)), if_pos hA, if_pos ⟨hA, z_bi1 c_71⟩]
                refine r_iconst d_Mm_undercutIn_74 (v := 1) (by decide) ?_
                refine r_goto (tgt := 79) d_Mm_undercutIn_75 (by decide) ?_
                refine r_iadd d_Mm_undercutIn_79 (v := nI ((ucT f p x + (ucS (fun k => f ((p - 1 - k) * 12 + x)) i).2) + 1)) (nI_add _ _) ?_
                refine r_istore_n (lv' := [(2, .int (nI ((ucT f p x + (ucS (fun k => f ((p - 1 - k) * 12 + x)) i).2) + 1))), (4, .int 0), (6, .int (f ((p - 1 - i) * 12 + x))), (5, .int (dnI p i)), (3, .int (nI x)), (0, .ref b), (1, .int (nI p))]) d_Mm_undercutIn_80 rfl (by decide) rfl ?_
                refine r_iinc (lv' := [(5, .int (dnI p (i + 1))), (2, .int (nI ((ucT f p x + (ucS (fun k => f ((p - 1 - k) * 12 + x)) i).2) + 1))), (4, .int 0), (6, .int (f ((p - 1 - i) * 12 + x))), (3, .int (nI x)), (0, .ref b), (1, .int (nI p))]) (v := dnI p (i + 1)) d_Mm_undercutIn_81 (j := 3) rfl (dn1 p hp i hi) (by decide) rfl ?_
                refine r_goto (tgt := 18) d_Mm_undercutIn_84 (by decide) ?_
                refine r_lv (lv' := [(5, .int (dnI p (i + 1))), (4, .int 0), (3, .int (nI x)), (2, .int (nI ((ucT f p x + (ucS (fun k => f ((p - 1 - k) * 12 + x)) i).2) + 1))), (0, .ref b), (1, .int (nI p))]) [0, 2, 4, 1, 5, 6] rfl ?_
                refine r_lvE (lv2 := [(5, .int (dnI p (i + 1))), (4, .int ((ucS (fun k => f ((p - 1 - k) * 12 + x)) (i + 1)).1)), (3, .int (nI x)), (2, .int (nI (ucT f p x + (ucS (fun k => f ((p - 1 - k) * 12 + x)) (i + 1)).2))), (0, .ref b), (1, .int (nI p))]) (by rw [hk] <;> rfl) ?_
                refine r_cs (cs2 := [(b, .inl (1, 108, .inl f))]) (rfl) ?_
                exact ih (i + 1) (by omega) (by omega)
        · refine r_iload d_Mm_undercutIn_46 0 rfl ?_
          refine r_bipush d_Mm_undercutIn_48 (v := 107) (by decide) ?_
          refine r_icmp_eq (tgt := 57) d_Mm_undercutIn_50 (by decide) (fun c_50 => ?_) (fun c_50 => ?_)
          · have hA : (ucS (fun k => f ((p - 1 - k) * 12 + x)) i).1 = 0 ∨ f ((p - 1 - i) * 12 + x) = 46 ∨ f ((p - 1 - i) * 12 + x) = 107 := Or.inr (Or.inr c_50)
            refine r_iconst d_Mm_undercutIn_57 (v := 0) (by decide) ?_
            refine r_istore (lv' := [(4, .int 0), (6, .int (f ((p - 1 - i) * 12 + x))), (5, .int (dnI p i)), (3, .int (nI x)), (2, .int (nI (ucT f p x + (ucS (fun k => f ((p - 1 - k) * 12 + x)) i).2))), (0, .ref b), (1, .int (nI p))]) d_Mm_undercutIn_58 (by decide) rfl ?_
            refine r_iload_n d_Mm_undercutIn_60 rfl 4 rfl ?_
            refine r_iload d_Mm_undercutIn_61 0 rfl ?_
            refine r_if_ne (tgt := 78) d_Mm_undercutIn_63 (by decide) (fun c_63 => ?_) (fun c_63 => ?_)
            · exact absurd c_63 (by decide)
            · refine r_iload d_Mm_undercutIn_66 1 rfl ?_
              refine r_callS (As := [.int (f ((p - 1 - i) * 12 + x))]) (rest := [.int (nI (ucT f p x + (ucS (fun k => f ((p - 1 - k) * 12 + x)) i).2))]) (csC := []) (is := []) ln_Mm_107 w_st_Mm_isMetal ok_Mm_undercutIn_Mm_isMetal d_Mm_undercutIn_68 (C_Mm_isMetal g (f ((p - 1 - i) * 12 + x))) rfl rfl (Nat.le_of_ble_eq_true rfl) rfl (by decide) (by omega) (by omega) (fun E cs1 hx => ?_) (fun v cs1 hx => ?_)
              · exact absurd hx.1 (by simp)
              · obtain ⟨e1, rfl⟩ := hx
                cases e1
                refine ⟨rfl, ?_⟩
                refine r_st (st2 := [.int (z_bi (tmB (f ((p - 1 - i) * 12 + x)))), .int (nI (ucT f p x + (ucS (fun k => f ((p - 1 - k) * 12 + x)) i).2))]) rfl ?_
                refine r_cs (cs2 := [(b, .inl (1, 108, .inl f))]) rfl ?_
                refine r_if_eq (tgt := 78) d_Mm_undercutIn_71 (by decide) (fun c_71 => ?_) (fun c_71 => ?_)
                · have hk : ucS (fun k => f ((p - 1 - k) * 12 + x)) (i + 1) = (0, (ucS (fun k => f ((p - 1 - k) * 12 + x)) i).2 + 0) := by rw [ucR (ks := (fun k => f ((p - 1 - k) * 12 + x))) (hf _ (by omega)), if_pos hA, if_neg (fun q => by have := z_bi0 c_71; rw [q.2] at this; cases this)]
                  refine r_iconst d_Mm_undercutIn_78 (v := 0) (by decide) ?_
                  refine r_iadd d_Mm_undercutIn_79 (v := nI ((ucT f p x + (ucS (fun k => f ((p - 1 - k) * 12 + x)) i).2) + 0)) (nI_add _ _) ?_
                  refine r_istore_n (lv' := [(2, .int (nI ((ucT f p x + (ucS (fun k => f ((p - 1 - k) * 12 + x)) i).2) + 0))), (4, .int 0), (6, .int (f ((p - 1 - i) * 12 + x))), (5, .int (dnI p i)), (3, .int (nI x)), (0, .ref b), (1, .int (nI p))]) d_Mm_undercutIn_80 rfl (by decide) rfl ?_
                  refine r_iinc (lv' := [(5, .int (dnI p (i + 1))), (2, .int (nI ((ucT f p x + (ucS (fun k => f ((p - 1 - k) * 12 + x)) i).2) + 0))), (4, .int 0), (6, .int (f ((p - 1 - i) * 12 + x))), (3, .int (nI x)), (0, .ref b), (1, .int (nI p))]) (v := dnI p (i + 1)) d_Mm_undercutIn_81 (j := 3) rfl (dn1 p hp i hi) (by decide) rfl ?_
                  refine r_goto (tgt := 18) d_Mm_undercutIn_84 (by decide) ?_
                  refine r_lv (lv' := [(5, .int (dnI p (i + 1))), (4, .int 0), (3, .int (nI x)), (2, .int (nI ((ucT f p x + (ucS (fun k => f ((p - 1 - k) * 12 + x)) i).2) + 0))), (0, .ref b), (1, .int (nI p))]) [0, 2, 4, 1, 5, 6] rfl ?_
                  refine r_lvE (lv2 := [(5, .int (dnI p (i + 1))), (4, .int ((ucS (fun k => f ((p - 1 - k) * 12 + x)) (i + 1)).1)), (3, .int (nI x)), (2, .int (nI (ucT f p x + (ucS (fun k => f ((p - 1 - k) * 12 + x)) (i + 1)).2))), (0, .ref b), (1, .int (nI p))]) (by rw [hk] <;> rfl) ?_
                  refine r_cs (cs2 := [(b, .inl (1, 108, .inl f))]) (rfl) ?_
                  exact ih (i + 1) (by omega) (by omega)
                · have hk : ucS (fun k => f ((p - 1 - k) * 12 + x)) (i + 1) = (0, (ucS (fun k => f ((p - 1 - k) * 12 + x)) i).2 + 1) := by rw [ucR (ks := (fun k => f ((p - 1 - k) * 12 + x))) (hf _ (by omega)), if_pos hA, if_pos ⟨hA, z_bi1 c_71⟩]
                  refine r_iconst d_Mm_undercutIn_74 (v := 1) (by decide) ?_
                  refine r_goto (tgt := 79) d_Mm_undercutIn_75 (by decide) ?_
                  refine r_iadd d_Mm_undercutIn_79 (v := nI ((ucT f p x + (ucS (fun k => f ((p - 1 - k) * 12 + x)) i).2) + 1)) (nI_add _ _) ?_
                  refine r_istore_n (lv' := [(2, .int (nI ((ucT f p x + (ucS (fun k => f ((p - 1 - k) * 12 + x)) i).2) + 1))), (4, .int 0), (6, .int (f ((p - 1 - i) * 12 + x))), (5, .int (dnI p i)), (3, .int (nI x)), (0, .ref b), (1, .int (nI p))]) d_Mm_undercutIn_80 rfl (by decide) rfl ?_
                  refine r_iinc (lv' := [(5, .int (dnI p (i + 1))), (2, .int (nI ((ucT f p x + (ucS (fun k => f ((p - 1 - k) * 12 + x)) i).2) + 1))), (4, .int 0), (6, .int (f ((p - 1 - i) * 12 + x))), (3, .int (nI x)), (0, .ref b), (1, .int (nI p))]) (v := dnI p (i + 1)) d_Mm_undercutIn_81 (j := 3) rfl (dn1 p hp i hi) (by decide) rfl ?_
                  refine r_goto (tgt := 18) d_Mm_undercutIn_84 (by decide) ?_
                  refine r_lv (lv' := [(5, .int (dnI p (i + 1))), (4, .int 0), (3, .int (nI x)), (2, .int (nI ((ucT f p x + (ucS (fun k => f ((p - 1 - k) * 12 + x)) i).2) + 1))), (0, .ref b), (1, .int (nI p))]) [0, 2, 4, 1, 5, 6] rfl ?_
                  refine r_lvE (lv2 := [(5, .int (dnI p (i + 1))), (4, .int ((ucS (fun k => f ((p - 1 - k) * 12 + x)) (i + 1)).1)), (3, .int (nI x)), (2, .int (nI (ucT f p x + (ucS (fun k => f ((p - 1 - k) * 12 + x)) (i + 1)).2))), (0, .ref b), (1, .int (nI p))]) (by rw [hk] <;> rfl) ?_
                  refine r_cs (cs2 := [(b, .inl (1, 108, .inl f))]) (rfl) ?_
                  exact ih (i + 1) (by omega) (by omega)
          · have hA : ¬ ((ucS (fun k => f ((p - 1 - k) * 12 + x)) i).1 = 0 ∨ f ((p - 1 - i) * 12 + x) = 46 ∨ f ((p - 1 - i) * 12 + x) = 107) := fun q => q.elim c_36 (fun q => q.elim c_43 c_50)
            have hk : ucS (fun k => f ((p - 1 - k) * 12 + x)) (i + 1) = (1, (ucS (fun k => f ((p - 1 - k) * 12 + x)) i).2 + 0) := by rw [ucR (ks := (fun k => f ((p - 1 - k) * 12 + x))) (hf _ (by omega)), if_neg hA, if_neg (fun q => hA q.1)]
            refine r_iconst d_Mm_undercutIn_53 (v := 1) (by decide) ?_
            refine r_goto (tgt := 58) d_Mm_undercutIn_54 (by decide) ?_
            refine r_istore (lv' := [(4, .int 1), (6, .int (f ((p - 1 - i) * 12 + x))), (5, .int (dnI p i)), (3, .int (nI x)), (2, .int (nI (ucT f p x + (ucS (fun k => f ((p - 1 - k) * 12 + x)) i).2))), (0, .ref b), (1, .int (nI p))]) d_Mm_undercutIn_58 (by decide) rfl ?_
            refine r_iload_n d_Mm_undercutIn_60 rfl 4 rfl ?_
            refine r_iload d_Mm_undercutIn_61 0 rfl ?_
            refine r_if_ne (tgt := 78) d_Mm_undercutIn_63 (by decide) (fun c_63 => ?_) (fun c_63 => ?_)
            · refine r_iconst d_Mm_undercutIn_78 (v := 0) (by decide) ?_
              refine r_iadd d_Mm_undercutIn_79 (v := nI ((ucT f p x + (ucS (fun k => f ((p - 1 - k) * 12 + x)) i).2) + 0)) (nI_add _ _) ?_
              refine r_istore_n (lv' := [(2, .int (nI ((ucT f p x + (ucS (fun k => f ((p - 1 - k) * 12 + x)) i).2) + 0))), (4, .int 1), (6, .int (f ((p - 1 - i) * 12 + x))), (5, .int (dnI p i)), (3, .int (nI x)), (0, .ref b), (1, .int (nI p))]) d_Mm_undercutIn_80 rfl (by decide) rfl ?_
              refine r_iinc (lv' := [(5, .int (dnI p (i + 1))), (2, .int (nI ((ucT f p x + (ucS (fun k => f ((p - 1 - k) * 12 + x)) i).2) + 0))), (4, .int 1), (6, .int (f ((p - 1 - i) * 12 + x))), (3, .int (nI x)), (0, .ref b), (1, .int (nI p))]) (v := dnI p (i + 1)) d_Mm_undercutIn_81 (j := 3) rfl (dn1 p hp i hi) (by decide) rfl ?_
              refine r_goto (tgt := 18) d_Mm_undercutIn_84 (by decide) ?_
              refine r_lv (lv' := [(5, .int (dnI p (i + 1))), (4, .int 1), (3, .int (nI x)), (2, .int (nI ((ucT f p x + (ucS (fun k => f ((p - 1 - k) * 12 + x)) i).2) + 0))), (0, .ref b), (1, .int (nI p))]) [0, 2, 4, 1, 5, 6] rfl ?_
              refine r_lvE (lv2 := [(5, .int (dnI p (i + 1))), (4, .int ((ucS (fun k => f ((p - 1 - k) * 12 + x)) (i + 1)).1)), (3, .int (nI x)), (2, .int (nI (ucT f p x + (ucS (fun k => f ((p - 1 - k) * 12 + x)) (i + 1)).2))), (0, .ref b), (1, .int (nI p))]) (by rw [hk] <;> rfl) ?_
              refine r_cs (cs2 := [(b, .inl (1, 108, .inl f))]) (rfl) ?_
              exact ih (i + 1) (by omega) (by omega)
            · exact absurd c_63 (by decide)
set_option maxHeartbeats 4000000 in
set_option maxRecDepth 100000 in
theorem L_Mm_undercutIn_4 (g : zG) (b : Nat) (f : Nat → Int32) (p : Nat) (hp1 : 1 ≤ p) (hp : p < 9) (hf : z_ch f) (w0 : zW) (n : Nat) : ∀ (d x : Nat), x ≤ 12 → 12 < x + d → DV g M_Mm_undercutIn (fun o cs1 => o = .inl (some (.int (nI (ucT f p 12)))) ∧ cs1 = [(b, .inl (1, 108, .inl f))]) w0 n 4 [(3, .int (nI x)), (2, .int (nI (ucT f p x))), (0, .ref b), (1, .int (nI p))] [] [(b, .inl (1, 108, .inl f))] 0 0 := by
  intro d
  induction d with
  | zero => intro x h1 h2 ; exact absurd h2 (by omega)
  | succ d ih =>
    intro x h1 h2 
    refine r_iload_n d_Mm_undercutIn_4 rfl 0 rfl ?_
    refine r_bipush d_Mm_undercutIn_5 (v := 12) (by decide) ?_
    refine r_icmp_ge (tgt := 170) d_Mm_undercutIn_7 (by decide) (fun c_7 => ?_) (fun c_7 => ?_)
    · have hn := z_le (a := 12) (by omega) (by decide) c_7
      obtain rfl : x = 12 := by omega
      refine r_iload_n d_Mm_undercutIn_170 rfl 1 rfl ?_
      refine r_iret d_Mm_undercutIn_171 rfl rfl ?_
      exact ⟨rfl, rfl⟩
    · have hn := z_nle (a := 12) (by omega) (by decide) c_7
      refine r_iconst d_Mm_undercutIn_10 (v := 1) (by decide) ?_
      refine r_istore (lv' := [(4, .int 1), (3, .int (nI x)), (2, .int (nI (ucT f p x))), (0, .ref b), (1, .int (nI p))]) d_Mm_undercutIn_11 (by decide) rfl ?_
      refine r_iload_n d_Mm_undercutIn_13 rfl 4 rfl ?_
      refine r_iconst d_Mm_undercutIn_14 (v := 1) (by decide) ?_
      refine r_isub d_Mm_undercutIn_15 (v := dnI p 0) (dn0 p hp) ?_
      refine r_istore (lv' := [(5, .int (dnI p 0)), (4, .int 1), (3, .int (nI x)), (2, .int (nI (ucT f p x))), (0, .ref b), (1, .int (nI p))]) d_Mm_undercutIn_16 (by decide) rfl ?_
      refine r_lvE (lv2 := [(5, .int (dnI p 0)), (4, .int ((ucS (fun k => f ((p - 1 - k) * 12 + x)) 0).1)), (3, .int (nI x)), (2, .int (nI (ucT f p x + (ucS (fun k => f ((p - 1 - k) * 12 + x)) 0).2))), (0, .ref b), (1, .int (nI p))]) (rfl) ?_
      refine r_cs (cs2 := [(b, .inl (1, 108, .inl f))]) (rfl) ?_
      refine L_Mm_undercutIn_18 g b f p hp1 hp hf w0 _ x (by omega) (?_) (p + 1) 0 (Nat.zero_le _) (by omega)
      refine r_iconst d_Mm_undercutIn_87 (v := 1) (by decide) ?_
      refine r_istore (lv' := [(4, .int 1), (5, .int (dnI p p)), (3, .int (nI x)), (2, .int (nI (ucT f p x + (ucS (fun k => f ((p - 1 - k) * 12 + x)) p).2))), (0, .ref b), (1, .int (nI p))]) d_Mm_undercutIn_88 (by decide) rfl ?_
      refine r_iload_n d_Mm_undercutIn_90 rfl 5 rfl ?_
      refine r_istore (lv' := [(5, .int (nI p)), (4, .int 1), (3, .int (nI x)), (2, .int (nI (ucT f p x + (ucS (fun k => f ((p - 1 - k) * 12 + x)) p).2))), (0, .ref b), (1, .int (nI p))]) d_Mm_undercutIn_91 (by decide) rfl ?_
      refine r_lvE (lv2 := [(5, .int (nI (p + 0))), (4, .int ((ucS (fun k => f ((p + k) * 12 + x)) 0).1)), (3, .int (nI x)), (2, .int (nI (ucT f p x + (ucS (fun k => f ((p - 1 - k) * 12 + x)) p).2 + (ucS (fun k => f ((p + k) * 12 + x)) 0).2))), (0, .ref b), (1, .int (nI p))]) (rfl) ?_
      refine r_cs (cs2 := [(b, .inl (1, 108, .inl f))]) (rfl) ?_
      refine L_Mm_undercutIn_93 g b f p hp1 hp hf w0 _ x (by omega) (?_) (9 - p + 1) 0 (Nat.zero_le _) (by omega)
      refine r_iinc (lv' := [(3, .int (nI (x + 1))), (5, .int (nI (p + (9 - p)))), (4, .int ((ucS (fun k => f ((p + k) * 12 + x)) (9 - p)).1)), (2, .int (nI (ucT f p x + (ucS (fun k => f ((p - 1 - k) * 12 + x)) p).2 + (ucS (fun k => f ((p + k) * 12 + x)) (9 - p)).2))), (0, .ref b), (1, .int (nI p))]) (v := nI (x + 1)) d_Mm_undercutIn_164 (j := 2) rfl (nI_add _ _) (by decide) rfl ?_
      refine r_goto (tgt := 4) d_Mm_undercutIn_167 (by decide) ?_
      refine r_lv (lv' := [(3, .int (nI (x + 1))), (2, .int (nI (ucT f p x + (ucS (fun k => f ((p - 1 - k) * 12 + x)) p).2 + (ucS (fun k => f ((p + k) * 12 + x)) (9 - p)).2))), (0, .ref b), (1, .int (nI p))]) [0, 3, 4, 5] rfl ?_
      refine r_lvE (lv2 := [(3, .int (nI (x + 1))), (2, .int (nI (ucT f p (x + 1)))), (0, .ref b), (1, .int (nI p))]) (by rw [show ucT f p (x + 1) = ucT f p x + (ucS (fun k => f ((p - 1 - k) * 12 + x)) p).2 + (ucS (fun k => f ((p + k) * 12 + x)) (9 - p)).2 from (Nat.add_assoc _ _ _).symm] <;> rfl) ?_
      refine r_cs (cs2 := [(b, .inl (1, 108, .inl f))]) (rfl) ?_
      exact ih (x + 1) (by omega) (by omega)
set_option maxHeartbeats 4000000 in
set_option maxRecDepth 100000 in
theorem C_Mm_undercutIn (g : zG) (b : Nat) (f : Nat → Int32) (p : Nat) (hp1 : 1 ≤ p) (hp : p < 9) (hf : z_ch f) : CT g M_Mm_undercutIn [.ref b, .int (nI p)] [(b, .inl (1, 108, .inl f))] (fun o cs1 => o = .inl (some (.int (nI (ucT f p 12)))) ∧ cs1 = [(b, .inl (1, 108, .inl f))]) 0 0 := by
  refine z_of (by decide) rfl (Nat.le_of_ble_eq_true rfl) (fun w0 => ?_)
  refine r_lvE (lv2 := [(0, .ref b), (1, .int (nI p))]) rfl ?_
  refine r_iconst d_Mm_undercutIn_0 (v := 0) (by decide) ?_
  refine r_istore_n (lv' := [(2, .int 0), (0, .ref b), (1, .int (nI p))]) d_Mm_undercutIn_1 rfl (by decide) rfl ?_
  refine r_iconst d_Mm_undercutIn_2 (v := 0) (by decide) ?_
  refine r_istore_n (lv' := [(3, .int 0), (2, .int 0), (0, .ref b), (1, .int (nI p))]) d_Mm_undercutIn_3 rfl (by decide) rfl ?_
  refine r_lvE (lv2 := [(3, .int (nI 0)), (2, .int (nI (ucT f p 0))), (0, .ref b), (1, .int (nI p))]) (rfl) ?_
  refine r_cs (cs2 := [(b, .inl (1, 108, .inl f))]) (rfl) ?_
  exact L_Mm_undercutIn_4 g b f p hp1 hp hf w0 _  (12 + 1) 0 (Nat.zero_le _) (by omega)
abbrev M_Mm_undercut : zM := (⟨"IronpourModel", "undercut", "()I"⟩, prog_14_method_12_code, 1, (Option.some FieldType.int), 3, 66, [])
theorem d_Mm_undercut_0 : decode prog_14_method_12_code 0 = .ok (.aload_n 0, 1) := zo_42 (zd_b zq_prog_14_method_12_code_0 0 rfl rfl rfl)
theorem d_Mm_undercut_1 : decode prog_14_method_12_code 1 = .ok (.iconst 0, 1) := zo_3 (zd_b zq_prog_14_method_12_code_0 1 rfl rfl rfl)
theorem d_Mm_undercut_2 : decode prog_14_method_12_code 2 = .ok (.putfield 84, 3) := zo_181 (d := 0) (e := 84) (zd_b zq_prog_14_method_12_code_0 2 rfl rfl rfl) (zd_b zq_prog_14_method_12_code_0 3 rfl rfl rfl) (zd_b zq_prog_14_method_12_code_0 4 rfl rfl rfl)
theorem d_Mm_undercut_5 : decode prog_14_method_12_code 5 = .ok (.aload_n 0, 1) := zo_42 (zd_b zq_prog_14_method_12_code_0 5 rfl rfl rfl)
theorem d_Mm_undercut_6 : decode prog_14_method_12_code 6 = .ok (.getfield 7, 3) := zo_180 (d := 0) (e := 7) (zd_b zq_prog_14_method_12_code_0 6 rfl rfl rfl) (zd_b zq_prog_14_method_12_code_0 7 rfl rfl rfl) (zd_b zq_prog_14_method_12_code_0 8 rfl rfl rfl)
theorem d_Mm_undercut_9 : decode prog_14_method_12_code 9 = .ok (.aload_n 0, 1) := zo_42 (zd_b zq_prog_14_method_12_code_0 9 rfl rfl rfl)
theorem d_Mm_undercut_10 : decode prog_14_method_12_code 10 = .ok (.getfield 13, 3) := zo_180 (d := 0) (e := 13) (zd_b zq_prog_14_method_12_code_0 10 rfl rfl rfl) (zd_b zq_prog_14_method_12_code_0 11 rfl rfl rfl) (zd_b zq_prog_14_method_12_code_0 12 rfl rfl rfl)
theorem d_Mm_undercut_13 : decode prog_14_method_12_code 13 = .ok (.invokestatic 111, 3) := zo_184 (d := 0) (e := 111) (zd_b zq_prog_14_method_12_code_0 13 rfl rfl rfl) (zd_b zq_prog_14_method_12_code_0 14 rfl rfl rfl) (zd_b zq_prog_14_method_12_code_0 15 rfl rfl rfl)
theorem ok_Mm_undercut_Mm_undercutIn : z_ok M_Mm_undercut M_Mm_undercutIn 2 := ⟨z_mj7 (i := 211) rfl (by decide +kernel), rfl, ⟨by decide +kernel, by decide +kernel, by decide +kernel⟩, ⟨by decide, by decide⟩, z_mj1 (i := 14) rfl (by decide +kernel), rfl⟩
theorem ln_Mm_111 : Cond.methodLink "IronpourModel" 111 M_Mm_undercutIn.1 ∈ z_gw := z_mj7 (i := 209) rfl (by decide +kernel)
theorem w_st_Mm_undercutIn : Cond.static M_Mm_undercutIn.1 ∈ z_gw := z_mj7 (i := 210) rfl (by decide +kernel)
theorem d_Mm_undercut_16 : decode prog_14_method_12_code 16 = .ok (.ireturn, 1) := zo_172 (zd_b zq_prog_14_method_12_code_0 16 rfl rfl rfl)
set_option maxHeartbeats 4000000 in
set_option maxRecDepth 100000 in
theorem C_Mm_undercut (g : zG) (m mp mf mh mn mt mz mc_ mq mgr ml mi mr mm mu mk mx : Nat) (th cl wa co_ fi bu ho lh mg wd fpi fal : Int32) (po de : Int64) (f : Nat → Int32) (p : Nat) (hp1 : 1 ≤ p) (hp : p < 9) (hf : z_ch f) : CT g M_Mm_undercut [.ref m] [(m, .inr (12, [.int th, .ref mp, .int (nI p), .ref mf, .ref mh, .ref mn, .ref mt, .ref mz, .ref mc_, .ref mq, .ref mgr, .int cl, .int wa, .int co_, .int fi, .int bu, .int ho, .ref ml, .ref mi, .ref mr, .int lh, .int mg, .int wd, .int fpi, .int fal, .ref mm, .ref mu, .ref mk, .ref mx, .long po, .long de])), (mp, .inl (1, 108, .inl f))] (fun o cs1 => o = .inl (some (.int (nI (ucT f p 12)))) ∧ cs1 = [(m, .inr (12, [.int 0, .ref mp, .int (nI p), .ref mf, .ref mh, .ref mn, .ref mt, .ref mz, .ref mc_, .ref mq, .ref mgr, .int cl, .int wa, .int co_, .int fi, .int bu, .int ho, .ref ml, .ref mi, .ref mr, .int lh, .int mg, .int wd, .int fpi, .int fal, .ref mm, .ref mu, .ref mk, .ref mx, .long po, .long de])), (mp, .inl (1, 108, .inl f))]) 0 0 := by
  refine z_of (by decide) rfl (Nat.le_of_ble_eq_true rfl) (fun w0 => ?_)
  refine r_lvE (lv2 := [(0, .ref m)]) rfl ?_
  refine r_aload_n d_Mm_undercut_0 rfl 0 rfl ?_
  refine r_iconst d_Mm_undercut_1 (v := 0) (by decide) ?_
  refine r_put fp_Mm_84 d_Mm_undercut_2 (fun h => nomatch h) rfl rfl (q0 := 0) rfl (Nat.le_of_ble_eq_true rfl) (cs' := [(m, .inr (12, [.int 0, .ref mp, .int (nI p), .ref mf, .ref mh, .ref mn, .ref mt, .ref mz, .ref mc_, .ref mq, .ref mgr, .int cl, .int wa, .int co_, .int fi, .int bu, .int ho, .ref ml, .ref mi, .ref mr, .int lh, .int mg, .int wd, .int fpi, .int fal, .ref mm, .ref mu, .ref mk, .ref mx, .long po, .long de])), (mp, .inl (1, 108, .inl f))]) rfl ?_
  refine r_aload_n d_Mm_undercut_5 rfl 0 rfl ?_
  refine r_get fs_Mm_7 d_Mm_undercut_6 (q0 := 0) rfl rfl ?_
  refine r_aload_n d_Mm_undercut_9 rfl 0 rfl ?_
  refine r_get fs_Mm_13 d_Mm_undercut_10 (q0 := 0) rfl rfl ?_
  refine r_callS (As := [.ref mp, .int (nI p)]) (rest := []) (csC := [(mp, .inl (1, 108, .inl f))]) (is := [1]) ln_Mm_111 w_st_Mm_undercutIn ok_Mm_undercut_Mm_undercutIn d_Mm_undercut_13 (C_Mm_undercutIn g mp f p hp1 hp hf) rfl rfl (Nat.le_of_ble_eq_true rfl) rfl (by decide) (by omega) (by omega) (fun E cs1 hx => ?_) (fun v cs1 hx => ?_)
  · exact absurd hx.1 (by simp)
  · obtain ⟨e1, rfl⟩ := hx
    cases e1
    refine ⟨rfl, ?_⟩
    refine r_st (st2 := [.int (nI (ucT f p 12))]) rfl ?_
    refine r_cs (cs2 := [(m, .inr (12, [.int 0, .ref mp, .int (nI p), .ref mf, .ref mh, .ref mn, .ref mt, .ref mz, .ref mc_, .ref mq, .ref mgr, .int cl, .int wa, .int co_, .int fi, .int bu, .int ho, .ref ml, .ref mi, .ref mr, .int lh, .int mg, .int wd, .int fpi, .int fal, .ref mm, .ref mu, .ref mk, .ref mx, .long po, .long de])), (mp, .inl (1, 108, .inl f))]) rfl ?_
    refine r_iret d_Mm_undercut_16 rfl rfl ?_
    exact ⟨rfl, rfl⟩
end
