section
theorem sd_cases {w : Int32} (h : w.toInt < 98 ∨ 119 < w.toInt ∨ (w = 101 ∨ w = 103 ∨ w = 104 ∨ w = 105 ∨ w = 106 ∨ w = 108 ∨ w = 109 ∨ w = 110 ∨ w = 111 ∨ w = 112 ∨ w = 113 ∨ w = 114 ∨ w = 116 ∨ w = 117 ∨ w = 118) ∨ (w = 99 ∨ w = 119 ∨ w = 107 ∨ w = 102 ∨ w = 98 ∨ w = 115 ∨ w = 100)) (hn : ¬ (w = 99 ∨ w = 119 ∨ w = 107 ∨ w = 102 ∨ w = 98 ∨ w = 115 ∨ w = 100)) : (w.toInt < 98 ∨ 119 < w.toInt) ∨ (w = 101 ∨ w = 103 ∨ w = 104 ∨ w = 105 ∨ w = 106 ∨ w = 108 ∨ w = 109 ∨ w = 110 ∨ w = 111 ∨ w = 112 ∨ w = 113 ∨ w = 114 ∨ w = 116 ∨ w = 117 ∨ w = 118) := by
  rcases h with h | h | h | h
  · exact Or.inl (Or.inl h)
  · exact Or.inl (Or.inr h)
  · exact Or.inr h
  · exact absurd h hn
theorem sd_all (w : Int32) : w.toInt < 98 ∨ 119 < w.toInt ∨ (w = 101 ∨ w = 103 ∨ w = 104 ∨ w = 105 ∨ w = 106 ∨ w = 108 ∨ w = 109 ∨ w = 110 ∨ w = 111 ∨ w = 112 ∨ w = 113 ∨ w = 114 ∨ w = 116 ∨ w = 117 ∨ w = 118) ∨ (w = 99 ∨ w = 119 ∨ w = 107 ∨ w = 102 ∨ w = 98 ∨ w = 115 ∨ w = 100) := by
  by_cases h1 : w.toInt < 98
  · exact Or.inl h1
  · by_cases h2 : 119 < w.toInt
    · exact Or.inr (Or.inl h2)
    · refine Or.inr (Or.inr ?_)
      have key : ∀ k : Nat, k < 22 → (w.toInt = 98 + k) → (w = Int32.ofInt (98 + k)) := fun k _ e => Int32.toInt_inj.mp (by rw [e, Int32.toInt_ofInt_of_le (by omega) (by omega)])
      have e : w.toInt = 98 + ((w.toInt - 98).toNat : Nat) := by omega
      have hk := key (w.toInt - 98).toNat (by omega) e
      have hlt : (w.toInt - 98).toNat < 22 := by omega
      clear key e h1 h2
      generalize (w.toInt - 98).toNat = k at hk hlt
      subst hk
      revert k
      decide
abbrev M_Ip_mill : zM := (⟨"Ironpour", "mill", "(IIII)I"⟩, prog_1_method_18_code, 5, (Option.some FieldType.int), 6, 100, [])
theorem d_Ip_mill_0 : decode prog_1_method_18_code 0 = .ok (.iload_n 1, 1) := zo_27 (zd_b zq_prog_1_method_18_code_0 0 rfl rfl rfl)
theorem d_Ip_mill_1 : decode prog_1_method_18_code 1 = .ok (.iconst 0, 1) := zo_3 (zd_b zq_prog_1_method_18_code_0 1 rfl rfl rfl)
theorem d_Ip_mill_2 : decode prog_1_method_18_code 2 = .ok (.bipush 20, 2) := zo_16 (d := 20) (zd_b zq_prog_1_method_18_code_0 2 rfl rfl rfl) (zd_b zq_prog_1_method_18_code_0 3 rfl rfl rfl) (by decide +kernel)
theorem d_Ip_mill_4 : decode prog_1_method_18_code 4 = .ok (.invokestatic 203, 3) := zo_184 (d := 0) (e := 203) (zd_b zq_prog_1_method_18_code_0 4 rfl rfl rfl) (zd_b zq_prog_1_method_18_code_0 5 rfl rfl rfl) (zd_b zq_prog_1_method_18_code_0 6 rfl rfl rfl)
theorem ok_Ip_mill_Ip_isWithin : z_ok M_Ip_mill M_Ip_isWithin 3 := ⟨z_mj4 (i := 97) rfl (by decide +kernel), rfl, ⟨by decide +kernel, by decide +kernel, by decide +kernel⟩, ⟨by decide, by decide⟩, z_mj1 (i := 1) rfl (by decide +kernel), rfl⟩
theorem d_Ip_mill_7 : decode prog_1_method_18_code 7 = .ok (.ifCond .eq 34, 3) := zo_153 (d := 0) (e := 34) (zd_b zq_prog_1_method_18_code_0 7 rfl rfl rfl) (zd_b zq_prog_1_method_18_code_0 8 rfl rfl rfl) (zd_b zq_prog_1_method_18_code_0 9 rfl rfl rfl) (by decide +kernel)
theorem d_Ip_mill_41 : decode prog_1_method_18_code 41 = .ok (.new 89, 3) := zo_187 (d := 0) (e := 89) (zd_b zq_prog_1_method_18_code_1 9 rfl rfl rfl) (zd_b zq_prog_1_method_18_code_1 10 rfl rfl rfl) (zd_b zq_prog_1_method_18_code_1 11 rfl rfl rfl)
theorem sr_Ip_207 : Cond.stringRef "Ironpour" 207 "clay, water and coal are 0 to 20, fresh sand 0 to 50" ∈ lw_tbl := z_tb4 (i := 175) rfl
theorem d_Ip_mill_44 : decode prog_1_method_18_code 44 = .ok (.dup, 1) := zo_89 (zd_b zq_prog_1_method_18_code_1 12 rfl rfl rfl)
theorem d_Ip_mill_45 : decode prog_1_method_18_code 45 = .ok (.ldc 207, 2) := zo_18 (d := 207) (zd_b zq_prog_1_method_18_code_1 13 rfl rfl rfl) (zd_b zq_prog_1_method_18_code_1 14 rfl rfl rfl)
theorem d_Ip_mill_47 : decode prog_1_method_18_code 47 = .ok (.invokespecial 93, 3) := zo_183 (d := 0) (e := 93) (zd_b zq_prog_1_method_18_code_1 15 rfl rfl rfl) (zd_b zq_prog_1_method_18_code_1 16 rfl rfl rfl) (zd_b zq_prog_1_method_18_code_1 17 rfl rfl rfl)
theorem d_Ip_mill_50 : decode prog_1_method_18_code 50 = .ok (.athrow, 1) := zo_191 (zd_b zq_prog_1_method_18_code_1 18 rfl rfl rfl)
theorem d_Ip_mill_10 : decode prog_1_method_18_code 10 = .ok (.iload_n 2, 1) := zo_28 (zd_b zq_prog_1_method_18_code_0 10 rfl rfl rfl)
theorem d_Ip_mill_11 : decode prog_1_method_18_code 11 = .ok (.iconst 0, 1) := zo_3 (zd_b zq_prog_1_method_18_code_0 11 rfl rfl rfl)
theorem d_Ip_mill_12 : decode prog_1_method_18_code 12 = .ok (.bipush 20, 2) := zo_16 (d := 20) (zd_b zq_prog_1_method_18_code_0 12 rfl rfl rfl) (zd_b zq_prog_1_method_18_code_0 13 rfl rfl rfl) (by decide +kernel)
theorem d_Ip_mill_14 : decode prog_1_method_18_code 14 = .ok (.invokestatic 203, 3) := zo_184 (d := 0) (e := 203) (zd_b zq_prog_1_method_18_code_0 14 rfl rfl rfl) (zd_b zq_prog_1_method_18_code_0 15 rfl rfl rfl) (zd_b zq_prog_1_method_18_code_0 16 rfl rfl rfl)
theorem d_Ip_mill_17 : decode prog_1_method_18_code 17 = .ok (.ifCond .eq 24, 3) := zo_153 (d := 0) (e := 24) (zd_b zq_prog_1_method_18_code_0 17 rfl rfl rfl) (zd_b zq_prog_1_method_18_code_0 18 rfl rfl rfl) (zd_b zq_prog_1_method_18_code_0 19 rfl rfl rfl) (by decide +kernel)
theorem d_Ip_mill_20 : decode prog_1_method_18_code 20 = .ok (.iload_n 3, 1) := zo_29 (zd_b zq_prog_1_method_18_code_0 20 rfl rfl rfl)
theorem d_Ip_mill_21 : decode prog_1_method_18_code 21 = .ok (.iconst 0, 1) := zo_3 (zd_b zq_prog_1_method_18_code_0 21 rfl rfl rfl)
theorem d_Ip_mill_22 : decode prog_1_method_18_code 22 = .ok (.bipush 20, 2) := zo_16 (d := 20) (zd_b zq_prog_1_method_18_code_0 22 rfl rfl rfl) (zd_b zq_prog_1_method_18_code_0 23 rfl rfl rfl) (by decide +kernel)
theorem d_Ip_mill_24 : decode prog_1_method_18_code 24 = .ok (.invokestatic 203, 3) := zo_184 (d := 0) (e := 203) (zd_b zq_prog_1_method_18_code_0 24 rfl rfl rfl) (zd_b zq_prog_1_method_18_code_0 25 rfl rfl rfl) (zd_b zq_prog_1_method_18_code_0 26 rfl rfl rfl)
theorem d_Ip_mill_27 : decode prog_1_method_18_code 27 = .ok (.ifCond .eq 14, 3) := zo_153 (d := 0) (e := 14) (zd_b zq_prog_1_method_18_code_0 27 rfl rfl rfl) (zd_b zq_prog_1_method_18_code_0 28 rfl rfl rfl) (zd_b zq_prog_1_method_18_code_0 29 rfl rfl rfl) (by decide +kernel)
theorem d_Ip_mill_30 : decode prog_1_method_18_code 30 = .ok (.iload 4, 2) := zo_21 (d := 4) (zd_b zq_prog_1_method_18_code_0 30 rfl rfl rfl) (zd_b zq_prog_1_method_18_code_0 31 rfl rfl rfl)
theorem d_Ip_mill_32 : decode prog_1_method_18_code 32 = .ok (.iconst 0, 1) := zo_3 (zd_b zq_prog_1_method_18_code_1 0 rfl rfl rfl)
theorem d_Ip_mill_33 : decode prog_1_method_18_code 33 = .ok (.bipush 50, 2) := zo_16 (d := 50) (zd_b zq_prog_1_method_18_code_1 1 rfl rfl rfl) (zd_b zq_prog_1_method_18_code_1 2 rfl rfl rfl) (by decide +kernel)
theorem d_Ip_mill_35 : decode prog_1_method_18_code 35 = .ok (.invokestatic 203, 3) := zo_184 (d := 0) (e := 203) (zd_b zq_prog_1_method_18_code_1 3 rfl rfl rfl) (zd_b zq_prog_1_method_18_code_1 4 rfl rfl rfl) (zd_b zq_prog_1_method_18_code_1 5 rfl rfl rfl)
theorem d_Ip_mill_38 : decode prog_1_method_18_code 38 = .ok (.ifCond .ne 13, 3) := zo_154 (d := 0) (e := 13) (zd_b zq_prog_1_method_18_code_1 6 rfl rfl rfl) (zd_b zq_prog_1_method_18_code_1 7 rfl rfl rfl) (zd_b zq_prog_1_method_18_code_1 8 rfl rfl rfl) (by decide +kernel)
set_option maxHeartbeats 4000000 in
set_option maxRecDepth 100000 in
theorem C_Ip_millE (g : zG) (a pa ta sa gs co fu la gy du re wm ac : Nat) (cl wa co_ fi bu : Int32) (m1 m2 m3 m4 : Int32) (hw : ¬ ((0 ≤ m1 ∧ m1 ≤ 20) ∧ (0 ≤ m2 ∧ m2 ≤ 20) ∧ (0 ≤ m3 ∧ m3 ≤ 20) ∧ (0 ≤ m4 ∧ m4 ≤ 50))) : CT g M_Ip_mill [.ref a, .int m1, .int m2, .int m3, .int m4] [(a, .inr (11, [.ref pa, .ref ta, .ref sa, .ref gs, .ref co, .ref fu, .ref la, .ref gy, .ref du, .ref re, .ref wm, .ref ac])), (gs, .inr (4, [.int cl, .int wa, .int co_, .int fi, .int bu]))] (fun o cs1 => o = .inr "java/lang/IllegalArgumentException" ∧ cs1 = [(a, .inr (11, [.ref pa, .ref ta, .ref sa, .ref gs, .ref co, .ref fu, .ref la, .ref gy, .ref du, .ref re, .ref wm, .ref ac])), (gs, .inr (4, [.int cl, .int wa, .int co_, .int fi, .int bu]))]) 1 6 := by
  refine z_of (by decide) rfl (Nat.le_of_ble_eq_true rfl) (fun w0 => ?_)
  refine r_lvE (lv2 := [(0, .ref a), (1, .int m1), (2, .int m2), (3, .int m3), (4, .int m4)]) rfl ?_
  refine r_iload_n d_Ip_mill_0 rfl 1 rfl ?_
  refine r_iconst d_Ip_mill_1 (v := 0) (by decide) ?_
  refine r_bipush d_Ip_mill_2 (v := 20) (by decide) ?_
  refine r_callS (As := [.int m1, .int 0, .int 20]) (rest := []) (csC := []) (is := []) ln_Ip_203 w_st_Ip_isWithin ok_Ip_mill_Ip_isWithin d_Ip_mill_4 (C_Ip_isWithin g m1 0 20) rfl rfl (Nat.le_of_ble_eq_true rfl) rfl (by decide) (by omega) (by omega) (fun E cs1 hx => ?_) (fun v cs1 hx => ?_)
  · exact absurd hx.1 (by simp)
  · obtain ⟨e1, rfl⟩ := hx
    cases e1
    refine ⟨rfl, ?_⟩
    refine r_st (st2 := [.int (if 0 ≤ m1 ∧ m1 ≤ 20 then 1 else 0)]) rfl ?_
    refine r_cs (cs2 := [(a, .inr (11, [.ref pa, .ref ta, .ref sa, .ref gs, .ref co, .ref fu, .ref la, .ref gy, .ref du, .ref re, .ref wm, .ref ac])), (gs, .inr (4, [.int cl, .int wa, .int co_, .int fi, .int bu]))]) rfl ?_
    refine r_if_eq (tgt := 41) d_Ip_mill_7 (by decide) (fun c_7 => ?_) (fun c_7 => ?_)
    · refine r_throw tb_Ip_89_93 sr_Ip_207 d_Ip_mill_41 d_Ip_mill_44 d_Ip_mill_45 d_Ip_mill_47 d_Ip_mill_50 rfl (by decide) (by decide) (Nat.le_of_ble_eq_true rfl) (by omega) (by omega) ?_
      exact ⟨rfl, rfl⟩
    · refine r_iload_n d_Ip_mill_10 rfl 2 rfl ?_
      refine r_iconst d_Ip_mill_11 (v := 0) (by decide) ?_
      refine r_bipush d_Ip_mill_12 (v := 20) (by decide) ?_
      refine r_callS (As := [.int m2, .int 0, .int 20]) (rest := []) (csC := []) (is := []) ln_Ip_203 w_st_Ip_isWithin ok_Ip_mill_Ip_isWithin d_Ip_mill_14 (C_Ip_isWithin g m2 0 20) rfl rfl (Nat.le_of_ble_eq_true rfl) rfl (by decide) (by omega) (by omega) (fun E cs1 hx => ?_) (fun v cs1 hx => ?_)
      · exact absurd hx.1 (by simp)
      · obtain ⟨e1, rfl⟩ := hx
        cases e1
        refine ⟨rfl, ?_⟩
        refine r_st (st2 := [.int (if 0 ≤ m2 ∧ m2 ≤ 20 then 1 else 0)]) rfl ?_
        refine r_cs (cs2 := [(a, .inr (11, [.ref pa, .ref ta, .ref sa, .ref gs, .ref co, .ref fu, .ref la, .ref gy, .ref du, .ref re, .ref wm, .ref ac])), (gs, .inr (4, [.int cl, .int wa, .int co_, .int fi, .int bu]))]) rfl ?_
        refine r_if_eq (tgt := 41) d_Ip_mill_17 (by decide) (fun c_17 => ?_) (fun c_17 => ?_)
        · refine r_throw tb_Ip_89_93 sr_Ip_207 d_Ip_mill_41 d_Ip_mill_44 d_Ip_mill_45 d_Ip_mill_47 d_Ip_mill_50 rfl (by decide) (by decide) (Nat.le_of_ble_eq_true rfl) (by omega) (by omega) ?_
          exact ⟨rfl, rfl⟩
        · refine r_iload_n d_Ip_mill_20 rfl 3 rfl ?_
          refine r_iconst d_Ip_mill_21 (v := 0) (by decide) ?_
          refine r_bipush d_Ip_mill_22 (v := 20) (by decide) ?_
          refine r_callS (As := [.int m3, .int 0, .int 20]) (rest := []) (csC := []) (is := []) ln_Ip_203 w_st_Ip_isWithin ok_Ip_mill_Ip_isWithin d_Ip_mill_24 (C_Ip_isWithin g m3 0 20) rfl rfl (Nat.le_of_ble_eq_true rfl) rfl (by decide) (by omega) (by omega) (fun E cs1 hx => ?_) (fun v cs1 hx => ?_)
          · exact absurd hx.1 (by simp)
          · obtain ⟨e1, rfl⟩ := hx
            cases e1
            refine ⟨rfl, ?_⟩
            refine r_st (st2 := [.int (if 0 ≤ m3 ∧ m3 ≤ 20 then 1 else 0)]) rfl ?_
            refine r_cs (cs2 := [(a, .inr (11, [.ref pa, .ref ta, .ref sa, .ref gs, .ref co, .ref fu, .ref la, .ref gy, .ref du, .ref re, .ref wm, .ref ac])), (gs, .inr (4, [.int cl, .int wa, .int co_, .int fi, .int bu]))]) rfl ?_
            refine r_if_eq (tgt := 41) d_Ip_mill_27 (by decide) (fun c_27 => ?_) (fun c_27 => ?_)
            · refine r_throw tb_Ip_89_93 sr_Ip_207 d_Ip_mill_41 d_Ip_mill_44 d_Ip_mill_45 d_Ip_mill_47 d_Ip_mill_50 rfl (by decide) (by decide) (Nat.le_of_ble_eq_true rfl) (by omega) (by omega) ?_
              exact ⟨rfl, rfl⟩
            · refine r_iload d_Ip_mill_30 4 rfl ?_
              refine r_iconst d_Ip_mill_32 (v := 0) (by decide) ?_
              refine r_bipush d_Ip_mill_33 (v := 50) (by decide) ?_
              refine r_callS (As := [.int m4, .int 0, .int 50]) (rest := []) (csC := []) (is := []) ln_Ip_203 w_st_Ip_isWithin ok_Ip_mill_Ip_isWithin d_Ip_mill_35 (C_Ip_isWithin g m4 0 50) rfl rfl (Nat.le_of_ble_eq_true rfl) rfl (by decide) (by omega) (by omega) (fun E cs1 hx => ?_) (fun v cs1 hx => ?_)
              · exact absurd hx.1 (by simp)
              · obtain ⟨e1, rfl⟩ := hx
                cases e1
                refine ⟨rfl, ?_⟩
                refine r_st (st2 := [.int (if 0 ≤ m4 ∧ m4 ≤ 50 then 1 else 0)]) rfl ?_
                refine r_cs (cs2 := [(a, .inr (11, [.ref pa, .ref ta, .ref sa, .ref gs, .ref co, .ref fu, .ref la, .ref gy, .ref du, .ref re, .ref wm, .ref ac])), (gs, .inr (4, [.int cl, .int wa, .int co_, .int fi, .int bu]))]) rfl ?_
                refine r_if_ne (tgt := 51) d_Ip_mill_38 (by decide) (fun c_38 => ?_) (fun c_38 => ?_)
                · exact absurd ⟨z_b1 c_7, z_b1 c_17, z_b1 c_27, z_b1 c_38⟩ hw
                · refine r_throw tb_Ip_89_93 sr_Ip_207 d_Ip_mill_41 d_Ip_mill_44 d_Ip_mill_45 d_Ip_mill_47 d_Ip_mill_50 rfl (by decide) (by decide) (Nat.le_of_ble_eq_true rfl) (by omega) (by omega) ?_
                  exact ⟨rfl, rfl⟩
theorem d_Ip_mill_51 : decode prog_1_method_18_code 51 = .ok (.aload_n 0, 1) := zo_42 (zd_b zq_prog_1_method_18_code_1 19 rfl rfl rfl)
theorem d_Ip_mill_52 : decode prog_1_method_18_code 52 = .ok (.getfield 29, 3) := zo_180 (d := 0) (e := 29) (zd_b zq_prog_1_method_18_code_1 20 rfl rfl rfl) (zd_b zq_prog_1_method_18_code_1 21 rfl rfl rfl) (zd_b zq_prog_1_method_18_code_1 22 rfl rfl rfl)
theorem fs_Ip_29 : z_fs "Ironpour" 29 11 3 := ⟨R_Ip, "Ironpour", F_Ip, 12, rfl, u_Ip, by decide, Or.inl ⟨z_mj2 (i := 66) rfl (by decide +kernel), Or.inl rfl⟩⟩
theorem d_Ip_mill_55 : decode prog_1_method_18_code 55 = .ok (.iload_n 1, 1) := zo_27 (zd_b zq_prog_1_method_18_code_1 23 rfl rfl rfl)
theorem d_Ip_mill_56 : decode prog_1_method_18_code 56 = .ok (.iload_n 2, 1) := zo_28 (zd_b zq_prog_1_method_18_code_1 24 rfl rfl rfl)
theorem d_Ip_mill_57 : decode prog_1_method_18_code 57 = .ok (.iload_n 3, 1) := zo_29 (zd_b zq_prog_1_method_18_code_1 25 rfl rfl rfl)
theorem d_Ip_mill_58 : decode prog_1_method_18_code 58 = .ok (.iload 4, 2) := zo_21 (d := 4) (zd_b zq_prog_1_method_18_code_1 26 rfl rfl rfl) (zd_b zq_prog_1_method_18_code_1 27 rfl rfl rfl)
theorem d_Ip_mill_60 : decode prog_1_method_18_code 60 = .ok (.invokevirtual 209, 3) := zo_182 (d := 0) (e := 209) (zd_b zq_prog_1_method_18_code_1 28 rfl rfl rfl) (zd_b zq_prog_1_method_18_code_1 29 rfl rfl rfl) (zd_b zq_prog_1_method_18_code_1 30 rfl rfl rfl)
theorem ok_Ip_mill_GS_mix : z_ok M_Ip_mill M_GS_mix 4 := ⟨z_mj4 (i := 179) rfl (by decide +kernel), rfl, ⟨by decide +kernel, by decide +kernel, by decide +kernel⟩, ⟨by decide, by decide⟩, z_mj1 (i := 5) rfl (by decide +kernel), rfl⟩
theorem ln_Ip_209 : Cond.methodLink "Ironpour" 209 M_GS_mix.1 ∈ z_gw := z_mj4 (i := 176) rfl (by decide +kernel)
theorem w_im_GS_mix : Cond.instanceMethod M_GS_mix.1 ∈ z_gw := z_mj4 (i := 177) rfl (by decide +kernel)
theorem w_se_GS_mix : Cond.selects M_GS_mix.1.cls M_GS_mix.1 M_GS_mix.1 ∈ z_gw := z_mj4 (i := 178) rfl (by decide +kernel)
theorem d_Ip_mill_63 : decode prog_1_method_18_code 63 = .ok (.aload_n 0, 1) := zo_42 (zd_b zq_prog_1_method_18_code_1 31 rfl rfl rfl)
theorem d_Ip_mill_64 : decode prog_1_method_18_code 64 = .ok (.getfield 29, 3) := zo_180 (d := 0) (e := 29) (zd_b zq_prog_1_method_18_code_2 0 rfl rfl rfl) (zd_b zq_prog_1_method_18_code_2 1 rfl rfl rfl) (zd_b zq_prog_1_method_18_code_2 2 rfl rfl rfl)
theorem d_Ip_mill_67 : decode prog_1_method_18_code 67 = .ok (.invokevirtual 213, 3) := zo_182 (d := 0) (e := 213) (zd_b zq_prog_1_method_18_code_2 3 rfl rfl rfl) (zd_b zq_prog_1_method_18_code_2 4 rfl rfl rfl) (zd_b zq_prog_1_method_18_code_2 5 rfl rfl rfl)
theorem ok_Ip_mill_GS_strength : z_ok M_Ip_mill M_GS_strength 0 := ⟨z_mj4 (i := 184) rfl (by decide +kernel), rfl, ⟨by decide +kernel, by decide +kernel, by decide +kernel⟩, ⟨by decide, by decide⟩, z_mj1 (i := 5) rfl (by decide +kernel), rfl⟩
theorem ln_Ip_213 : Cond.methodLink "Ironpour" 213 M_GS_strength.1 ∈ z_gw := z_mj4 (i := 181) rfl (by decide +kernel)
theorem d_Ip_mill_70 : decode prog_1_method_18_code 70 = .ok (.ireturn, 1) := zo_172 (zd_b zq_prog_1_method_18_code_2 6 rfl rfl rfl)
set_option maxHeartbeats 4000000 in
set_option maxRecDepth 100000 in
theorem C_Ip_millN (g : zG) (a pa ta sa gs co fu la gy du re wm ac : Nat) (cl wa co_ fi bu : Int32) (m1 m2 m3 m4 : Int32) (hw : ((0 ≤ m1 ∧ m1 ≤ 20) ∧ (0 ≤ m2 ∧ m2 ≤ 20) ∧ (0 ≤ m3 ∧ m3 ≤ 20) ∧ (0 ≤ m4 ∧ m4 ≤ 50))) : CT g M_Ip_mill [.ref a, .int m1, .int m2, .int m3, .int m4] [(a, .inr (11, [.ref pa, .ref ta, .ref sa, .ref gs, .ref co, .ref fu, .ref la, .ref gy, .ref du, .ref re, .ref wm, .ref ac])), (gs, .inr (4, [.int cl, .int wa, .int co_, .int fi, .int bu]))] (fun o cs1 => o = .inl (some (.int (S_GS_strength gs (if cl + m1 < 300 then cl + m1 else 300) (if wa + m2 < 300 then wa + m2 else 300) (if co_ + m3 < 300 then co_ + m3 else 300) (fi - ((fi * m4) / 100)) (bu - ((bu * m4) / 100))))) ∧ cs1 = [(a, .inr (11, [.ref pa, .ref ta, .ref sa, .ref gs, .ref co, .ref fu, .ref la, .ref gy, .ref du, .ref re, .ref wm, .ref ac])), (gs, .inr (4, [.int (if cl + m1 < 300 then cl + m1 else 300), .int (if wa + m2 < 300 then wa + m2 else 300), .int (if co_ + m3 < 300 then co_ + m3 else 300), .int (fi - ((fi * m4) / 100)), .int (bu - ((bu * m4) / 100))]))]) 1 6 := by
  refine z_of (by decide) rfl (Nat.le_of_ble_eq_true rfl) (fun w0 => ?_)
  refine r_lvE (lv2 := [(0, .ref a), (1, .int m1), (2, .int m2), (3, .int m3), (4, .int m4)]) rfl ?_
  refine r_iload_n d_Ip_mill_0 rfl 1 rfl ?_
  refine r_iconst d_Ip_mill_1 (v := 0) (by decide) ?_
  refine r_bipush d_Ip_mill_2 (v := 20) (by decide) ?_
  refine r_callS (As := [.int m1, .int 0, .int 20]) (rest := []) (csC := []) (is := []) ln_Ip_203 w_st_Ip_isWithin ok_Ip_mill_Ip_isWithin d_Ip_mill_4 (C_Ip_isWithin g m1 0 20) rfl rfl (Nat.le_of_ble_eq_true rfl) rfl (by decide) (by omega) (by omega) (fun E cs1 hx => ?_) (fun v cs1 hx => ?_)
  · exact absurd hx.1 (by simp)
  · obtain ⟨e1, rfl⟩ := hx
    cases e1
    refine ⟨rfl, ?_⟩
    refine r_st (st2 := [.int (if 0 ≤ m1 ∧ m1 ≤ 20 then 1 else 0)]) rfl ?_
    refine r_cs (cs2 := [(a, .inr (11, [.ref pa, .ref ta, .ref sa, .ref gs, .ref co, .ref fu, .ref la, .ref gy, .ref du, .ref re, .ref wm, .ref ac])), (gs, .inr (4, [.int cl, .int wa, .int co_, .int fi, .int bu]))]) rfl ?_
    refine r_if_eq (tgt := 41) d_Ip_mill_7 (by decide) (fun c_7 => ?_) (fun c_7 => ?_)
    · exact absurd hw.1 (z_b0 c_7)
    · refine r_iload_n d_Ip_mill_10 rfl 2 rfl ?_
      refine r_iconst d_Ip_mill_11 (v := 0) (by decide) ?_
      refine r_bipush d_Ip_mill_12 (v := 20) (by decide) ?_
      refine r_callS (As := [.int m2, .int 0, .int 20]) (rest := []) (csC := []) (is := []) ln_Ip_203 w_st_Ip_isWithin ok_Ip_mill_Ip_isWithin d_Ip_mill_14 (C_Ip_isWithin g m2 0 20) rfl rfl (Nat.le_of_ble_eq_true rfl) rfl (by decide) (by omega) (by omega) (fun E cs1 hx => ?_) (fun v cs1 hx => ?_)
      · exact absurd hx.1 (by simp)
      · obtain ⟨e1, rfl⟩ := hx
        cases e1
        refine ⟨rfl, ?_⟩
        refine r_st (st2 := [.int (if 0 ≤ m2 ∧ m2 ≤ 20 then 1 else 0)]) rfl ?_
        refine r_cs (cs2 := [(a, .inr (11, [.ref pa, .ref ta, .ref sa, .ref gs, .ref co, .ref fu, .ref la, .ref gy, .ref du, .ref re, .ref wm, .ref ac])), (gs, .inr (4, [.int cl, .int wa, .int co_, .int fi, .int bu]))]) rfl ?_
        refine r_if_eq (tgt := 41) d_Ip_mill_17 (by decide) (fun c_17 => ?_) (fun c_17 => ?_)
        · exact absurd hw.2.1 (z_b0 c_17)
        · refine r_iload_n d_Ip_mill_20 rfl 3 rfl ?_
          refine r_iconst d_Ip_mill_21 (v := 0) (by decide) ?_
          refine r_bipush d_Ip_mill_22 (v := 20) (by decide) ?_
          refine r_callS (As := [.int m3, .int 0, .int 20]) (rest := []) (csC := []) (is := []) ln_Ip_203 w_st_Ip_isWithin ok_Ip_mill_Ip_isWithin d_Ip_mill_24 (C_Ip_isWithin g m3 0 20) rfl rfl (Nat.le_of_ble_eq_true rfl) rfl (by decide) (by omega) (by omega) (fun E cs1 hx => ?_) (fun v cs1 hx => ?_)
          · exact absurd hx.1 (by simp)
          · obtain ⟨e1, rfl⟩ := hx
            cases e1
            refine ⟨rfl, ?_⟩
            refine r_st (st2 := [.int (if 0 ≤ m3 ∧ m3 ≤ 20 then 1 else 0)]) rfl ?_
            refine r_cs (cs2 := [(a, .inr (11, [.ref pa, .ref ta, .ref sa, .ref gs, .ref co, .ref fu, .ref la, .ref gy, .ref du, .ref re, .ref wm, .ref ac])), (gs, .inr (4, [.int cl, .int wa, .int co_, .int fi, .int bu]))]) rfl ?_
            refine r_if_eq (tgt := 41) d_Ip_mill_27 (by decide) (fun c_27 => ?_) (fun c_27 => ?_)
            · exact absurd hw.2.2.1 (z_b0 c_27)
            · refine r_iload d_Ip_mill_30 4 rfl ?_
              refine r_iconst d_Ip_mill_32 (v := 0) (by decide) ?_
              refine r_bipush d_Ip_mill_33 (v := 50) (by decide) ?_
              refine r_callS (As := [.int m4, .int 0, .int 50]) (rest := []) (csC := []) (is := []) ln_Ip_203 w_st_Ip_isWithin ok_Ip_mill_Ip_isWithin d_Ip_mill_35 (C_Ip_isWithin g m4 0 50) rfl rfl (Nat.le_of_ble_eq_true rfl) rfl (by decide) (by omega) (by omega) (fun E cs1 hx => ?_) (fun v cs1 hx => ?_)
              · exact absurd hx.1 (by simp)
              · obtain ⟨e1, rfl⟩ := hx
                cases e1
                refine ⟨rfl, ?_⟩
                refine r_st (st2 := [.int (if 0 ≤ m4 ∧ m4 ≤ 50 then 1 else 0)]) rfl ?_
                refine r_cs (cs2 := [(a, .inr (11, [.ref pa, .ref ta, .ref sa, .ref gs, .ref co, .ref fu, .ref la, .ref gy, .ref du, .ref re, .ref wm, .ref ac])), (gs, .inr (4, [.int cl, .int wa, .int co_, .int fi, .int bu]))]) rfl ?_
                refine r_if_ne (tgt := 51) d_Ip_mill_38 (by decide) (fun c_38 => ?_) (fun c_38 => ?_)
                · refine r_aload_n d_Ip_mill_51 rfl 0 rfl ?_
                  refine r_get fs_Ip_29 d_Ip_mill_52 (q0 := 0) rfl rfl ?_
                  refine r_iload_n d_Ip_mill_55 rfl 1 rfl ?_
                  refine r_iload_n d_Ip_mill_56 rfl 2 rfl ?_
                  refine r_iload_n d_Ip_mill_57 rfl 3 rfl ?_
                  refine r_iload d_Ip_mill_58 4 rfl ?_
                  refine r_callV (As := [.int m1, .int m2, .int m3, .int m4]) (rest := []) (csC := [(gs, .inr (4, [.int cl, .int wa, .int co_, .int fi, .int bu]))]) (is := [1]) (q0 := 1) rfl rfl ln_Ip_209 w_im_GS_mix w_se_GS_mix ok_Ip_mill_GS_mix d_Ip_mill_60 (C_GS_mix g gs cl wa co_ fi bu m1 m2 m3 m4) rfl rfl (Nat.le_of_ble_eq_true rfl) rfl (by decide) (by omega) (by omega) (fun E cs1 hx => ?_) (fun v cs1 hx => ?_)
                  · exact absurd hx.1 (by simp)
                  · obtain ⟨e1, rfl⟩ := hx
                    cases e1
                    refine ⟨rfl, ?_⟩
                    refine r_st (st2 := []) rfl ?_
                    refine r_cs (cs2 := [(a, .inr (11, [.ref pa, .ref ta, .ref sa, .ref gs, .ref co, .ref fu, .ref la, .ref gy, .ref du, .ref re, .ref wm, .ref ac])), (gs, .inr (4, [.int (if cl + m1 < 300 then cl + m1 else 300), .int (if wa + m2 < 300 then wa + m2 else 300), .int (if co_ + m3 < 300 then co_ + m3 else 300), .int (fi - ((fi * m4) / 100)), .int (bu - ((bu * m4) / 100))]))]) rfl ?_
                    refine r_aload_n d_Ip_mill_63 rfl 0 rfl ?_
                    refine r_get fs_Ip_29 d_Ip_mill_64 (q0 := 0) rfl rfl ?_
                    refine r_callV (As := []) (rest := []) (csC := [(gs, .inr (4, [.int (if cl + m1 < 300 then cl + m1 else 300), .int (if wa + m2 < 300 then wa + m2 else 300), .int (if co_ + m3 < 300 then co_ + m3 else 300), .int (fi - ((fi * m4) / 100)), .int (bu - ((bu * m4) / 100))]))]) (is := [1]) (q0 := 1) rfl rfl ln_Ip_213 w_im_GS_strength w_se_GS_strength ok_Ip_mill_GS_strength d_Ip_mill_67 (C_GS_strength g gs (if cl + m1 < 300 then cl + m1 else 300) (if wa + m2 < 300 then wa + m2 else 300) (if co_ + m3 < 300 then co_ + m3 else 300) (fi - ((fi * m4) / 100)) (bu - ((bu * m4) / 100))) rfl rfl (Nat.le_of_ble_eq_true rfl) rfl (by decide) (by omega) (by omega) (fun E cs1 hx => ?_) (fun v cs1 hx => ?_)
                    · exact absurd hx.1 (by simp)
                    · obtain ⟨e1, rfl⟩ := hx
                      cases e1
                      refine ⟨rfl, ?_⟩
                      refine r_st (st2 := [.int (S_GS_strength gs (if cl + m1 < 300 then cl + m1 else 300) (if wa + m2 < 300 then wa + m2 else 300) (if co_ + m3 < 300 then co_ + m3 else 300) (fi - ((fi * m4) / 100)) (bu - ((bu * m4) / 100)))]) rfl ?_
                      refine r_cs (cs2 := [(a, .inr (11, [.ref pa, .ref ta, .ref sa, .ref gs, .ref co, .ref fu, .ref la, .ref gy, .ref du, .ref re, .ref wm, .ref ac])), (gs, .inr (4, [.int (if cl + m1 < 300 then cl + m1 else 300), .int (if wa + m2 < 300 then wa + m2 else 300), .int (if co_ + m3 < 300 then co_ + m3 else 300), .int (fi - ((fi * m4) / 100)), .int (bu - ((bu * m4) / 100))]))]) rfl ?_
                      refine r_iret d_Ip_mill_70 rfl rfl ?_
                      exact ⟨rfl, rfl⟩
                · exact absurd hw.2.2.2 (z_b0 c_38)
abbrev M_Ip_sand : zM := (⟨"Ironpour", "sand", "(C)I"⟩, prog_1_method_19_code, 2, (Option.some FieldType.int), 6, 100, [])
theorem d_Ip_sand_0 : decode prog_1_method_19_code 0 = .ok (.iload_n 1, 1) := zo_27 (zd_b zq_prog_1_method_19_code_0 0 rfl rfl rfl)
theorem d_Ip_sand_1 : decode prog_1_method_19_code 1 = .ok (.tableswitch 159 98 119 #[135, 103, 151, 159, 127, 159, 159, 159, 159, 119, 159, 159, 159, 159, 159, 159, 159, 143, 159, 159, 159, 111], 103) := by decide +kernel
theorem d_Ip_sand_104 : decode prog_1_method_19_code 104 = .ok (.aload_n 0, 1) := zo_42 (zd_b zq_prog_1_method_19_code_3 8 rfl rfl rfl)
theorem d_Ip_sand_105 : decode prog_1_method_19_code 105 = .ok (.getfield 29, 3) := zo_180 (d := 0) (e := 29) (zd_b zq_prog_1_method_19_code_3 9 rfl rfl rfl) (zd_b zq_prog_1_method_19_code_3 10 rfl rfl rfl) (zd_b zq_prog_1_method_19_code_3 11 rfl rfl rfl)
theorem d_Ip_sand_108 : decode prog_1_method_19_code 108 = .ok (.getfield 216, 3) := zo_180 (d := 0) (e := 216) (zd_b zq_prog_1_method_19_code_3 12 rfl rfl rfl) (zd_b zq_prog_1_method_19_code_3 13 rfl rfl rfl) (zd_b zq_prog_1_method_19_code_3 14 rfl rfl rfl)
theorem fs_Ip_216 : z_fs "Ironpour" 216 4 0 := ⟨R_GS, "Ironpour$GreenSand", F_GS, 5, rfl, u_GS, by decide, Or.inr ⟨"Ironpour", z_mk1 (i := 145) rfl (by decide +kernel), rfl⟩⟩
theorem d_Ip_sand_111 : decode prog_1_method_19_code 111 = .ok (.ireturn, 1) := zo_172 (zd_b zq_prog_1_method_19_code_3 15 rfl rfl rfl)
set_option maxHeartbeats 4000000 in
set_option maxRecDepth 100000 in
theorem C_Ip_sand99 (g : zG) (a pa ta sa gs co fu la gy du re wm ac : Nat) (cl wa co_ fi bu : Int32) : CT g M_Ip_sand [.ref a, .int 99] [(a, .inr (11, [.ref pa, .ref ta, .ref sa, .ref gs, .ref co, .ref fu, .ref la, .ref gy, .ref du, .ref re, .ref wm, .ref ac])), (gs, .inr (4, [.int cl, .int wa, .int co_, .int fi, .int bu]))] (fun o cs1 => o = .inl (some (.int cl)) ∧ cs1 = [(a, .inr (11, [.ref pa, .ref ta, .ref sa, .ref gs, .ref co, .ref fu, .ref la, .ref gy, .ref du, .ref re, .ref wm, .ref ac])), (gs, .inr (4, [.int cl, .int wa, .int co_, .int fi, .int bu]))]) 1 6 := by
  refine z_of (by decide) rfl (Nat.le_of_ble_eq_true rfl) (fun w0 => ?_)
  refine r_lvE (lv2 := [(0, .ref a), (1, .int 99)]) rfl ?_
  refine r_iload_n d_Ip_sand_0 rfl 1 rfl ?_
  · refine r_tableIn (off := 103) (tgt := 104) d_Ip_sand_1 (by decide) (by decide) (by decide) (by decide) ?_
    refine r_aload_n d_Ip_sand_104 rfl 0 rfl ?_
    refine r_get fs_Ip_29 d_Ip_sand_105 (q0 := 0) rfl rfl ?_
    refine r_get fs_Ip_216 d_Ip_sand_108 (q0 := 1) rfl rfl ?_
    refine r_iret d_Ip_sand_111 rfl rfl ?_
    exact ⟨rfl, rfl⟩
theorem d_Ip_sand_112 : decode prog_1_method_19_code 112 = .ok (.aload_n 0, 1) := zo_42 (zd_b zq_prog_1_method_19_code_3 16 rfl rfl rfl)
theorem d_Ip_sand_113 : decode prog_1_method_19_code 113 = .ok (.getfield 29, 3) := zo_180 (d := 0) (e := 29) (zd_b zq_prog_1_method_19_code_3 17 rfl rfl rfl) (zd_b zq_prog_1_method_19_code_3 18 rfl rfl rfl) (zd_b zq_prog_1_method_19_code_3 19 rfl rfl rfl)
theorem d_Ip_sand_116 : decode prog_1_method_19_code 116 = .ok (.getfield 219, 3) := zo_180 (d := 0) (e := 219) (zd_b zq_prog_1_method_19_code_3 20 rfl rfl rfl) (zd_b zq_prog_1_method_19_code_3 21 rfl rfl rfl) (zd_b zq_prog_1_method_19_code_3 22 rfl rfl rfl)
theorem fs_Ip_219 : z_fs "Ironpour" 219 4 1 := ⟨R_GS, "Ironpour$GreenSand", F_GS, 5, rfl, u_GS, by decide, Or.inr ⟨"Ironpour", z_mk1 (i := 148) rfl (by decide +kernel), rfl⟩⟩
theorem d_Ip_sand_119 : decode prog_1_method_19_code 119 = .ok (.ireturn, 1) := zo_172 (zd_b zq_prog_1_method_19_code_3 23 rfl rfl rfl)
set_option maxHeartbeats 4000000 in
set_option maxRecDepth 100000 in
theorem C_Ip_sand119 (g : zG) (a pa ta sa gs co fu la gy du re wm ac : Nat) (cl wa co_ fi bu : Int32) : CT g M_Ip_sand [.ref a, .int 119] [(a, .inr (11, [.ref pa, .ref ta, .ref sa, .ref gs, .ref co, .ref fu, .ref la, .ref gy, .ref du, .ref re, .ref wm, .ref ac])), (gs, .inr (4, [.int cl, .int wa, .int co_, .int fi, .int bu]))] (fun o cs1 => o = .inl (some (.int wa)) ∧ cs1 = [(a, .inr (11, [.ref pa, .ref ta, .ref sa, .ref gs, .ref co, .ref fu, .ref la, .ref gy, .ref du, .ref re, .ref wm, .ref ac])), (gs, .inr (4, [.int cl, .int wa, .int co_, .int fi, .int bu]))]) 1 6 := by
  refine z_of (by decide) rfl (Nat.le_of_ble_eq_true rfl) (fun w0 => ?_)
  refine r_lvE (lv2 := [(0, .ref a), (1, .int 119)]) rfl ?_
  refine r_iload_n d_Ip_sand_0 rfl 1 rfl ?_
  · refine r_tableIn (off := 111) (tgt := 112) d_Ip_sand_1 (by decide) (by decide) (by decide) (by decide) ?_
    refine r_aload_n d_Ip_sand_112 rfl 0 rfl ?_
    refine r_get fs_Ip_29 d_Ip_sand_113 (q0 := 0) rfl rfl ?_
    refine r_get fs_Ip_219 d_Ip_sand_116 (q0 := 1) rfl rfl ?_
    refine r_iret d_Ip_sand_119 rfl rfl ?_
    exact ⟨rfl, rfl⟩
theorem d_Ip_sand_120 : decode prog_1_method_19_code 120 = .ok (.aload_n 0, 1) := zo_42 (zd_b zq_prog_1_method_19_code_3 24 rfl rfl rfl)
theorem d_Ip_sand_121 : decode prog_1_method_19_code 121 = .ok (.getfield 29, 3) := zo_180 (d := 0) (e := 29) (zd_b zq_prog_1_method_19_code_3 25 rfl rfl rfl) (zd_b zq_prog_1_method_19_code_3 26 rfl rfl rfl) (zd_b zq_prog_1_method_19_code_3 27 rfl rfl rfl)
theorem d_Ip_sand_124 : decode prog_1_method_19_code 124 = .ok (.getfield 222, 3) := zo_180 (d := 0) (e := 222) (zd_b zq_prog_1_method_19_code_3 28 rfl rfl rfl) (zd_b zq_prog_1_method_19_code_3 29 rfl rfl rfl) (zd_b zq_prog_1_method_19_code_3 30 rfl rfl rfl)
theorem fs_Ip_222 : z_fs "Ironpour" 222 4 2 := ⟨R_GS, "Ironpour$GreenSand", F_GS, 5, rfl, u_GS, by decide, Or.inr ⟨"Ironpour", z_mk1 (i := 150) rfl (by decide +kernel), rfl⟩⟩
theorem d_Ip_sand_127 : decode prog_1_method_19_code 127 = .ok (.ireturn, 1) := zo_172 (zd_b zq_prog_1_method_19_code_3 31 rfl rfl rfl)
set_option maxHeartbeats 4000000 in
set_option maxRecDepth 100000 in
theorem C_Ip_sand107 (g : zG) (a pa ta sa gs co fu la gy du re wm ac : Nat) (cl wa co_ fi bu : Int32) : CT g M_Ip_sand [.ref a, .int 107] [(a, .inr (11, [.ref pa, .ref ta, .ref sa, .ref gs, .ref co, .ref fu, .ref la, .ref gy, .ref du, .ref re, .ref wm, .ref ac])), (gs, .inr (4, [.int cl, .int wa, .int co_, .int fi, .int bu]))] (fun o cs1 => o = .inl (some (.int co_)) ∧ cs1 = [(a, .inr (11, [.ref pa, .ref ta, .ref sa, .ref gs, .ref co, .ref fu, .ref la, .ref gy, .ref du, .ref re, .ref wm, .ref ac])), (gs, .inr (4, [.int cl, .int wa, .int co_, .int fi, .int bu]))]) 1 6 := by
  refine z_of (by decide) rfl (Nat.le_of_ble_eq_true rfl) (fun w0 => ?_)
  refine r_lvE (lv2 := [(0, .ref a), (1, .int 107)]) rfl ?_
  refine r_iload_n d_Ip_sand_0 rfl 1 rfl ?_
  · refine r_tableIn (off := 119) (tgt := 120) d_Ip_sand_1 (by decide) (by decide) (by decide) (by decide) ?_
    refine r_aload_n d_Ip_sand_120 rfl 0 rfl ?_
    refine r_get fs_Ip_29 d_Ip_sand_121 (q0 := 0) rfl rfl ?_
    refine r_get fs_Ip_222 d_Ip_sand_124 (q0 := 1) rfl rfl ?_
    refine r_iret d_Ip_sand_127 rfl rfl ?_
    exact ⟨rfl, rfl⟩
theorem d_Ip_sand_128 : decode prog_1_method_19_code 128 = .ok (.aload_n 0, 1) := zo_42 (zd_b zq_prog_1_method_19_code_4 0 rfl rfl rfl)
theorem d_Ip_sand_129 : decode prog_1_method_19_code 129 = .ok (.getfield 29, 3) := zo_180 (d := 0) (e := 29) (zd_b zq_prog_1_method_19_code_4 1 rfl rfl rfl) (zd_b zq_prog_1_method_19_code_4 2 rfl rfl rfl) (zd_b zq_prog_1_method_19_code_4 3 rfl rfl rfl)
theorem d_Ip_sand_132 : decode prog_1_method_19_code 132 = .ok (.getfield 225, 3) := zo_180 (d := 0) (e := 225) (zd_b zq_prog_1_method_19_code_4 4 rfl rfl rfl) (zd_b zq_prog_1_method_19_code_4 5 rfl rfl rfl) (zd_b zq_prog_1_method_19_code_4 6 rfl rfl rfl)
theorem fs_Ip_225 : z_fs "Ironpour" 225 4 3 := ⟨R_GS, "Ironpour$GreenSand", F_GS, 5, rfl, u_GS, by decide, Or.inr ⟨"Ironpour", z_mk1 (i := 152) rfl (by decide +kernel), rfl⟩⟩
theorem d_Ip_sand_135 : decode prog_1_method_19_code 135 = .ok (.ireturn, 1) := zo_172 (zd_b zq_prog_1_method_19_code_4 7 rfl rfl rfl)
set_option maxHeartbeats 4000000 in
set_option maxRecDepth 100000 in
theorem C_Ip_sand102 (g : zG) (a pa ta sa gs co fu la gy du re wm ac : Nat) (cl wa co_ fi bu : Int32) : CT g M_Ip_sand [.ref a, .int 102] [(a, .inr (11, [.ref pa, .ref ta, .ref sa, .ref gs, .ref co, .ref fu, .ref la, .ref gy, .ref du, .ref re, .ref wm, .ref ac])), (gs, .inr (4, [.int cl, .int wa, .int co_, .int fi, .int bu]))] (fun o cs1 => o = .inl (some (.int fi)) ∧ cs1 = [(a, .inr (11, [.ref pa, .ref ta, .ref sa, .ref gs, .ref co, .ref fu, .ref la, .ref gy, .ref du, .ref re, .ref wm, .ref ac])), (gs, .inr (4, [.int cl, .int wa, .int co_, .int fi, .int bu]))]) 1 6 := by
  refine z_of (by decide) rfl (Nat.le_of_ble_eq_true rfl) (fun w0 => ?_)
  refine r_lvE (lv2 := [(0, .ref a), (1, .int 102)]) rfl ?_
  refine r_iload_n d_Ip_sand_0 rfl 1 rfl ?_
  · refine r_tableIn (off := 127) (tgt := 128) d_Ip_sand_1 (by decide) (by decide) (by decide) (by decide) ?_
    refine r_aload_n d_Ip_sand_128 rfl 0 rfl ?_
    refine r_get fs_Ip_29 d_Ip_sand_129 (q0 := 0) rfl rfl ?_
    refine r_get fs_Ip_225 d_Ip_sand_132 (q0 := 1) rfl rfl ?_
    refine r_iret d_Ip_sand_135 rfl rfl ?_
    exact ⟨rfl, rfl⟩
theorem d_Ip_sand_136 : decode prog_1_method_19_code 136 = .ok (.aload_n 0, 1) := zo_42 (zd_b zq_prog_1_method_19_code_4 8 rfl rfl rfl)
theorem d_Ip_sand_137 : decode prog_1_method_19_code 137 = .ok (.getfield 29, 3) := zo_180 (d := 0) (e := 29) (zd_b zq_prog_1_method_19_code_4 9 rfl rfl rfl) (zd_b zq_prog_1_method_19_code_4 10 rfl rfl rfl) (zd_b zq_prog_1_method_19_code_4 11 rfl rfl rfl)
theorem d_Ip_sand_140 : decode prog_1_method_19_code 140 = .ok (.getfield 228, 3) := zo_180 (d := 0) (e := 228) (zd_b zq_prog_1_method_19_code_4 12 rfl rfl rfl) (zd_b zq_prog_1_method_19_code_4 13 rfl rfl rfl) (zd_b zq_prog_1_method_19_code_4 14 rfl rfl rfl)
theorem fs_Ip_228 : z_fs "Ironpour" 228 4 4 := ⟨R_GS, "Ironpour$GreenSand", F_GS, 5, rfl, u_GS, by decide, Or.inr ⟨"Ironpour", z_mk1 (i := 154) rfl (by decide +kernel), rfl⟩⟩
theorem d_Ip_sand_143 : decode prog_1_method_19_code 143 = .ok (.ireturn, 1) := zo_172 (zd_b zq_prog_1_method_19_code_4 15 rfl rfl rfl)
set_option maxHeartbeats 4000000 in
set_option maxRecDepth 100000 in
theorem C_Ip_sand98 (g : zG) (a pa ta sa gs co fu la gy du re wm ac : Nat) (cl wa co_ fi bu : Int32) : CT g M_Ip_sand [.ref a, .int 98] [(a, .inr (11, [.ref pa, .ref ta, .ref sa, .ref gs, .ref co, .ref fu, .ref la, .ref gy, .ref du, .ref re, .ref wm, .ref ac])), (gs, .inr (4, [.int cl, .int wa, .int co_, .int fi, .int bu]))] (fun o cs1 => o = .inl (some (.int bu)) ∧ cs1 = [(a, .inr (11, [.ref pa, .ref ta, .ref sa, .ref gs, .ref co, .ref fu, .ref la, .ref gy, .ref du, .ref re, .ref wm, .ref ac])), (gs, .inr (4, [.int cl, .int wa, .int co_, .int fi, .int bu]))]) 1 6 := by
  refine z_of (by decide) rfl (Nat.le_of_ble_eq_true rfl) (fun w0 => ?_)
  refine r_lvE (lv2 := [(0, .ref a), (1, .int 98)]) rfl ?_
  refine r_iload_n d_Ip_sand_0 rfl 1 rfl ?_
  · refine r_tableIn (off := 135) (tgt := 136) d_Ip_sand_1 (by decide) (by decide) (by decide) (by decide) ?_
    refine r_aload_n d_Ip_sand_136 rfl 0 rfl ?_
    refine r_get fs_Ip_29 d_Ip_sand_137 (q0 := 0) rfl rfl ?_
    refine r_get fs_Ip_228 d_Ip_sand_140 (q0 := 1) rfl rfl ?_
    refine r_iret d_Ip_sand_143 rfl rfl ?_
    exact ⟨rfl, rfl⟩
theorem d_Ip_sand_144 : decode prog_1_method_19_code 144 = .ok (.aload_n 0, 1) := zo_42 (zd_b zq_prog_1_method_19_code_4 16 rfl rfl rfl)
theorem d_Ip_sand_145 : decode prog_1_method_19_code 145 = .ok (.getfield 29, 3) := zo_180 (d := 0) (e := 29) (zd_b zq_prog_1_method_19_code_4 17 rfl rfl rfl) (zd_b zq_prog_1_method_19_code_4 18 rfl rfl rfl) (zd_b zq_prog_1_method_19_code_4 19 rfl rfl rfl)
theorem d_Ip_sand_148 : decode prog_1_method_19_code 148 = .ok (.invokevirtual 213, 3) := zo_182 (d := 0) (e := 213) (zd_b zq_prog_1_method_19_code_4 20 rfl rfl rfl) (zd_b zq_prog_1_method_19_code_4 21 rfl rfl rfl) (zd_b zq_prog_1_method_19_code_4 22 rfl rfl rfl)
theorem ok_Ip_sand_GS_strength : z_ok M_Ip_sand M_GS_strength 0 := ⟨z_mj4 (i := 184) rfl (by decide +kernel), rfl, ⟨by decide +kernel, by decide +kernel, by decide +kernel⟩, ⟨by decide, by decide⟩, z_mj1 (i := 5) rfl (by decide +kernel), rfl⟩
theorem d_Ip_sand_151 : decode prog_1_method_19_code 151 = .ok (.ireturn, 1) := zo_172 (zd_b zq_prog_1_method_19_code_4 23 rfl rfl rfl)
set_option maxHeartbeats 4000000 in
set_option maxRecDepth 100000 in
theorem C_Ip_sand115 (g : zG) (a pa ta sa gs co fu la gy du re wm ac : Nat) (cl wa co_ fi bu : Int32) : CT g M_Ip_sand [.ref a, .int 115] [(a, .inr (11, [.ref pa, .ref ta, .ref sa, .ref gs, .ref co, .ref fu, .ref la, .ref gy, .ref du, .ref re, .ref wm, .ref ac])), (gs, .inr (4, [.int cl, .int wa, .int co_, .int fi, .int bu]))] (fun o cs1 => o = .inl (some (.int (S_GS_strength gs cl wa co_ fi bu))) ∧ cs1 = [(a, .inr (11, [.ref pa, .ref ta, .ref sa, .ref gs, .ref co, .ref fu, .ref la, .ref gy, .ref du, .ref re, .ref wm, .ref ac])), (gs, .inr (4, [.int cl, .int wa, .int co_, .int fi, .int bu]))]) 1 6 := by
  refine z_of (by decide) rfl (Nat.le_of_ble_eq_true rfl) (fun w0 => ?_)
  refine r_lvE (lv2 := [(0, .ref a), (1, .int 115)]) rfl ?_
  refine r_iload_n d_Ip_sand_0 rfl 1 rfl ?_
  · refine r_tableIn (off := 143) (tgt := 144) d_Ip_sand_1 (by decide) (by decide) (by decide) (by decide) ?_
    refine r_aload_n d_Ip_sand_144 rfl 0 rfl ?_
    refine r_get fs_Ip_29 d_Ip_sand_145 (q0 := 0) rfl rfl ?_
    refine r_callV (As := []) (rest := []) (csC := [(gs, .inr (4, [.int cl, .int wa, .int co_, .int fi, .int bu]))]) (is := [1]) (q0 := 1) rfl rfl ln_Ip_213 w_im_GS_strength w_se_GS_strength ok_Ip_sand_GS_strength d_Ip_sand_148 (C_GS_strength g gs cl wa co_ fi bu) rfl rfl (Nat.le_of_ble_eq_true rfl) rfl (by decide) (by omega) (by omega) (fun E cs1 hx => ?_) (fun v cs1 hx => ?_)
    · exact absurd hx.1 (by simp)
    · obtain ⟨e1, rfl⟩ := hx
      cases e1
      refine ⟨rfl, ?_⟩
      refine r_st (st2 := [.int (S_GS_strength gs cl wa co_ fi bu)]) rfl ?_
      refine r_cs (cs2 := [(a, .inr (11, [.ref pa, .ref ta, .ref sa, .ref gs, .ref co, .ref fu, .ref la, .ref gy, .ref du, .ref re, .ref wm, .ref ac])), (gs, .inr (4, [.int cl, .int wa, .int co_, .int fi, .int bu]))]) rfl ?_
      refine r_iret d_Ip_sand_151 rfl rfl ?_
      exact ⟨rfl, rfl⟩
theorem d_Ip_sand_152 : decode prog_1_method_19_code 152 = .ok (.aload_n 0, 1) := zo_42 (zd_b zq_prog_1_method_19_code_4 24 rfl rfl rfl)
theorem d_Ip_sand_153 : decode prog_1_method_19_code 153 = .ok (.getfield 29, 3) := zo_180 (d := 0) (e := 29) (zd_b zq_prog_1_method_19_code_4 25 rfl rfl rfl) (zd_b zq_prog_1_method_19_code_4 26 rfl rfl rfl) (zd_b zq_prog_1_method_19_code_4 27 rfl rfl rfl)
theorem d_Ip_sand_156 : decode prog_1_method_19_code 156 = .ok (.invokevirtual 231, 3) := zo_182 (d := 0) (e := 231) (zd_b zq_prog_1_method_19_code_4 28 rfl rfl rfl) (zd_b zq_prog_1_method_19_code_4 29 rfl rfl rfl) (zd_b zq_prog_1_method_19_code_4 30 rfl rfl rfl)
theorem ok_Ip_sand_GS_draught : z_ok M_Ip_sand M_GS_draught 0 := ⟨z_mj4 (i := 199) rfl (by decide +kernel), rfl, ⟨by decide +kernel, by decide +kernel, by decide +kernel⟩, ⟨by decide, by decide⟩, z_mj1 (i := 5) rfl (by decide +kernel), rfl⟩
theorem ln_Ip_231 : Cond.methodLink "Ironpour" 231 M_GS_draught.1 ∈ z_gw := z_mj4 (i := 196) rfl (by decide +kernel)
theorem d_Ip_sand_159 : decode prog_1_method_19_code 159 = .ok (.ireturn, 1) := zo_172 (zd_b zq_prog_1_method_19_code_4 31 rfl rfl rfl)
set_option maxHeartbeats 4000000 in
set_option maxRecDepth 100000 in
theorem C_Ip_sand100 (g : zG) (a pa ta sa gs co fu la gy du re wm ac : Nat) (cl wa co_ fi bu : Int32) : CT g M_Ip_sand [.ref a, .int 100] [(a, .inr (11, [.ref pa, .ref ta, .ref sa, .ref gs, .ref co, .ref fu, .ref la, .ref gy, .ref du, .ref re, .ref wm, .ref ac])), (gs, .inr (4, [.int cl, .int wa, .int co_, .int fi, .int bu]))] (fun o cs1 => o = .inl (some (.int (S_GS_draught gs cl wa co_ fi bu))) ∧ cs1 = [(a, .inr (11, [.ref pa, .ref ta, .ref sa, .ref gs, .ref co, .ref fu, .ref la, .ref gy, .ref du, .ref re, .ref wm, .ref ac])), (gs, .inr (4, [.int cl, .int wa, .int co_, .int fi, .int bu]))]) 1 6 := by
  refine z_of (by decide) rfl (Nat.le_of_ble_eq_true rfl) (fun w0 => ?_)
  refine r_lvE (lv2 := [(0, .ref a), (1, .int 100)]) rfl ?_
  refine r_iload_n d_Ip_sand_0 rfl 1 rfl ?_
  · refine r_tableIn (off := 151) (tgt := 152) d_Ip_sand_1 (by decide) (by decide) (by decide) (by decide) ?_
    refine r_aload_n d_Ip_sand_152 rfl 0 rfl ?_
    refine r_get fs_Ip_29 d_Ip_sand_153 (q0 := 0) rfl rfl ?_
    refine r_callV (As := []) (rest := []) (csC := [(gs, .inr (4, [.int cl, .int wa, .int co_, .int fi, .int bu]))]) (is := [1]) (q0 := 1) rfl rfl ln_Ip_231 w_im_GS_draught w_se_GS_draught ok_Ip_sand_GS_draught d_Ip_sand_156 (C_GS_draught g gs cl wa co_ fi bu) rfl rfl (Nat.le_of_ble_eq_true rfl) rfl (by decide) (by omega) (by omega) (fun E cs1 hx => ?_) (fun v cs1 hx => ?_)
    · exact absurd hx.1 (by simp)
    · obtain ⟨e1, rfl⟩ := hx
      cases e1
      refine ⟨rfl, ?_⟩
      refine r_st (st2 := [.int (S_GS_draught gs cl wa co_ fi bu)]) rfl ?_
      refine r_cs (cs2 := [(a, .inr (11, [.ref pa, .ref ta, .ref sa, .ref gs, .ref co, .ref fu, .ref la, .ref gy, .ref du, .ref re, .ref wm, .ref ac])), (gs, .inr (4, [.int cl, .int wa, .int co_, .int fi, .int bu]))]) rfl ?_
      refine r_iret d_Ip_sand_159 rfl rfl ?_
      exact ⟨rfl, rfl⟩
theorem d_Ip_sand_160 : decode prog_1_method_19_code 160 = .ok (.new 89, 3) := zo_187 (d := 0) (e := 89) (zd_b zq_prog_1_method_19_code_5 0 rfl rfl rfl) (zd_b zq_prog_1_method_19_code_5 1 rfl rfl rfl) (zd_b zq_prog_1_method_19_code_5 2 rfl rfl rfl)
theorem sr_Ip_234 : Cond.stringRef "Ironpour" 234 "sand has no such thing" ∈ lw_tbl := z_tb4 (i := 200) rfl
theorem d_Ip_sand_163 : decode prog_1_method_19_code 163 = .ok (.dup, 1) := zo_89 (zd_b zq_prog_1_method_19_code_5 3 rfl rfl rfl)
theorem d_Ip_sand_164 : decode prog_1_method_19_code 164 = .ok (.ldc 234, 2) := zo_18 (d := 234) (zd_b zq_prog_1_method_19_code_5 4 rfl rfl rfl) (zd_b zq_prog_1_method_19_code_5 5 rfl rfl rfl)
theorem d_Ip_sand_166 : decode prog_1_method_19_code 166 = .ok (.invokespecial 93, 3) := zo_183 (d := 0) (e := 93) (zd_b zq_prog_1_method_19_code_5 6 rfl rfl rfl) (zd_b zq_prog_1_method_19_code_5 7 rfl rfl rfl) (zd_b zq_prog_1_method_19_code_5 8 rfl rfl rfl)
theorem d_Ip_sand_169 : decode prog_1_method_19_code 169 = .ok (.athrow, 1) := zo_191 (zd_b zq_prog_1_method_19_code_5 9 rfl rfl rfl)
set_option maxHeartbeats 4000000 in
set_option maxRecDepth 100000 in
theorem C_Ip_sandE (g : zG) (a pa ta sa gs co fu la gy du re wm ac : Nat) (cl wa co_ fi bu : Int32) (w : Int32) (hn : ¬ (w = 99 ∨ w = 119 ∨ w = 107 ∨ w = 102 ∨ w = 98 ∨ w = 115 ∨ w = 100)) : CT g M_Ip_sand [.ref a, .int w] [(a, .inr (11, [.ref pa, .ref ta, .ref sa, .ref gs, .ref co, .ref fu, .ref la, .ref gy, .ref du, .ref re, .ref wm, .ref ac])), (gs, .inr (4, [.int cl, .int wa, .int co_, .int fi, .int bu]))] (fun o cs1 => o = .inr "java/lang/IllegalArgumentException" ∧ cs1 = [(a, .inr (11, [.ref pa, .ref ta, .ref sa, .ref gs, .ref co, .ref fu, .ref la, .ref gy, .ref du, .ref re, .ref wm, .ref ac])), (gs, .inr (4, [.int cl, .int wa, .int co_, .int fi, .int bu]))]) 1 6 := by
  refine z_of (by decide) rfl (Nat.le_of_ble_eq_true rfl) (fun w0 => ?_)
  refine r_lvE (lv2 := [(0, .ref a), (1, .int w)]) rfl ?_
  refine r_iload_n d_Ip_sand_0 rfl 1 rfl ?_
  rcases sd_cases (sd_all w) hn with hq | rfl | rfl | rfl | rfl | rfl | rfl | rfl | rfl | rfl | rfl | rfl | rfl | rfl | rfl | rfl
  · refine r_tableOut (tgt := 160) d_Ip_sand_1 (by first | decide | omega) (by decide) ?_
    refine r_throw tb_Ip_89_93 sr_Ip_234 d_Ip_sand_160 d_Ip_sand_163 d_Ip_sand_164 d_Ip_sand_166 d_Ip_sand_169 rfl (by decide) (by decide) (Nat.le_of_ble_eq_true rfl) (by omega) (by omega) ?_
    exact ⟨rfl, rfl⟩
  · refine r_tableIn (off := 159) (tgt := 160) d_Ip_sand_1 (by decide) (by decide) (by decide) (by decide) ?_
    refine r_throw tb_Ip_89_93 sr_Ip_234 d_Ip_sand_160 d_Ip_sand_163 d_Ip_sand_164 d_Ip_sand_166 d_Ip_sand_169 rfl (by decide) (by decide) (Nat.le_of_ble_eq_true rfl) (by omega) (by omega) ?_
    exact ⟨rfl, rfl⟩
  · refine r_tableIn (off := 159) (tgt := 160) d_Ip_sand_1 (by decide) (by decide) (by decide) (by decide) ?_
    refine r_throw tb_Ip_89_93 sr_Ip_234 d_Ip_sand_160 d_Ip_sand_163 d_Ip_sand_164 d_Ip_sand_166 d_Ip_sand_169 rfl (by decide) (by decide) (Nat.le_of_ble_eq_true rfl) (by omega) (by omega) ?_
    exact ⟨rfl, rfl⟩
  · refine r_tableIn (off := 159) (tgt := 160) d_Ip_sand_1 (by decide) (by decide) (by decide) (by decide) ?_
    refine r_throw tb_Ip_89_93 sr_Ip_234 d_Ip_sand_160 d_Ip_sand_163 d_Ip_sand_164 d_Ip_sand_166 d_Ip_sand_169 rfl (by decide) (by decide) (Nat.le_of_ble_eq_true rfl) (by omega) (by omega) ?_
    exact ⟨rfl, rfl⟩
  · refine r_tableIn (off := 159) (tgt := 160) d_Ip_sand_1 (by decide) (by decide) (by decide) (by decide) ?_
    refine r_throw tb_Ip_89_93 sr_Ip_234 d_Ip_sand_160 d_Ip_sand_163 d_Ip_sand_164 d_Ip_sand_166 d_Ip_sand_169 rfl (by decide) (by decide) (Nat.le_of_ble_eq_true rfl) (by omega) (by omega) ?_
    exact ⟨rfl, rfl⟩
  · refine r_tableIn (off := 159) (tgt := 160) d_Ip_sand_1 (by decide) (by decide) (by decide) (by decide) ?_
    refine r_throw tb_Ip_89_93 sr_Ip_234 d_Ip_sand_160 d_Ip_sand_163 d_Ip_sand_164 d_Ip_sand_166 d_Ip_sand_169 rfl (by decide) (by decide) (Nat.le_of_ble_eq_true rfl) (by omega) (by omega) ?_
    exact ⟨rfl, rfl⟩
  · refine r_tableIn (off := 159) (tgt := 160) d_Ip_sand_1 (by decide) (by decide) (by decide) (by decide) ?_
    refine r_throw tb_Ip_89_93 sr_Ip_234 d_Ip_sand_160 d_Ip_sand_163 d_Ip_sand_164 d_Ip_sand_166 d_Ip_sand_169 rfl (by decide) (by decide) (Nat.le_of_ble_eq_true rfl) (by omega) (by omega) ?_
    exact ⟨rfl, rfl⟩
  · refine r_tableIn (off := 159) (tgt := 160) d_Ip_sand_1 (by decide) (by decide) (by decide) (by decide) ?_
    refine r_throw tb_Ip_89_93 sr_Ip_234 d_Ip_sand_160 d_Ip_sand_163 d_Ip_sand_164 d_Ip_sand_166 d_Ip_sand_169 rfl (by decide) (by decide) (Nat.le_of_ble_eq_true rfl) (by omega) (by omega) ?_
    exact ⟨rfl, rfl⟩
  · refine r_tableIn (off := 159) (tgt := 160) d_Ip_sand_1 (by decide) (by decide) (by decide) (by decide) ?_
    refine r_throw tb_Ip_89_93 sr_Ip_234 d_Ip_sand_160 d_Ip_sand_163 d_Ip_sand_164 d_Ip_sand_166 d_Ip_sand_169 rfl (by decide) (by decide) (Nat.le_of_ble_eq_true rfl) (by omega) (by omega) ?_
    exact ⟨rfl, rfl⟩
  · refine r_tableIn (off := 159) (tgt := 160) d_Ip_sand_1 (by decide) (by decide) (by decide) (by decide) ?_
    refine r_throw tb_Ip_89_93 sr_Ip_234 d_Ip_sand_160 d_Ip_sand_163 d_Ip_sand_164 d_Ip_sand_166 d_Ip_sand_169 rfl (by decide) (by decide) (Nat.le_of_ble_eq_true rfl) (by omega) (by omega) ?_
    exact ⟨rfl, rfl⟩
  · refine r_tableIn (off := 159) (tgt := 160) d_Ip_sand_1 (by decide) (by decide) (by decide) (by decide) ?_
    refine r_throw tb_Ip_89_93 sr_Ip_234 d_Ip_sand_160 d_Ip_sand_163 d_Ip_sand_164 d_Ip_sand_166 d_Ip_sand_169 rfl (by decide) (by decide) (Nat.le_of_ble_eq_true rfl) (by omega) (by omega) ?_
    exact ⟨rfl, rfl⟩
  · refine r_tableIn (off := 159) (tgt := 160) d_Ip_sand_1 (by decide) (by decide) (by decide) (by decide) ?_
    refine r_throw tb_Ip_89_93 sr_Ip_234 d_Ip_sand_160 d_Ip_sand_163 d_Ip_sand_164 d_Ip_sand_166 d_Ip_sand_169 rfl (by decide) (by decide) (Nat.le_of_ble_eq_true rfl) (by omega) (by omega) ?_
    exact ⟨rfl, rfl⟩
  · refine r_tableIn (off := 159) (tgt := 160) d_Ip_sand_1 (by decide) (by decide) (by decide) (by decide) ?_
    refine r_throw tb_Ip_89_93 sr_Ip_234 d_Ip_sand_160 d_Ip_sand_163 d_Ip_sand_164 d_Ip_sand_166 d_Ip_sand_169 rfl (by decide) (by decide) (Nat.le_of_ble_eq_true rfl) (by omega) (by omega) ?_
    exact ⟨rfl, rfl⟩
  · refine r_tableIn (off := 159) (tgt := 160) d_Ip_sand_1 (by decide) (by decide) (by decide) (by decide) ?_
    refine r_throw tb_Ip_89_93 sr_Ip_234 d_Ip_sand_160 d_Ip_sand_163 d_Ip_sand_164 d_Ip_sand_166 d_Ip_sand_169 rfl (by decide) (by decide) (Nat.le_of_ble_eq_true rfl) (by omega) (by omega) ?_
    exact ⟨rfl, rfl⟩
  · refine r_tableIn (off := 159) (tgt := 160) d_Ip_sand_1 (by decide) (by decide) (by decide) (by decide) ?_
    refine r_throw tb_Ip_89_93 sr_Ip_234 d_Ip_sand_160 d_Ip_sand_163 d_Ip_sand_164 d_Ip_sand_166 d_Ip_sand_169 rfl (by decide) (by decide) (Nat.le_of_ble_eq_true rfl) (by omega) (by omega) ?_
    exact ⟨rfl, rfl⟩
  · refine r_tableIn (off := 159) (tgt := 160) d_Ip_sand_1 (by decide) (by decide) (by decide) (by decide) ?_
    refine r_throw tb_Ip_89_93 sr_Ip_234 d_Ip_sand_160 d_Ip_sand_163 d_Ip_sand_164 d_Ip_sand_166 d_Ip_sand_169 rfl (by decide) (by decide) (Nat.le_of_ble_eq_true rfl) (by omega) (by omega) ?_
    exact ⟨rfl, rfl⟩
abbrev M_Ip_elementIndex : zM := (⟨"Ironpour", "elementIndex", "(C)I"⟩, prog_1_method_60_code, 2, (Option.some FieldType.int), 8, 179, [])
theorem d_Ip_elementIndex_0 : decode prog_1_method_60_code 0 = .ok (.ldc_w 519, 3) := zo_19 (d := 2) (e := 7) (zd_b zq_prog_1_method_60_code_0 0 rfl rfl rfl) (zd_b zq_prog_1_method_60_code_0 1 rfl rfl rfl) (zd_b zq_prog_1_method_60_code_0 2 rfl rfl rfl)
theorem d_Ip_elementIndex_3 : decode prog_1_method_60_code 3 = .ok (.iload_n 0, 1) := zo_26 (zd_b zq_prog_1_method_60_code_0 3 rfl rfl rfl)
theorem d_Ip_elementIndex_4 : decode prog_1_method_60_code 4 = .ok (.invokevirtual 83, 3) := zo_182 (d := 0) (e := 83) (zd_b zq_prog_1_method_60_code_0 4 rfl rfl rfl) (zd_b zq_prog_1_method_60_code_0 5 rfl rfl rfl) (zd_b zq_prog_1_method_60_code_0 6 rfl rfl rfl)
theorem ok_Ip_elementIndex_String_indexOf_0 : z_ok M_Ip_elementIndex M_String_indexOf_0 1 := ⟨z_mj3 (i := 58) rfl (by decide +kernel), rfl, ⟨by decide +kernel, by decide +kernel, by decide +kernel⟩, ⟨by decide, by decide⟩, z_mj1 (i := 15) rfl (by decide +kernel), rfl⟩
theorem d_Ip_elementIndex_7 : decode prog_1_method_60_code 7 = .ok (.istore_n 1, 1) := zo_60 (zd_b zq_prog_1_method_60_code_0 7 rfl rfl rfl)
theorem d_Ip_elementIndex_8 : decode prog_1_method_60_code 8 = .ok (.iload_n 1, 1) := zo_27 (zd_b zq_prog_1_method_60_code_0 8 rfl rfl rfl)
theorem d_Ip_elementIndex_9 : decode prog_1_method_60_code 9 = .ok (.ifCond .ge 14, 3) := zo_156 (d := 0) (e := 14) (zd_b zq_prog_1_method_60_code_0 9 rfl rfl rfl) (zd_b zq_prog_1_method_60_code_0 10 rfl rfl rfl) (zd_b zq_prog_1_method_60_code_0 11 rfl rfl rfl) (by decide +kernel)
theorem d_Ip_elementIndex_12 : decode prog_1_method_60_code 12 = .ok (.new 89, 3) := zo_187 (d := 0) (e := 89) (zd_b zq_prog_1_method_60_code_0 12 rfl rfl rfl) (zd_b zq_prog_1_method_60_code_0 13 rfl rfl rfl) (zd_b zq_prog_1_method_60_code_0 14 rfl rfl rfl)
theorem sr_Ip_521 : Cond.stringRef "Ironpour" 521 "no such element" ∈ lw_tbl := z_tb5 (i := 76) rfl
theorem d_Ip_elementIndex_15 : decode prog_1_method_60_code 15 = .ok (.dup, 1) := zo_89 (zd_b zq_prog_1_method_60_code_0 15 rfl rfl rfl)
theorem d_Ip_elementIndex_16 : decode prog_1_method_60_code 16 = .ok (.ldc_w 521, 3) := zo_19 (d := 2) (e := 9) (zd_b zq_prog_1_method_60_code_0 16 rfl rfl rfl) (zd_b zq_prog_1_method_60_code_0 17 rfl rfl rfl) (zd_b zq_prog_1_method_60_code_0 18 rfl rfl rfl)
theorem d_Ip_elementIndex_19 : decode prog_1_method_60_code 19 = .ok (.invokespecial 93, 3) := zo_183 (d := 0) (e := 93) (zd_b zq_prog_1_method_60_code_0 19 rfl rfl rfl) (zd_b zq_prog_1_method_60_code_0 20 rfl rfl rfl) (zd_b zq_prog_1_method_60_code_0 21 rfl rfl rfl)
theorem d_Ip_elementIndex_22 : decode prog_1_method_60_code 22 = .ok (.athrow, 1) := zo_191 (zd_b zq_prog_1_method_60_code_0 22 rfl rfl rfl)
set_option maxHeartbeats 4000000 in
set_option maxRecDepth 100000 in
theorem C_Ip_elementIndexE (g : zG) (k : Int32) (hk : z_ix 2 k < 0) : CT g M_Ip_elementIndex [.int k] [] (fun o cs1 => o = .inr "java/lang/IllegalArgumentException" ∧ cs1 = []) 1 6 := by
  refine z_of (by decide) rfl (Nat.le_of_ble_eq_true rfl) (fun w0 => ?_)
  refine r_lvE (lv2 := [(0, .int k)]) rfl ?_
  refine r_ldcWS (own := "Ironpour") (i := 2) (by decide) d_Ip_elementIndex_0 ?_
  refine r_iload_n d_Ip_elementIndex_3 rfl 0 rfl ?_
  refine r_callVS (As := [.int k]) (rest := []) (csC := []) (is := []) (i := 2) (by first | assumption | decide) rfl ln_Ip_83 w_im_String_indexOf_0 w_se_String_indexOf_0 ok_Ip_elementIndex_String_indexOf_0 d_Ip_elementIndex_4 (C_St_indexOf g 2 (by decide) k) rfl rfl (Nat.le_of_ble_eq_true rfl) rfl (by decide) (by omega) (by omega) (fun E cs1 hx => ?_) (fun v cs1 hx => ?_)
  · exact absurd hx.1 (by simp)
  · obtain ⟨e1, rfl⟩ := hx
    cases e1
    refine ⟨rfl, ?_⟩
    refine r_st (st2 := [.int (z_ix 2 k)]) rfl ?_
    refine r_cs (cs2 := []) rfl ?_
    refine r_istore_n (lv' := [(1, .int (z_ix 2 k)), (0, .int k)]) d_Ip_elementIndex_7 rfl (by decide) rfl ?_
    refine r_iload_n d_Ip_elementIndex_8 rfl 0 rfl ?_
    refine r_if_ge (tgt := 23) d_Ip_elementIndex_9 (by decide) (fun c_9 => ?_) (fun c_9 => ?_)
    · exact absurd hk (Int32.not_lt.mpr c_9)
    · refine r_throwW tb_Ip_89_93 sr_Ip_521 d_Ip_elementIndex_12 d_Ip_elementIndex_15 d_Ip_elementIndex_16 d_Ip_elementIndex_19 d_Ip_elementIndex_22 rfl (by decide) (by decide) (Nat.le_of_ble_eq_true rfl) (by omega) (by omega) ?_
      exact ⟨rfl, rfl⟩
theorem d_Ip_elementIndex_23 : decode prog_1_method_60_code 23 = .ok (.iload_n 1, 1) := zo_27 (zd_b zq_prog_1_method_60_code_0 23 rfl rfl rfl)
theorem d_Ip_elementIndex_24 : decode prog_1_method_60_code 24 = .ok (.ireturn, 1) := zo_172 (zd_b zq_prog_1_method_60_code_0 24 rfl rfl rfl)
set_option maxHeartbeats 4000000 in
set_option maxRecDepth 100000 in
theorem C_Ip_elementIndexN (g : zG) (k : Int32) (e : Nat) (he : e < 4) (hk : z_ix 2 k = nI e) : CT g M_Ip_elementIndex [.int k] [] (fun o cs1 => o = .inl (some (.int (nI e))) ∧ cs1 = []) 1 6 := by
  refine z_of (by decide) rfl (Nat.le_of_ble_eq_true rfl) (fun w0 => ?_)
  refine r_lvE (lv2 := [(0, .int k)]) rfl ?_
  refine r_ldcWS (own := "Ironpour") (i := 2) (by decide) d_Ip_elementIndex_0 ?_
  refine r_iload_n d_Ip_elementIndex_3 rfl 0 rfl ?_
  refine r_callVS (As := [.int k]) (rest := []) (csC := []) (is := []) (i := 2) (by first | assumption | decide) rfl ln_Ip_83 w_im_String_indexOf_0 w_se_String_indexOf_0 ok_Ip_elementIndex_String_indexOf_0 d_Ip_elementIndex_4 (C_St_indexOf g 2 (by decide) k) rfl rfl (Nat.le_of_ble_eq_true rfl) rfl (by decide) (by omega) (by omega) (fun E cs1 hx => ?_) (fun v cs1 hx => ?_)
  · exact absurd hx.1 (by simp)
  · obtain ⟨e1, rfl⟩ := hx
    cases e1
    refine ⟨rfl, ?_⟩
    refine r_st (st2 := [.int (z_ix 2 k)]) rfl ?_
    refine r_cs (cs2 := []) rfl ?_
    refine r_istore_n (lv' := [(1, .int (z_ix 2 k)), (0, .int k)]) d_Ip_elementIndex_7 rfl (by decide) rfl ?_
    refine r_iload_n d_Ip_elementIndex_8 rfl 0 rfl ?_
    refine r_if_ge (tgt := 23) d_Ip_elementIndex_9 (by decide) (fun c_9 => ?_) (fun c_9 => ?_)
    · refine r_iload_n d_Ip_elementIndex_23 rfl 0 rfl ?_
      refine r_iret d_Ip_elementIndex_24 rfl rfl ?_
      exact ⟨by rw [hk], rfl⟩
    · exact absurd (by rw [hk]; exact Int32.not_lt.mp (nI_nneg (by omega))) c_9
abbrev M_Ip_poolOf : zM := (⟨"Ironpour", "poolOf", "(C)LIronpour$Metal;"⟩, prog_1_method_62_code, 2, (Option.some (FieldType.object "Ironpour$Metal")), 1, 20, [])
theorem d_Ip_poolOf_0 : decode prog_1_method_62_code 0 = .ok (.iload_n 1, 1) := zo_27 (zd_b zq_prog_1_method_62_code_0 0 rfl rfl rfl)
theorem d_Ip_poolOf_1 : decode prog_1_method_62_code 1 = .ok (.bipush 103, 2) := zo_16 (d := 103) (zd_b zq_prog_1_method_62_code_0 1 rfl rfl rfl) (zd_b zq_prog_1_method_62_code_0 2 rfl rfl rfl) (by decide +kernel)
theorem d_Ip_poolOf_3 : decode prog_1_method_62_code 3 = .ok (.if_icmp .ne 8, 3) := zo_160 (d := 0) (e := 8) (zd_b zq_prog_1_method_62_code_0 3 rfl rfl rfl) (zd_b zq_prog_1_method_62_code_0 4 rfl rfl rfl) (zd_b zq_prog_1_method_62_code_0 5 rfl rfl rfl) (by decide +kernel)
theorem d_Ip_poolOf_6 : decode prog_1_method_62_code 6 = .ok (.aload_n 0, 1) := zo_42 (zd_b zq_prog_1_method_62_code_0 6 rfl rfl rfl)
theorem d_Ip_poolOf_7 : decode prog_1_method_62_code 7 = .ok (.getfield 57, 3) := zo_180 (d := 0) (e := 57) (zd_b zq_prog_1_method_62_code_0 7 rfl rfl rfl) (zd_b zq_prog_1_method_62_code_0 8 rfl rfl rfl) (zd_b zq_prog_1_method_62_code_0 9 rfl rfl rfl)
theorem d_Ip_poolOf_10 : decode prog_1_method_62_code 10 = .ok (.areturn, 1) := zo_176 (zd_b zq_prog_1_method_62_code_0 10 rfl rfl rfl)
set_option maxHeartbeats 4000000 in
set_option maxRecDepth 100000 in
theorem C_Ip_poolOfG (g : zG) (a pa ta sa gs co fu la gy du re wm ac : Nat) : CT g M_Ip_poolOf [.ref a, .int 103] [(a, .inr (11, [.ref pa, .ref ta, .ref sa, .ref gs, .ref co, .ref fu, .ref la, .ref gy, .ref du, .ref re, .ref wm, .ref ac]))] (fun o cs1 => o = .inl (some (.ref gy)) ∧ cs1 = [(a, .inr (11, [.ref pa, .ref ta, .ref sa, .ref gs, .ref co, .ref fu, .ref la, .ref gy, .ref du, .ref re, .ref wm, .ref ac]))]) 0 0 := by
  refine z_of (by decide) rfl (Nat.le_of_ble_eq_true rfl) (fun w0 => ?_)
  refine r_lvE (lv2 := [(0, .ref a), (1, .int 103)]) rfl ?_
  refine r_iload_n d_Ip_poolOf_0 rfl 1 rfl ?_
  refine r_bipush d_Ip_poolOf_1 (v := 103) (by decide) ?_
  refine r_icmp_ne (tgt := 11) d_Ip_poolOf_3 (by decide) (fun c_3 => ?_) (fun c_3 => ?_)
  · exact absurd c_3 (by decide)
  · refine r_aload_n d_Ip_poolOf_6 rfl 0 rfl ?_
    refine r_get fs_Ip_57 d_Ip_poolOf_7 (q0 := 0) rfl rfl ?_
    refine r_aret d_Ip_poolOf_10 rfl (Or.inl ⟨_, rfl⟩) (Or.inr ⟨_, rfl⟩) ?_
    exact ⟨rfl, rfl⟩
theorem d_Ip_poolOf_11 : decode prog_1_method_62_code 11 = .ok (.iload_n 1, 1) := zo_27 (zd_b zq_prog_1_method_62_code_0 11 rfl rfl rfl)
theorem d_Ip_poolOf_12 : decode prog_1_method_62_code 12 = .ok (.bipush 100, 2) := zo_16 (d := 100) (zd_b zq_prog_1_method_62_code_0 12 rfl rfl rfl) (zd_b zq_prog_1_method_62_code_0 13 rfl rfl rfl) (by decide +kernel)
theorem d_Ip_poolOf_14 : decode prog_1_method_62_code 14 = .ok (.if_icmp .ne 10, 3) := zo_160 (d := 0) (e := 10) (zd_b zq_prog_1_method_62_code_0 14 rfl rfl rfl) (zd_b zq_prog_1_method_62_code_0 15 rfl rfl rfl) (zd_b zq_prog_1_method_62_code_0 16 rfl rfl rfl) (by decide +kernel)
theorem d_Ip_poolOf_17 : decode prog_1_method_62_code 17 = .ok (.aload_n 0, 1) := zo_42 (zd_b zq_prog_1_method_62_code_0 17 rfl rfl rfl)
theorem d_Ip_poolOf_18 : decode prog_1_method_62_code 18 = .ok (.getfield 61, 3) := zo_180 (d := 0) (e := 61) (zd_b zq_prog_1_method_62_code_0 18 rfl rfl rfl) (zd_b zq_prog_1_method_62_code_0 19 rfl rfl rfl) (zd_b zq_prog_1_method_62_code_0 20 rfl rfl rfl)
theorem d_Ip_poolOf_21 : decode prog_1_method_62_code 21 = .ok (.goto 4, 3) := zo_167 (d := 0) (e := 4) (zd_b zq_prog_1_method_62_code_0 21 rfl rfl rfl) (zd_b zq_prog_1_method_62_code_0 22 rfl rfl rfl) (zd_b zq_prog_1_method_62_code_0 23 rfl rfl rfl) (by decide +kernel)
theorem d_Ip_poolOf_25 : decode prog_1_method_62_code 25 = .ok (.areturn, 1) := zo_176 (zd_b zq_prog_1_method_62_code_0 25 rfl rfl rfl)
set_option maxHeartbeats 4000000 in
set_option maxRecDepth 100000 in
theorem C_Ip_poolOfD (g : zG) (a pa ta sa gs co fu la gy du re wm ac : Nat) : CT g M_Ip_poolOf [.ref a, .int 100] [(a, .inr (11, [.ref pa, .ref ta, .ref sa, .ref gs, .ref co, .ref fu, .ref la, .ref gy, .ref du, .ref re, .ref wm, .ref ac]))] (fun o cs1 => o = .inl (some (.ref du)) ∧ cs1 = [(a, .inr (11, [.ref pa, .ref ta, .ref sa, .ref gs, .ref co, .ref fu, .ref la, .ref gy, .ref du, .ref re, .ref wm, .ref ac]))]) 0 0 := by
  refine z_of (by decide) rfl (Nat.le_of_ble_eq_true rfl) (fun w0 => ?_)
  refine r_lvE (lv2 := [(0, .ref a), (1, .int 100)]) rfl ?_
  refine r_iload_n d_Ip_poolOf_0 rfl 1 rfl ?_
  refine r_bipush d_Ip_poolOf_1 (v := 103) (by decide) ?_
  refine r_icmp_ne (tgt := 11) d_Ip_poolOf_3 (by decide) (fun c_3 => ?_) (fun c_3 => ?_)
  · refine r_iload_n d_Ip_poolOf_11 rfl 1 rfl ?_
    refine r_bipush d_Ip_poolOf_12 (v := 100) (by decide) ?_
    refine r_icmp_ne (tgt := 24) d_Ip_poolOf_14 (by decide) (fun c_14 => ?_) (fun c_14 => ?_)
    · exact absurd c_14 (by decide)
    · refine r_aload_n d_Ip_poolOf_17 rfl 0 rfl ?_
      refine r_get fs_Ip_61 d_Ip_poolOf_18 (q0 := 0) rfl rfl ?_
      refine r_goto (tgt := 25) d_Ip_poolOf_21 (by decide) ?_
      refine r_aret d_Ip_poolOf_25 rfl (Or.inl ⟨_, rfl⟩) (Or.inr ⟨_, rfl⟩) ?_
      exact ⟨rfl, rfl⟩
  · exact absurd c_3 (by decide)
theorem d_Ip_poolOf_24 : decode prog_1_method_62_code 24 = .ok (.aconst_null, 1) := zo_1 (zd_b zq_prog_1_method_62_code_0 24 rfl rfl rfl)
set_option maxHeartbeats 4000000 in
set_option maxRecDepth 100000 in
theorem C_Ip_poolOfO (g : zG) (a pa ta sa gs co fu la gy du re wm ac : Nat) (k : Int32) (h1 : ¬ k = 103) (h2 : ¬ k = 100) : CT g M_Ip_poolOf [.ref a, .int k] [(a, .inr (11, [.ref pa, .ref ta, .ref sa, .ref gs, .ref co, .ref fu, .ref la, .ref gy, .ref du, .ref re, .ref wm, .ref ac]))] (fun o cs1 => o = .inl (some .null) ∧ cs1 = [(a, .inr (11, [.ref pa, .ref ta, .ref sa, .ref gs, .ref co, .ref fu, .ref la, .ref gy, .ref du, .ref re, .ref wm, .ref ac]))]) 0 0 := by
  refine z_of (by decide) rfl (Nat.le_of_ble_eq_true rfl) (fun w0 => ?_)
  refine r_lvE (lv2 := [(0, .ref a), (1, .int k)]) rfl ?_
  refine r_iload_n d_Ip_poolOf_0 rfl 1 rfl ?_
  refine r_bipush d_Ip_poolOf_1 (v := 103) (by decide) ?_
  refine r_icmp_ne (tgt := 11) d_Ip_poolOf_3 (by decide) (fun c_3 => ?_) (fun c_3 => ?_)
  · refine r_iload_n d_Ip_poolOf_11 rfl 1 rfl ?_
    refine r_bipush d_Ip_poolOf_12 (v := 100) (by decide) ?_
    refine r_icmp_ne (tgt := 24) d_Ip_poolOf_14 (by decide) (fun c_14 => ?_) (fun c_14 => ?_)
    · refine r_null d_Ip_poolOf_24 ?_
      refine r_aret d_Ip_poolOf_25 rfl (Or.inl ⟨_, rfl⟩) (Or.inl rfl) ?_
      exact ⟨rfl, rfl⟩
    · exact absurd c_14 h2
  · exact absurd c_3 h1
abbrev M_Ip_pool : zM := (⟨"Ironpour", "pool", "(C)I"⟩, prog_1_method_31_code, 3, (Option.some FieldType.int), 6, 100, [])
theorem d_Ip_pool_0 : decode prog_1_method_31_code 0 = .ok (.aload_n 0, 1) := zo_42 (zd_b zq_prog_1_method_31_code_0 0 rfl rfl rfl)
theorem d_Ip_pool_1 : decode prog_1_method_31_code 1 = .ok (.iload_n 1, 1) := zo_27 (zd_b zq_prog_1_method_31_code_0 1 rfl rfl rfl)
theorem d_Ip_pool_2 : decode prog_1_method_31_code 2 = .ok (.invokevirtual 265, 3) := zo_182 (d := 1) (e := 9) (zd_b zq_prog_1_method_31_code_0 2 rfl rfl rfl) (zd_b zq_prog_1_method_31_code_0 3 rfl rfl rfl) (zd_b zq_prog_1_method_31_code_0 4 rfl rfl rfl)
theorem ok_Ip_pool_Ip_poolOf : z_ok M_Ip_pool M_Ip_poolOf 1 := ⟨z_mj5 (i := 27) rfl (by decide +kernel), rfl, ⟨by decide +kernel, by decide +kernel, by decide +kernel⟩, ⟨by decide, by decide⟩, z_mj1 (i := 1) rfl (by decide +kernel), rfl⟩
theorem ln_Ip_265 : Cond.methodLink "Ironpour" 265 M_Ip_poolOf.1 ∈ z_gw := z_mj5 (i := 24) rfl (by decide +kernel)
theorem w_im_Ip_poolOf : Cond.instanceMethod M_Ip_poolOf.1 ∈ z_gw := z_mj5 (i := 26) rfl (by decide +kernel)
theorem w_se_Ip_poolOf : Cond.selects M_Ip_poolOf.1.cls M_Ip_poolOf.1 M_Ip_poolOf.1 ∈ z_gw := z_mem (i := 20) (by decide +kernel) (by decide +kernel)
theorem d_Ip_pool_5 : decode prog_1_method_31_code 5 = .ok (.astore_n 2, 1) := zo_77 (zd_b zq_prog_1_method_31_code_0 5 rfl rfl rfl)
theorem d_Ip_pool_6 : decode prog_1_method_31_code 6 = .ok (.aload_n 2, 1) := zo_44 (zd_b zq_prog_1_method_31_code_0 6 rfl rfl rfl)
theorem d_Ip_pool_7 : decode prog_1_method_31_code 7 = .ok (.ifnonnull 14, 3) := zo_199 (d := 0) (e := 14) (zd_b zq_prog_1_method_31_code_0 7 rfl rfl rfl) (zd_b zq_prog_1_method_31_code_0 8 rfl rfl rfl) (zd_b zq_prog_1_method_31_code_0 9 rfl rfl rfl) (by decide +kernel)
theorem d_Ip_pool_10 : decode prog_1_method_31_code 10 = .ok (.new 89, 3) := zo_187 (d := 0) (e := 89) (zd_b zq_prog_1_method_31_code_0 10 rfl rfl rfl) (zd_b zq_prog_1_method_31_code_0 11 rfl rfl rfl) (zd_b zq_prog_1_method_31_code_0 12 rfl rfl rfl)
theorem sr_Ip_366 : Cond.stringRef "Ironpour" 366 "no such pool" ∈ lw_tbl := z_tb5 (i := 169) rfl
theorem d_Ip_pool_13 : decode prog_1_method_31_code 13 = .ok (.dup, 1) := zo_89 (zd_b zq_prog_1_method_31_code_0 13 rfl rfl rfl)
theorem d_Ip_pool_14 : decode prog_1_method_31_code 14 = .ok (.ldc_w 366, 3) := zo_19 (d := 1) (e := 110) (zd_b zq_prog_1_method_31_code_0 14 rfl rfl rfl) (zd_b zq_prog_1_method_31_code_0 15 rfl rfl rfl) (zd_b zq_prog_1_method_31_code_0 16 rfl rfl rfl)
theorem d_Ip_pool_17 : decode prog_1_method_31_code 17 = .ok (.invokespecial 93, 3) := zo_183 (d := 0) (e := 93) (zd_b zq_prog_1_method_31_code_0 17 rfl rfl rfl) (zd_b zq_prog_1_method_31_code_0 18 rfl rfl rfl) (zd_b zq_prog_1_method_31_code_0 19 rfl rfl rfl)
theorem d_Ip_pool_20 : decode prog_1_method_31_code 20 = .ok (.athrow, 1) := zo_191 (zd_b zq_prog_1_method_31_code_0 20 rfl rfl rfl)
set_option maxHeartbeats 4000000 in
set_option maxRecDepth 100000 in
theorem C_Ip_poolE (g : zG) (a pa ta sa gs co fu la gy du re wm ac : Nat) (k : Int32) (h1 : ¬ k = 103) (h2 : ¬ k = 100) : CT g M_Ip_pool [.ref a, .int k] [(a, .inr (11, [.ref pa, .ref ta, .ref sa, .ref gs, .ref co, .ref fu, .ref la, .ref gy, .ref du, .ref re, .ref wm, .ref ac]))] (fun o cs1 => o = .inr "java/lang/IllegalArgumentException" ∧ cs1 = [(a, .inr (11, [.ref pa, .ref ta, .ref sa, .ref gs, .ref co, .ref fu, .ref la, .ref gy, .ref du, .ref re, .ref wm, .ref ac]))]) 1 6 := by
  refine z_of (by decide) rfl (Nat.le_of_ble_eq_true rfl) (fun w0 => ?_)
  refine r_lvE (lv2 := [(0, .ref a), (1, .int k)]) rfl ?_
  refine r_aload_n d_Ip_pool_0 rfl 0 rfl ?_
  refine r_iload_n d_Ip_pool_1 rfl 1 rfl ?_
  refine r_callV (As := [.int k]) (rest := []) (csC := [(a, .inr (11, [.ref pa, .ref ta, .ref sa, .ref gs, .ref co, .ref fu, .ref la, .ref gy, .ref du, .ref re, .ref wm, .ref ac]))]) (is := [0]) (q0 := 0) rfl rfl ln_Ip_265 w_im_Ip_poolOf w_se_Ip_poolOf ok_Ip_pool_Ip_poolOf d_Ip_pool_2 (C_Ip_poolOfO g a pa ta sa gs co fu la gy du re wm ac k h1 h2) rfl rfl (Nat.le_of_ble_eq_true rfl) rfl (by decide) (by omega) (by omega) (fun E cs1 hx => ?_) (fun v cs1 hx => ?_)
  · exact absurd hx.1 (by simp)
  · obtain ⟨e1, rfl⟩ := hx
    cases e1
    refine ⟨rfl, ?_⟩
    refine r_st (st2 := [.null]) rfl ?_
    refine r_cs (cs2 := [(a, .inr (11, [.ref pa, .ref ta, .ref sa, .ref gs, .ref co, .ref fu, .ref la, .ref gy, .ref du, .ref re, .ref wm, .ref ac]))]) rfl ?_
    refine r_astore_nN (lv' := [(2, .null), (0, .ref a), (1, .int k)]) d_Ip_pool_5 rfl (by decide) rfl ?_
    refine r_aload_nN d_Ip_pool_6 rfl 0 rfl ?_
    refine r_ifnonnullN d_Ip_pool_7 ?_
    refine r_throwW tb_Ip_89_93 sr_Ip_366 d_Ip_pool_10 d_Ip_pool_13 d_Ip_pool_14 d_Ip_pool_17 d_Ip_pool_20 rfl (by decide) (by decide) (Nat.le_of_ble_eq_true rfl) (by omega) (by omega) ?_
    exact ⟨rfl, rfl⟩
theorem d_Ip_pool_21 : decode prog_1_method_31_code 21 = .ok (.aload_n 2, 1) := zo_44 (zd_b zq_prog_1_method_31_code_0 21 rfl rfl rfl)
theorem d_Ip_pool_22 : decode prog_1_method_31_code 22 = .ok (.getfield 269, 3) := zo_180 (d := 1) (e := 13) (zd_b zq_prog_1_method_31_code_0 22 rfl rfl rfl) (zd_b zq_prog_1_method_31_code_0 23 rfl rfl rfl) (zd_b zq_prog_1_method_31_code_0 24 rfl rfl rfl)
theorem d_Ip_pool_25 : decode prog_1_method_31_code 25 = .ok (.ireturn, 1) := zo_172 (zd_b zq_prog_1_method_31_code_0 25 rfl rfl rfl)
set_option maxHeartbeats 4000000 in
set_option maxRecDepth 100000 in
theorem C_Ip_pool103 (g : zG) (a pa ta sa gs co fu la gy du re wm ac : Nat) (gyg : Nat) (gr : Nat → Int64) (ir : Int32) : CT g M_Ip_pool [.ref a, .int 103] [(a, .inr (11, [.ref pa, .ref ta, .ref sa, .ref gs, .ref co, .ref fu, .ref la, .ref gy, .ref du, .ref re, .ref wm, .ref ac])), (gy, .inr (6, [.ref gyg, .int ir])), (gyg, .inl (3, 4, .inr (.inl gr)))] (fun o cs1 => o = .inl (some (.int ir)) ∧ cs1 = [(a, .inr (11, [.ref pa, .ref ta, .ref sa, .ref gs, .ref co, .ref fu, .ref la, .ref gy, .ref du, .ref re, .ref wm, .ref ac])), (gy, .inr (6, [.ref gyg, .int ir])), (gyg, .inl (3, 4, .inr (.inl gr)))]) 1 6 := by
  refine z_of (by decide) rfl (Nat.le_of_ble_eq_true rfl) (fun w0 => ?_)
  refine r_lvE (lv2 := [(0, .ref a), (1, .int 103)]) rfl ?_
  refine r_aload_n d_Ip_pool_0 rfl 0 rfl ?_
  refine r_iload_n d_Ip_pool_1 rfl 1 rfl ?_
  refine r_callV (As := [.int 103]) (rest := []) (csC := [(a, .inr (11, [.ref pa, .ref ta, .ref sa, .ref gs, .ref co, .ref fu, .ref la, .ref gy, .ref du, .ref re, .ref wm, .ref ac]))]) (is := [0]) (q0 := 0) rfl rfl ln_Ip_265 w_im_Ip_poolOf w_se_Ip_poolOf ok_Ip_pool_Ip_poolOf d_Ip_pool_2 (C_Ip_poolOfG g a pa ta sa gs co fu la gy du re wm ac) rfl rfl (Nat.le_of_ble_eq_true rfl) rfl (by decide) (by omega) (by omega) (fun E cs1 hx => ?_) (fun v cs1 hx => ?_)
  · exact absurd hx.1 (by simp)
  · obtain ⟨e1, rfl⟩ := hx
    cases e1
    refine ⟨rfl, ?_⟩
    refine r_st (st2 := [.ref gy]) rfl ?_
    refine r_cs (cs2 := [(a, .inr (11, [.ref pa, .ref ta, .ref sa, .ref gs, .ref co, .ref fu, .ref la, .ref gy, .ref du, .ref re, .ref wm, .ref ac])), (gy, .inr (6, [.ref gyg, .int ir])), (gyg, .inl (3, 4, .inr (.inl gr)))]) rfl ?_
    refine r_astore_n (lv' := [(2, .ref gy), (0, .ref a), (1, .int 103)]) d_Ip_pool_5 rfl (by decide) rfl ?_
    refine r_aload_n d_Ip_pool_6 rfl 0 rfl ?_
    refine r_ifnonnull (tgt := 21) d_Ip_pool_7 (by decide) ?_
    refine r_aload_n d_Ip_pool_21 rfl 0 rfl ?_
    refine r_get fs_Ip_269 d_Ip_pool_22 (q0 := 1) rfl rfl ?_
    refine r_iret d_Ip_pool_25 rfl rfl ?_
    exact ⟨rfl, rfl⟩
abbrev M_Ip_poolHas : zM := (⟨"Ironpour", "poolHas", "(CC)I"⟩, prog_1_method_32_code, 5, (Option.some FieldType.int), 9, 200, [])
theorem d_Ip_poolHas_0 : decode prog_1_method_32_code 0 = .ok (.aload_n 0, 1) := zo_42 (zd_b zq_prog_1_method_32_code_0 0 rfl rfl rfl)
theorem d_Ip_poolHas_1 : decode prog_1_method_32_code 1 = .ok (.iload_n 1, 1) := zo_27 (zd_b zq_prog_1_method_32_code_0 1 rfl rfl rfl)
theorem d_Ip_poolHas_2 : decode prog_1_method_32_code 2 = .ok (.invokevirtual 265, 3) := zo_182 (d := 1) (e := 9) (zd_b zq_prog_1_method_32_code_0 2 rfl rfl rfl) (zd_b zq_prog_1_method_32_code_0 3 rfl rfl rfl) (zd_b zq_prog_1_method_32_code_0 4 rfl rfl rfl)
theorem ok_Ip_poolHas_Ip_poolOf : z_ok M_Ip_poolHas M_Ip_poolOf 1 := ⟨z_mj5 (i := 27) rfl (by decide +kernel), rfl, ⟨by decide +kernel, by decide +kernel, by decide +kernel⟩, ⟨by decide, by decide⟩, z_mj1 (i := 1) rfl (by decide +kernel), rfl⟩
theorem d_Ip_poolHas_5 : decode prog_1_method_32_code 5 = .ok (.astore_n 3, 1) := zo_78 (zd_b zq_prog_1_method_32_code_0 5 rfl rfl rfl)
theorem d_Ip_poolHas_6 : decode prog_1_method_32_code 6 = .ok (.aload_n 3, 1) := zo_45 (zd_b zq_prog_1_method_32_code_0 6 rfl rfl rfl)
theorem d_Ip_poolHas_7 : decode prog_1_method_32_code 7 = .ok (.ifnonnull 14, 3) := zo_199 (d := 0) (e := 14) (zd_b zq_prog_1_method_32_code_0 7 rfl rfl rfl) (zd_b zq_prog_1_method_32_code_0 8 rfl rfl rfl) (zd_b zq_prog_1_method_32_code_0 9 rfl rfl rfl) (by decide +kernel)
theorem d_Ip_poolHas_21 : decode prog_1_method_32_code 21 = .ok (.iload_n 2, 1) := zo_28 (zd_b zq_prog_1_method_32_code_0 21 rfl rfl rfl)
theorem d_Ip_poolHas_22 : decode prog_1_method_32_code 22 = .ok (.invokestatic 294, 3) := zo_184 (d := 1) (e := 38) (zd_b zq_prog_1_method_32_code_0 22 rfl rfl rfl) (zd_b zq_prog_1_method_32_code_0 23 rfl rfl rfl) (zd_b zq_prog_1_method_32_code_0 24 rfl rfl rfl)
theorem ok_Ip_poolHas_Ip_elementIndex : z_ok M_Ip_poolHas M_Ip_elementIndex 1 := ⟨z_mj5 (i := 74) rfl (by decide +kernel), rfl, ⟨by decide +kernel, by decide +kernel, by decide +kernel⟩, ⟨by decide, by decide⟩, z_mj1 (i := 1) rfl (by decide +kernel), rfl⟩
theorem ln_Ip_294 : Cond.methodLink "Ironpour" 294 M_Ip_elementIndex.1 ∈ z_gw := z_mj5 (i := 72) rfl (by decide +kernel)
theorem w_st_Ip_elementIndex : Cond.static M_Ip_elementIndex.1 ∈ z_gw := z_mj5 (i := 73) rfl (by decide +kernel)
set_option maxHeartbeats 4000000 in
set_option maxRecDepth 100000 in
theorem C_Ip_poolHas103E (g : zG) (a pa ta sa gs co fu la gy du re wm ac : Nat) (gyg : Nat) (gr : Nat → Int64) (ir : Int32) (k : Int32) (hk : z_ix 2 k < 0) : CT g M_Ip_poolHas [.ref a, .int 103, .int k] [(a, .inr (11, [.ref pa, .ref ta, .ref sa, .ref gs, .ref co, .ref fu, .ref la, .ref gy, .ref du, .ref re, .ref wm, .ref ac])), (gy, .inr (6, [.ref gyg, .int ir])), (gyg, .inl (3, 4, .inr (.inl gr)))] (fun o cs1 => o = .inr "java/lang/IllegalArgumentException" ∧ cs1 = [(a, .inr (11, [.ref pa, .ref ta, .ref sa, .ref gs, .ref co, .ref fu, .ref la, .ref gy, .ref du, .ref re, .ref wm, .ref ac])), (gy, .inr (6, [.ref gyg, .int ir])), (gyg, .inl (3, 4, .inr (.inl gr)))]) 1 6 := by
  refine z_of (by decide) rfl (Nat.le_of_ble_eq_true rfl) (fun w0 => ?_)
  refine r_lvE (lv2 := [(0, .ref a), (1, .int 103), (2, .int k)]) rfl ?_
  refine r_aload_n d_Ip_poolHas_0 rfl 0 rfl ?_
  refine r_iload_n d_Ip_poolHas_1 rfl 1 rfl ?_
  refine r_callV (As := [.int 103]) (rest := []) (csC := [(a, .inr (11, [.ref pa, .ref ta, .ref sa, .ref gs, .ref co, .ref fu, .ref la, .ref gy, .ref du, .ref re, .ref wm, .ref ac]))]) (is := [0]) (q0 := 0) rfl rfl ln_Ip_265 w_im_Ip_poolOf w_se_Ip_poolOf ok_Ip_poolHas_Ip_poolOf d_Ip_poolHas_2 (C_Ip_poolOfG g a pa ta sa gs co fu la gy du re wm ac) rfl rfl (Nat.le_of_ble_eq_true rfl) rfl (by decide) (by omega) (by omega) (fun E cs1 hx => ?_) (fun v cs1 hx => ?_)
  · exact absurd hx.1 (by simp)
  · obtain ⟨e1, rfl⟩ := hx
    cases e1
    refine ⟨rfl, ?_⟩
    refine r_st (st2 := [.ref gy]) rfl ?_
    refine r_cs (cs2 := [(a, .inr (11, [.ref pa, .ref ta, .ref sa, .ref gs, .ref co, .ref fu, .ref la, .ref gy, .ref du, .ref re, .ref wm, .ref ac])), (gy, .inr (6, [.ref gyg, .int ir])), (gyg, .inl (3, 4, .inr (.inl gr)))]) rfl ?_
    refine r_astore_n (lv' := [(3, .ref gy), (0, .ref a), (1, .int 103), (2, .int k)]) d_Ip_poolHas_5 rfl (by decide) rfl ?_
    refine r_aload_n d_Ip_poolHas_6 rfl 0 rfl ?_
    refine r_ifnonnull (tgt := 21) d_Ip_poolHas_7 (by decide) ?_
    refine r_iload_n d_Ip_poolHas_21 rfl 3 rfl ?_
    refine r_callS (As := [.int k]) (rest := []) (csC := []) (is := []) ln_Ip_294 w_st_Ip_elementIndex ok_Ip_poolHas_Ip_elementIndex d_Ip_poolHas_22 (C_Ip_elementIndexE g k hk) rfl rfl (Nat.le_of_ble_eq_true rfl) rfl (by decide) (by omega) (by omega) (fun E cs1 hx => ?_) (fun v cs1 hx => ?_)
    · obtain ⟨e1, rfl⟩ := hx
      cases e1
      exact ⟨rfl, rfl, rfl⟩
    · exact absurd hx.1 (by simp)
theorem d_Ip_poolHas_25 : decode prog_1_method_32_code 25 = .ok (.istore 4, 2) := zo_54 (d := 4) (zd_b zq_prog_1_method_32_code_0 25 rfl rfl rfl) (zd_b zq_prog_1_method_32_code_0 26 rfl rfl rfl)
theorem d_Ip_poolHas_27 : decode prog_1_method_32_code 27 = .ok (.aload_n 3, 1) := zo_45 (zd_b zq_prog_1_method_32_code_0 27 rfl rfl rfl)
theorem d_Ip_poolHas_28 : decode prog_1_method_32_code 28 = .ok (.getfield 269, 3) := zo_180 (d := 1) (e := 13) (zd_b zq_prog_1_method_32_code_0 28 rfl rfl rfl) (zd_b zq_prog_1_method_32_code_0 29 rfl rfl rfl) (zd_b zq_prog_1_method_32_code_0 30 rfl rfl rfl)
theorem d_Ip_poolHas_31 : decode prog_1_method_32_code 31 = .ok (.ifCond .gt 14, 3) := zo_157 (d := 0) (e := 14) (zd_b zq_prog_1_method_32_code_0 31 rfl rfl rfl) (zd_b zq_prog_1_method_32_code_1 0 rfl rfl rfl) (zd_b zq_prog_1_method_32_code_1 1 rfl rfl rfl) (by decide +kernel)
theorem d_Ip_poolHas_34 : decode prog_1_method_32_code 34 = .ok (.new 150, 3) := zo_187 (d := 0) (e := 150) (zd_b zq_prog_1_method_32_code_1 2 rfl rfl rfl) (zd_b zq_prog_1_method_32_code_1 3 rfl rfl rfl) (zd_b zq_prog_1_method_32_code_1 4 rfl rfl rfl)
theorem sr_Ip_368 : Cond.stringRef "Ironpour" 368 "no iron in the pool" ∈ lw_tbl := z_tb5 (i := 177) rfl
theorem d_Ip_poolHas_37 : decode prog_1_method_32_code 37 = .ok (.dup, 1) := zo_89 (zd_b zq_prog_1_method_32_code_1 5 rfl rfl rfl)
theorem d_Ip_poolHas_38 : decode prog_1_method_32_code 38 = .ok (.ldc_w 368, 3) := zo_19 (d := 1) (e := 112) (zd_b zq_prog_1_method_32_code_1 6 rfl rfl rfl) (zd_b zq_prog_1_method_32_code_1 7 rfl rfl rfl) (zd_b zq_prog_1_method_32_code_1 8 rfl rfl rfl)
theorem d_Ip_poolHas_41 : decode prog_1_method_32_code 41 = .ok (.invokespecial 154, 3) := zo_183 (d := 0) (e := 154) (zd_b zq_prog_1_method_32_code_1 9 rfl rfl rfl) (zd_b zq_prog_1_method_32_code_1 10 rfl rfl rfl) (zd_b zq_prog_1_method_32_code_1 11 rfl rfl rfl)
theorem d_Ip_poolHas_44 : decode prog_1_method_32_code 44 = .ok (.athrow, 1) := zo_191 (zd_b zq_prog_1_method_32_code_1 12 rfl rfl rfl)
set_option maxHeartbeats 4000000 in
set_option maxRecDepth 100000 in
theorem C_Ip_poolHas103F (g : zG) (a pa ta sa gs co fu la gy du re wm ac : Nat) (gyg : Nat) (gr : Nat → Int64) (ir : Int32) (k : Int32) (e : Nat) (he : e < 4) (hk : z_ix 2 k = nI e) (hi : ir ≤ 0) : CT g M_Ip_poolHas [.ref a, .int 103, .int k] [(a, .inr (11, [.ref pa, .ref ta, .ref sa, .ref gs, .ref co, .ref fu, .ref la, .ref gy, .ref du, .ref re, .ref wm, .ref ac])), (gy, .inr (6, [.ref gyg, .int ir])), (gyg, .inl (3, 4, .inr (.inl gr)))] (fun o cs1 => o = .inr "java/util/NoSuchElementException" ∧ cs1 = [(a, .inr (11, [.ref pa, .ref ta, .ref sa, .ref gs, .ref co, .ref fu, .ref la, .ref gy, .ref du, .ref re, .ref wm, .ref ac])), (gy, .inr (6, [.ref gyg, .int ir])), (gyg, .inl (3, 4, .inr (.inl gr)))]) 2 12 := by
  refine z_of (by decide) rfl (Nat.le_of_ble_eq_true rfl) (fun w0 => ?_)
  refine r_lvE (lv2 := [(0, .ref a), (1, .int 103), (2, .int k)]) rfl ?_
  refine r_aload_n d_Ip_poolHas_0 rfl 0 rfl ?_
  refine r_iload_n d_Ip_poolHas_1 rfl 1 rfl ?_
  refine r_callV (As := [.int 103]) (rest := []) (csC := [(a, .inr (11, [.ref pa, .ref ta, .ref sa, .ref gs, .ref co, .ref fu, .ref la, .ref gy, .ref du, .ref re, .ref wm, .ref ac]))]) (is := [0]) (q0 := 0) rfl rfl ln_Ip_265 w_im_Ip_poolOf w_se_Ip_poolOf ok_Ip_poolHas_Ip_poolOf d_Ip_poolHas_2 (C_Ip_poolOfG g a pa ta sa gs co fu la gy du re wm ac) rfl rfl (Nat.le_of_ble_eq_true rfl) rfl (by decide) (by omega) (by omega) (fun E cs1 hx => ?_) (fun v cs1 hx => ?_)
  · exact absurd hx.1 (by simp)
  · obtain ⟨e1, rfl⟩ := hx
    cases e1
    refine ⟨rfl, ?_⟩
    refine r_st (st2 := [.ref gy]) rfl ?_
    refine r_cs (cs2 := [(a, .inr (11, [.ref pa, .ref ta, .ref sa, .ref gs, .ref co, .ref fu, .ref la, .ref gy, .ref du, .ref re, .ref wm, .ref ac])), (gy, .inr (6, [.ref gyg, .int ir])), (gyg, .inl (3, 4, .inr (.inl gr)))]) rfl ?_
    refine r_astore_n (lv' := [(3, .ref gy), (0, .ref a), (1, .int 103), (2, .int k)]) d_Ip_poolHas_5 rfl (by decide) rfl ?_
    refine r_aload_n d_Ip_poolHas_6 rfl 0 rfl ?_
    refine r_ifnonnull (tgt := 21) d_Ip_poolHas_7 (by decide) ?_
    refine r_iload_n d_Ip_poolHas_21 rfl 3 rfl ?_
    refine r_callS (As := [.int k]) (rest := []) (csC := []) (is := []) ln_Ip_294 w_st_Ip_elementIndex ok_Ip_poolHas_Ip_elementIndex d_Ip_poolHas_22 (C_Ip_elementIndexN g k e he hk) rfl rfl (Nat.le_of_ble_eq_true rfl) rfl (by decide) (by omega) (by omega) (fun E cs1 hx => ?_) (fun v cs1 hx => ?_)
    · exact absurd hx.1 (by simp)
    · obtain ⟨e1, rfl⟩ := hx
      cases e1
      refine ⟨rfl, ?_⟩
      refine r_st (st2 := [.int (nI e)]) rfl ?_
      refine r_cs (cs2 := [(a, .inr (11, [.ref pa, .ref ta, .ref sa, .ref gs, .ref co, .ref fu, .ref la, .ref gy, .ref du, .ref re, .ref wm, .ref ac])), (gy, .inr (6, [.ref gyg, .int ir])), (gyg, .inl (3, 4, .inr (.inl gr)))]) rfl ?_
      refine r_istore (lv' := [(4, .int (nI e)), (3, .ref gy), (0, .ref a), (1, .int 103), (2, .int k)]) d_Ip_poolHas_25 (by decide) rfl ?_
      refine r_aload_n d_Ip_poolHas_27 rfl 1 rfl ?_
      refine r_get fs_Ip_269 d_Ip_poolHas_28 (q0 := 1) rfl rfl ?_
      refine r_if_gt (tgt := 45) d_Ip_poolHas_31 (by decide) (fun c_31 => ?_) (fun c_31 => ?_)
      · exact absurd c_31 (Int32.not_lt.mpr hi)
      · refine r_throwXW tb_Ip_150_154 sr_Ip_368 d_Ip_poolHas_34 d_Ip_poolHas_37 d_Ip_poolHas_38 d_Ip_poolHas_41 d_Ip_poolHas_44 rfl (by decide) (by decide) (Nat.le_of_ble_eq_true rfl) (by omega) (by omega) ?_
        exact ⟨rfl, rfl⟩
theorem d_Ip_poolHas_45 : decode prog_1_method_32_code 45 = .ok (.aload_n 3, 1) := zo_45 (zd_b zq_prog_1_method_32_code_1 13 rfl rfl rfl)
theorem d_Ip_poolHas_46 : decode prog_1_method_32_code 46 = .ok (.iload 4, 2) := zo_21 (d := 4) (zd_b zq_prog_1_method_32_code_1 14 rfl rfl rfl) (zd_b zq_prog_1_method_32_code_1 15 rfl rfl rfl)
theorem d_Ip_poolHas_48 : decode prog_1_method_32_code 48 = .ok (.invokevirtual 300, 3) := zo_182 (d := 1) (e := 44) (zd_b zq_prog_1_method_32_code_1 16 rfl rfl rfl) (zd_b zq_prog_1_method_32_code_1 17 rfl rfl rfl) (zd_b zq_prog_1_method_32_code_1 18 rfl rfl rfl)
theorem ok_Ip_poolHas_Me_partOf : z_ok M_Ip_poolHas M_Me_partOf 1 := ⟨z_mj5 (i := 81) rfl (by decide +kernel), rfl, ⟨by decide +kernel, by decide +kernel, by decide +kernel⟩, ⟨by decide, by decide⟩, z_mj1 (i := 8) rfl (by decide +kernel), rfl⟩
theorem ln_Ip_300 : Cond.methodLink "Ironpour" 300 M_Me_partOf.1 ∈ z_gw := z_mj5 (i := 78) rfl (by decide +kernel)
theorem d_Ip_poolHas_51 : decode prog_1_method_32_code 51 = .ok (.ireturn, 1) := zo_172 (zd_b zq_prog_1_method_32_code_1 19 rfl rfl rfl)
set_option maxHeartbeats 4000000 in
set_option maxRecDepth 100000 in
theorem C_Ip_poolHas103N (g : zG) (a pa ta sa gs co fu la gy du re wm ac : Nat) (gyg : Nat) (gr : Nat → Int64) (ir : Int32) (k : Int32) (e : Nat) (he : e < 4) (hk : z_ix 2 k = nI e) (hi : ¬ ir ≤ 0) : CT g M_Ip_poolHas [.ref a, .int 103, .int k] [(a, .inr (11, [.ref pa, .ref ta, .ref sa, .ref gs, .ref co, .ref fu, .ref la, .ref gy, .ref du, .ref re, .ref wm, .ref ac])), (gy, .inr (6, [.ref gyg, .int ir])), (gyg, .inl (3, 4, .inr (.inl gr)))] (fun o cs1 => o = .inl (some (.int (poI gr ir e))) ∧ cs1 = [(a, .inr (11, [.ref pa, .ref ta, .ref sa, .ref gs, .ref co, .ref fu, .ref la, .ref gy, .ref du, .ref re, .ref wm, .ref ac])), (gy, .inr (6, [.ref gyg, .int ir])), (gyg, .inl (3, 4, .inr (.inl gr)))]) 2 12 := by
  refine z_of (by decide) rfl (Nat.le_of_ble_eq_true rfl) (fun w0 => ?_)
  refine r_lvE (lv2 := [(0, .ref a), (1, .int 103), (2, .int k)]) rfl ?_
  refine r_aload_n d_Ip_poolHas_0 rfl 0 rfl ?_
  refine r_iload_n d_Ip_poolHas_1 rfl 1 rfl ?_
  refine r_callV (As := [.int 103]) (rest := []) (csC := [(a, .inr (11, [.ref pa, .ref ta, .ref sa, .ref gs, .ref co, .ref fu, .ref la, .ref gy, .ref du, .ref re, .ref wm, .ref ac]))]) (is := [0]) (q0 := 0) rfl rfl ln_Ip_265 w_im_Ip_poolOf w_se_Ip_poolOf ok_Ip_poolHas_Ip_poolOf d_Ip_poolHas_2 (C_Ip_poolOfG g a pa ta sa gs co fu la gy du re wm ac) rfl rfl (Nat.le_of_ble_eq_true rfl) rfl (by decide) (by omega) (by omega) (fun E cs1 hx => ?_) (fun v cs1 hx => ?_)
  · exact absurd hx.1 (by simp)
  · obtain ⟨e1, rfl⟩ := hx
    cases e1
    refine ⟨rfl, ?_⟩
    refine r_st (st2 := [.ref gy]) rfl ?_
    refine r_cs (cs2 := [(a, .inr (11, [.ref pa, .ref ta, .ref sa, .ref gs, .ref co, .ref fu, .ref la, .ref gy, .ref du, .ref re, .ref wm, .ref ac])), (gy, .inr (6, [.ref gyg, .int ir])), (gyg, .inl (3, 4, .inr (.inl gr)))]) rfl ?_
    refine r_astore_n (lv' := [(3, .ref gy), (0, .ref a), (1, .int 103), (2, .int k)]) d_Ip_poolHas_5 rfl (by decide) rfl ?_
    refine r_aload_n d_Ip_poolHas_6 rfl 0 rfl ?_
    refine r_ifnonnull (tgt := 21) d_Ip_poolHas_7 (by decide) ?_
    refine r_iload_n d_Ip_poolHas_21 rfl 3 rfl ?_
    refine r_callS (As := [.int k]) (rest := []) (csC := []) (is := []) ln_Ip_294 w_st_Ip_elementIndex ok_Ip_poolHas_Ip_elementIndex d_Ip_poolHas_22 (C_Ip_elementIndexN g k e he hk) rfl rfl (Nat.le_of_ble_eq_true rfl) rfl (by decide) (by omega) (by omega) (fun E cs1 hx => ?_) (fun v cs1 hx => ?_)
    · exact absurd hx.1 (by simp)
    · obtain ⟨e1, rfl⟩ := hx
      cases e1
      refine ⟨rfl, ?_⟩
      refine r_st (st2 := [.int (nI e)]) rfl ?_
      refine r_cs (cs2 := [(a, .inr (11, [.ref pa, .ref ta, .ref sa, .ref gs, .ref co, .ref fu, .ref la, .ref gy, .ref du, .ref re, .ref wm, .ref ac])), (gy, .inr (6, [.ref gyg, .int ir])), (gyg, .inl (3, 4, .inr (.inl gr)))]) rfl ?_
      refine r_istore (lv' := [(4, .int (nI e)), (3, .ref gy), (0, .ref a), (1, .int 103), (2, .int k)]) d_Ip_poolHas_25 (by decide) rfl ?_
      refine r_aload_n d_Ip_poolHas_27 rfl 1 rfl ?_
      refine r_get fs_Ip_269 d_Ip_poolHas_28 (q0 := 1) rfl rfl ?_
      refine r_if_gt (tgt := 45) d_Ip_poolHas_31 (by decide) (fun c_31 => ?_) (fun c_31 => ?_)
      · refine r_aload_n d_Ip_poolHas_45 rfl 1 rfl ?_
        refine r_iload d_Ip_poolHas_46 0 rfl ?_
        refine r_callV (As := [.int (nI e)]) (rest := []) (csC := [(gy, .inr (6, [.ref gyg, .int ir])), (gyg, .inl (3, 4, .inr (.inl gr)))]) (is := [1, 2]) (q0 := 1) rfl rfl ln_Ip_300 w_im_Me_partOf w_se_Me_partOf ok_Ip_poolHas_Me_partOf d_Ip_poolHas_48 (C_Me_partOf g gy gyg gr ir e he) rfl rfl (Nat.le_of_ble_eq_true rfl) rfl (by decide) (by omega) (by omega) (fun E cs1 hx => ?_) (fun v cs1 hx => ?_)
        · exact absurd hx.1 (by simp)
        · obtain ⟨e1, rfl⟩ := hx
          cases e1
          refine ⟨rfl, ?_⟩
          refine r_st (st2 := [.int (poI gr ir e)]) rfl ?_
          refine r_cs (cs2 := [(a, .inr (11, [.ref pa, .ref ta, .ref sa, .ref gs, .ref co, .ref fu, .ref la, .ref gy, .ref du, .ref re, .ref wm, .ref ac])), (gy, .inr (6, [.ref gyg, .int ir])), (gyg, .inl (3, 4, .inr (.inl gr)))]) rfl ?_
          refine r_iret d_Ip_poolHas_51 rfl rfl ?_
          exact ⟨rfl, rfl⟩
      · exact absurd (Int32.not_lt.mp c_31) hi
set_option maxHeartbeats 4000000 in
set_option maxRecDepth 100000 in
theorem C_Ip_pool100 (g : zG) (a pa ta sa gs co fu la gy du re wm ac : Nat) (dug : Nat) (gr : Nat → Int64) (ir : Int32) : CT g M_Ip_pool [.ref a, .int 100] [(a, .inr (11, [.ref pa, .ref ta, .ref sa, .ref gs, .ref co, .ref fu, .ref la, .ref gy, .ref du, .ref re, .ref wm, .ref ac])), (du, .inr (6, [.ref dug, .int ir])), (dug, .inl (3, 4, .inr (.inl gr)))] (fun o cs1 => o = .inl (some (.int ir)) ∧ cs1 = [(a, .inr (11, [.ref pa, .ref ta, .ref sa, .ref gs, .ref co, .ref fu, .ref la, .ref gy, .ref du, .ref re, .ref wm, .ref ac])), (du, .inr (6, [.ref dug, .int ir])), (dug, .inl (3, 4, .inr (.inl gr)))]) 1 6 := by
  refine z_of (by decide) rfl (Nat.le_of_ble_eq_true rfl) (fun w0 => ?_)
  refine r_lvE (lv2 := [(0, .ref a), (1, .int 100)]) rfl ?_
  refine r_aload_n d_Ip_pool_0 rfl 0 rfl ?_
  refine r_iload_n d_Ip_pool_1 rfl 1 rfl ?_
  refine r_callV (As := [.int 100]) (rest := []) (csC := [(a, .inr (11, [.ref pa, .ref ta, .ref sa, .ref gs, .ref co, .ref fu, .ref la, .ref gy, .ref du, .ref re, .ref wm, .ref ac]))]) (is := [0]) (q0 := 0) rfl rfl ln_Ip_265 w_im_Ip_poolOf w_se_Ip_poolOf ok_Ip_pool_Ip_poolOf d_Ip_pool_2 (C_Ip_poolOfD g a pa ta sa gs co fu la gy du re wm ac) rfl rfl (Nat.le_of_ble_eq_true rfl) rfl (by decide) (by omega) (by omega) (fun E cs1 hx => ?_) (fun v cs1 hx => ?_)
  · exact absurd hx.1 (by simp)
  · obtain ⟨e1, rfl⟩ := hx
    cases e1
    refine ⟨rfl, ?_⟩
    refine r_st (st2 := [.ref du]) rfl ?_
    refine r_cs (cs2 := [(a, .inr (11, [.ref pa, .ref ta, .ref sa, .ref gs, .ref co, .ref fu, .ref la, .ref gy, .ref du, .ref re, .ref wm, .ref ac])), (du, .inr (6, [.ref dug, .int ir])), (dug, .inl (3, 4, .inr (.inl gr)))]) rfl ?_
    refine r_astore_n (lv' := [(2, .ref du), (0, .ref a), (1, .int 100)]) d_Ip_pool_5 rfl (by decide) rfl ?_
    refine r_aload_n d_Ip_pool_6 rfl 0 rfl ?_
    refine r_ifnonnull (tgt := 21) d_Ip_pool_7 (by decide) ?_
    refine r_aload_n d_Ip_pool_21 rfl 0 rfl ?_
    refine r_get fs_Ip_269 d_Ip_pool_22 (q0 := 1) rfl rfl ?_
    refine r_iret d_Ip_pool_25 rfl rfl ?_
    exact ⟨rfl, rfl⟩
set_option maxHeartbeats 4000000 in
set_option maxRecDepth 100000 in
theorem C_Ip_poolHas100E (g : zG) (a pa ta sa gs co fu la gy du re wm ac : Nat) (dug : Nat) (gr : Nat → Int64) (ir : Int32) (k : Int32) (hk : z_ix 2 k < 0) : CT g M_Ip_poolHas [.ref a, .int 100, .int k] [(a, .inr (11, [.ref pa, .ref ta, .ref sa, .ref gs, .ref co, .ref fu, .ref la, .ref gy, .ref du, .ref re, .ref wm, .ref ac])), (du, .inr (6, [.ref dug, .int ir])), (dug, .inl (3, 4, .inr (.inl gr)))] (fun o cs1 => o = .inr "java/lang/IllegalArgumentException" ∧ cs1 = [(a, .inr (11, [.ref pa, .ref ta, .ref sa, .ref gs, .ref co, .ref fu, .ref la, .ref gy, .ref du, .ref re, .ref wm, .ref ac])), (du, .inr (6, [.ref dug, .int ir])), (dug, .inl (3, 4, .inr (.inl gr)))]) 1 6 := by
  refine z_of (by decide) rfl (Nat.le_of_ble_eq_true rfl) (fun w0 => ?_)
  refine r_lvE (lv2 := [(0, .ref a), (1, .int 100), (2, .int k)]) rfl ?_
  refine r_aload_n d_Ip_poolHas_0 rfl 0 rfl ?_
  refine r_iload_n d_Ip_poolHas_1 rfl 1 rfl ?_
  refine r_callV (As := [.int 100]) (rest := []) (csC := [(a, .inr (11, [.ref pa, .ref ta, .ref sa, .ref gs, .ref co, .ref fu, .ref la, .ref gy, .ref du, .ref re, .ref wm, .ref ac]))]) (is := [0]) (q0 := 0) rfl rfl ln_Ip_265 w_im_Ip_poolOf w_se_Ip_poolOf ok_Ip_poolHas_Ip_poolOf d_Ip_poolHas_2 (C_Ip_poolOfD g a pa ta sa gs co fu la gy du re wm ac) rfl rfl (Nat.le_of_ble_eq_true rfl) rfl (by decide) (by omega) (by omega) (fun E cs1 hx => ?_) (fun v cs1 hx => ?_)
  · exact absurd hx.1 (by simp)
  · obtain ⟨e1, rfl⟩ := hx
    cases e1
    refine ⟨rfl, ?_⟩
    refine r_st (st2 := [.ref du]) rfl ?_
    refine r_cs (cs2 := [(a, .inr (11, [.ref pa, .ref ta, .ref sa, .ref gs, .ref co, .ref fu, .ref la, .ref gy, .ref du, .ref re, .ref wm, .ref ac])), (du, .inr (6, [.ref dug, .int ir])), (dug, .inl (3, 4, .inr (.inl gr)))]) rfl ?_
    refine r_astore_n (lv' := [(3, .ref du), (0, .ref a), (1, .int 100), (2, .int k)]) d_Ip_poolHas_5 rfl (by decide) rfl ?_
    refine r_aload_n d_Ip_poolHas_6 rfl 0 rfl ?_
    refine r_ifnonnull (tgt := 21) d_Ip_poolHas_7 (by decide) ?_
    refine r_iload_n d_Ip_poolHas_21 rfl 3 rfl ?_
    refine r_callS (As := [.int k]) (rest := []) (csC := []) (is := []) ln_Ip_294 w_st_Ip_elementIndex ok_Ip_poolHas_Ip_elementIndex d_Ip_poolHas_22 (C_Ip_elementIndexE g k hk) rfl rfl (Nat.le_of_ble_eq_true rfl) rfl (by decide) (by omega) (by omega) (fun E cs1 hx => ?_) (fun v cs1 hx => ?_)
    · obtain ⟨e1, rfl⟩ := hx
      cases e1
      exact ⟨rfl, rfl, rfl⟩
    · exact absurd hx.1 (by simp)
set_option maxHeartbeats 4000000 in
set_option maxRecDepth 100000 in
theorem C_Ip_poolHas100F (g : zG) (a pa ta sa gs co fu la gy du re wm ac : Nat) (dug : Nat) (gr : Nat → Int64) (ir : Int32) (k : Int32) (e : Nat) (he : e < 4) (hk : z_ix 2 k = nI e) (hi : ir ≤ 0) : CT g M_Ip_poolHas [.ref a, .int 100, .int k] [(a, .inr (11, [.ref pa, .ref ta, .ref sa, .ref gs, .ref co, .ref fu, .ref la, .ref gy, .ref du, .ref re, .ref wm, .ref ac])), (du, .inr (6, [.ref dug, .int ir])), (dug, .inl (3, 4, .inr (.inl gr)))] (fun o cs1 => o = .inr "java/util/NoSuchElementException" ∧ cs1 = [(a, .inr (11, [.ref pa, .ref ta, .ref sa, .ref gs, .ref co, .ref fu, .ref la, .ref gy, .ref du, .ref re, .ref wm, .ref ac])), (du, .inr (6, [.ref dug, .int ir])), (dug, .inl (3, 4, .inr (.inl gr)))]) 2 12 := by
  refine z_of (by decide) rfl (Nat.le_of_ble_eq_true rfl) (fun w0 => ?_)
  refine r_lvE (lv2 := [(0, .ref a), (1, .int 100), (2, .int k)]) rfl ?_
  refine r_aload_n d_Ip_poolHas_0 rfl 0 rfl ?_
  refine r_iload_n d_Ip_poolHas_1 rfl 1 rfl ?_
  refine r_callV (As := [.int 100]) (rest := []) (csC := [(a, .inr (11, [.ref pa, .ref ta, .ref sa, .ref gs, .ref co, .ref fu, .ref la, .ref gy, .ref du, .ref re, .ref wm, .ref ac]))]) (is := [0]) (q0 := 0) rfl rfl ln_Ip_265 w_im_Ip_poolOf w_se_Ip_poolOf ok_Ip_poolHas_Ip_poolOf d_Ip_poolHas_2 (C_Ip_poolOfD g a pa ta sa gs co fu la gy du re wm ac) rfl rfl (Nat.le_of_ble_eq_true rfl) rfl (by decide) (by omega) (by omega) (fun E cs1 hx => ?_) (fun v cs1 hx => ?_)
  · exact absurd hx.1 (by simp)
  · obtain ⟨e1, rfl⟩ := hx
    cases e1
    refine ⟨rfl, ?_⟩
    refine r_st (st2 := [.ref du]) rfl ?_
    refine r_cs (cs2 := [(a, .inr (11, [.ref pa, .ref ta, .ref sa, .ref gs, .ref co, .ref fu, .ref la, .ref gy, .ref du, .ref re, .ref wm, .ref ac])), (du, .inr (6, [.ref dug, .int ir])), (dug, .inl (3, 4, .inr (.inl gr)))]) rfl ?_
    refine r_astore_n (lv' := [(3, .ref du), (0, .ref a), (1, .int 100), (2, .int k)]) d_Ip_poolHas_5 rfl (by decide) rfl ?_
    refine r_aload_n d_Ip_poolHas_6 rfl 0 rfl ?_
    refine r_ifnonnull (tgt := 21) d_Ip_poolHas_7 (by decide) ?_
    refine r_iload_n d_Ip_poolHas_21 rfl 3 rfl ?_
    refine r_callS (As := [.int k]) (rest := []) (csC := []) (is := []) ln_Ip_294 w_st_Ip_elementIndex ok_Ip_poolHas_Ip_elementIndex d_Ip_poolHas_22 (C_Ip_elementIndexN g k e he hk) rfl rfl (Nat.le_of_ble_eq_true rfl) rfl (by decide) (by omega) (by omega) (fun E cs1 hx => ?_) (fun v cs1 hx => ?_)
    · exact absurd hx.1 (by simp)
    · obtain ⟨e1, rfl⟩ := hx
      cases e1
      refine ⟨rfl, ?_⟩
      refine r_st (st2 := [.int (nI e)]) rfl ?_
      refine r_cs (cs2 := [(a, .inr (11, [.ref pa, .ref ta, .ref sa, .ref gs, .ref co, .ref fu, .ref la, .ref gy, .ref du, .ref re, .ref wm, .ref ac])), (du, .inr (6, [.ref dug, .int ir])), (dug, .inl (3, 4, .inr (.inl gr)))]) rfl ?_
      refine r_istore (lv' := [(4, .int (nI e)), (3, .ref du), (0, .ref a), (1, .int 100), (2, .int k)]) d_Ip_poolHas_25 (by decide) rfl ?_
      refine r_aload_n d_Ip_poolHas_27 rfl 1 rfl ?_
      refine r_get fs_Ip_269 d_Ip_poolHas_28 (q0 := 1) rfl rfl ?_
      refine r_if_gt (tgt := 45) d_Ip_poolHas_31 (by decide) (fun c_31 => ?_) (fun c_31 => ?_)
      · exact absurd c_31 (Int32.not_lt.mpr hi)
      · refine r_throwXW tb_Ip_150_154 sr_Ip_368 d_Ip_poolHas_34 d_Ip_poolHas_37 d_Ip_poolHas_38 d_Ip_poolHas_41 d_Ip_poolHas_44 rfl (by decide) (by decide) (Nat.le_of_ble_eq_true rfl) (by omega) (by omega) ?_
        exact ⟨rfl, rfl⟩
set_option maxHeartbeats 4000000 in
set_option maxRecDepth 100000 in
theorem C_Ip_poolHas100N (g : zG) (a pa ta sa gs co fu la gy du re wm ac : Nat) (dug : Nat) (gr : Nat → Int64) (ir : Int32) (k : Int32) (e : Nat) (he : e < 4) (hk : z_ix 2 k = nI e) (hi : ¬ ir ≤ 0) : CT g M_Ip_poolHas [.ref a, .int 100, .int k] [(a, .inr (11, [.ref pa, .ref ta, .ref sa, .ref gs, .ref co, .ref fu, .ref la, .ref gy, .ref du, .ref re, .ref wm, .ref ac])), (du, .inr (6, [.ref dug, .int ir])), (dug, .inl (3, 4, .inr (.inl gr)))] (fun o cs1 => o = .inl (some (.int (poI gr ir e))) ∧ cs1 = [(a, .inr (11, [.ref pa, .ref ta, .ref sa, .ref gs, .ref co, .ref fu, .ref la, .ref gy, .ref du, .ref re, .ref wm, .ref ac])), (du, .inr (6, [.ref dug, .int ir])), (dug, .inl (3, 4, .inr (.inl gr)))]) 2 12 := by
  refine z_of (by decide) rfl (Nat.le_of_ble_eq_true rfl) (fun w0 => ?_)
  refine r_lvE (lv2 := [(0, .ref a), (1, .int 100), (2, .int k)]) rfl ?_
  refine r_aload_n d_Ip_poolHas_0 rfl 0 rfl ?_
  refine r_iload_n d_Ip_poolHas_1 rfl 1 rfl ?_
  refine r_callV (As := [.int 100]) (rest := []) (csC := [(a, .inr (11, [.ref pa, .ref ta, .ref sa, .ref gs, .ref co, .ref fu, .ref la, .ref gy, .ref du, .ref re, .ref wm, .ref ac]))]) (is := [0]) (q0 := 0) rfl rfl ln_Ip_265 w_im_Ip_poolOf w_se_Ip_poolOf ok_Ip_poolHas_Ip_poolOf d_Ip_poolHas_2 (C_Ip_poolOfD g a pa ta sa gs co fu la gy du re wm ac) rfl rfl (Nat.le_of_ble_eq_true rfl) rfl (by decide) (by omega) (by omega) (fun E cs1 hx => ?_) (fun v cs1 hx => ?_)
  · exact absurd hx.1 (by simp)
  · obtain ⟨e1, rfl⟩ := hx
    cases e1
    refine ⟨rfl, ?_⟩
    refine r_st (st2 := [.ref du]) rfl ?_
    refine r_cs (cs2 := [(a, .inr (11, [.ref pa, .ref ta, .ref sa, .ref gs, .ref co, .ref fu, .ref la, .ref gy, .ref du, .ref re, .ref wm, .ref ac])), (du, .inr (6, [.ref dug, .int ir])), (dug, .inl (3, 4, .inr (.inl gr)))]) rfl ?_
    refine r_astore_n (lv' := [(3, .ref du), (0, .ref a), (1, .int 100), (2, .int k)]) d_Ip_poolHas_5 rfl (by decide) rfl ?_
    refine r_aload_n d_Ip_poolHas_6 rfl 0 rfl ?_
    refine r_ifnonnull (tgt := 21) d_Ip_poolHas_7 (by decide) ?_
    refine r_iload_n d_Ip_poolHas_21 rfl 3 rfl ?_
    refine r_callS (As := [.int k]) (rest := []) (csC := []) (is := []) ln_Ip_294 w_st_Ip_elementIndex ok_Ip_poolHas_Ip_elementIndex d_Ip_poolHas_22 (C_Ip_elementIndexN g k e he hk) rfl rfl (Nat.le_of_ble_eq_true rfl) rfl (by decide) (by omega) (by omega) (fun E cs1 hx => ?_) (fun v cs1 hx => ?_)
    · exact absurd hx.1 (by simp)
    · obtain ⟨e1, rfl⟩ := hx
      cases e1
      refine ⟨rfl, ?_⟩
      refine r_st (st2 := [.int (nI e)]) rfl ?_
      refine r_cs (cs2 := [(a, .inr (11, [.ref pa, .ref ta, .ref sa, .ref gs, .ref co, .ref fu, .ref la, .ref gy, .ref du, .ref re, .ref wm, .ref ac])), (du, .inr (6, [.ref dug, .int ir])), (dug, .inl (3, 4, .inr (.inl gr)))]) rfl ?_
      refine r_istore (lv' := [(4, .int (nI e)), (3, .ref du), (0, .ref a), (1, .int 100), (2, .int k)]) d_Ip_poolHas_25 (by decide) rfl ?_
      refine r_aload_n d_Ip_poolHas_27 rfl 1 rfl ?_
      refine r_get fs_Ip_269 d_Ip_poolHas_28 (q0 := 1) rfl rfl ?_
      refine r_if_gt (tgt := 45) d_Ip_poolHas_31 (by decide) (fun c_31 => ?_) (fun c_31 => ?_)
      · refine r_aload_n d_Ip_poolHas_45 rfl 1 rfl ?_
        refine r_iload d_Ip_poolHas_46 0 rfl ?_
        refine r_callV (As := [.int (nI e)]) (rest := []) (csC := [(du, .inr (6, [.ref dug, .int ir])), (dug, .inl (3, 4, .inr (.inl gr)))]) (is := [1, 2]) (q0 := 1) rfl rfl ln_Ip_300 w_im_Me_partOf w_se_Me_partOf ok_Ip_poolHas_Me_partOf d_Ip_poolHas_48 (C_Me_partOf g du dug gr ir e he) rfl rfl (Nat.le_of_ble_eq_true rfl) rfl (by decide) (by omega) (by omega) (fun E cs1 hx => ?_) (fun v cs1 hx => ?_)
        · exact absurd hx.1 (by simp)
        · obtain ⟨e1, rfl⟩ := hx
          cases e1
          refine ⟨rfl, ?_⟩
          refine r_st (st2 := [.int (poI gr ir e)]) rfl ?_
          refine r_cs (cs2 := [(a, .inr (11, [.ref pa, .ref ta, .ref sa, .ref gs, .ref co, .ref fu, .ref la, .ref gy, .ref du, .ref re, .ref wm, .ref ac])), (du, .inr (6, [.ref dug, .int ir])), (dug, .inl (3, 4, .inr (.inl gr)))]) rfl ?_
          refine r_iret d_Ip_poolHas_51 rfl rfl ?_
          exact ⟨rfl, rfl⟩
      · exact absurd (Int32.not_lt.mp c_31) hi
theorem d_Ip_poolHas_10 : decode prog_1_method_32_code 10 = .ok (.new 89, 3) := zo_187 (d := 0) (e := 89) (zd_b zq_prog_1_method_32_code_0 10 rfl rfl rfl) (zd_b zq_prog_1_method_32_code_0 11 rfl rfl rfl) (zd_b zq_prog_1_method_32_code_0 12 rfl rfl rfl)
theorem d_Ip_poolHas_13 : decode prog_1_method_32_code 13 = .ok (.dup, 1) := zo_89 (zd_b zq_prog_1_method_32_code_0 13 rfl rfl rfl)
theorem d_Ip_poolHas_14 : decode prog_1_method_32_code 14 = .ok (.ldc_w 366, 3) := zo_19 (d := 1) (e := 110) (zd_b zq_prog_1_method_32_code_0 14 rfl rfl rfl) (zd_b zq_prog_1_method_32_code_0 15 rfl rfl rfl) (zd_b zq_prog_1_method_32_code_0 16 rfl rfl rfl)
theorem d_Ip_poolHas_17 : decode prog_1_method_32_code 17 = .ok (.invokespecial 93, 3) := zo_183 (d := 0) (e := 93) (zd_b zq_prog_1_method_32_code_0 17 rfl rfl rfl) (zd_b zq_prog_1_method_32_code_0 18 rfl rfl rfl) (zd_b zq_prog_1_method_32_code_0 19 rfl rfl rfl)
theorem d_Ip_poolHas_20 : decode prog_1_method_32_code 20 = .ok (.athrow, 1) := zo_191 (zd_b zq_prog_1_method_32_code_0 20 rfl rfl rfl)
set_option maxHeartbeats 4000000 in
set_option maxRecDepth 100000 in
theorem C_Ip_poolHasE (g : zG) (a pa ta sa gs co fu la gy du re wm ac : Nat) (k k2 : Int32) (h1 : ¬ k = 103) (h2 : ¬ k = 100) : CT g M_Ip_poolHas [.ref a, .int k, .int k2] [(a, .inr (11, [.ref pa, .ref ta, .ref sa, .ref gs, .ref co, .ref fu, .ref la, .ref gy, .ref du, .ref re, .ref wm, .ref ac]))] (fun o cs1 => o = .inr "java/lang/IllegalArgumentException" ∧ cs1 = [(a, .inr (11, [.ref pa, .ref ta, .ref sa, .ref gs, .ref co, .ref fu, .ref la, .ref gy, .ref du, .ref re, .ref wm, .ref ac]))]) 1 6 := by
  refine z_of (by decide) rfl (Nat.le_of_ble_eq_true rfl) (fun w0 => ?_)
  refine r_lvE (lv2 := [(0, .ref a), (1, .int k), (2, .int k2)]) rfl ?_
  refine r_aload_n d_Ip_poolHas_0 rfl 0 rfl ?_
  refine r_iload_n d_Ip_poolHas_1 rfl 1 rfl ?_
  refine r_callV (As := [.int k]) (rest := []) (csC := [(a, .inr (11, [.ref pa, .ref ta, .ref sa, .ref gs, .ref co, .ref fu, .ref la, .ref gy, .ref du, .ref re, .ref wm, .ref ac]))]) (is := [0]) (q0 := 0) rfl rfl ln_Ip_265 w_im_Ip_poolOf w_se_Ip_poolOf ok_Ip_poolHas_Ip_poolOf d_Ip_poolHas_2 (C_Ip_poolOfO g a pa ta sa gs co fu la gy du re wm ac k h1 h2) rfl rfl (Nat.le_of_ble_eq_true rfl) rfl (by decide) (by omega) (by omega) (fun E cs1 hx => ?_) (fun v cs1 hx => ?_)
  · exact absurd hx.1 (by simp)
  · obtain ⟨e1, rfl⟩ := hx
    cases e1
    refine ⟨rfl, ?_⟩
    refine r_st (st2 := [.null]) rfl ?_
    refine r_cs (cs2 := [(a, .inr (11, [.ref pa, .ref ta, .ref sa, .ref gs, .ref co, .ref fu, .ref la, .ref gy, .ref du, .ref re, .ref wm, .ref ac]))]) rfl ?_
    refine r_astore_nN (lv' := [(3, .null), (0, .ref a), (1, .int k), (2, .int k2)]) d_Ip_poolHas_5 rfl (by decide) rfl ?_
    refine r_aload_nN d_Ip_poolHas_6 rfl 0 rfl ?_
    refine r_ifnonnullN d_Ip_poolHas_7 ?_
    refine r_throwW tb_Ip_89_93 sr_Ip_366 d_Ip_poolHas_10 d_Ip_poolHas_13 d_Ip_poolHas_14 d_Ip_poolHas_17 d_Ip_poolHas_20 rfl (by decide) (by decide) (Nat.le_of_ble_eq_true rfl) (by omega) (by omega) ?_
    exact ⟨rfl, rfl⟩
abbrev M_Ip_furnace : zM := (⟨"Ironpour", "furnace", "(C)I"⟩, prog_1_method_24_code, 3, (Option.some FieldType.int), 9, 200, [])
theorem d_Ip_furnace_0 : decode prog_1_method_24_code 0 = .ok (.iload_n 1, 1) := zo_27 (zd_b zq_prog_1_method_24_code_0 0 rfl rfl rfl)
theorem d_Ip_furnace_1 : decode prog_1_method_24_code 1 = .ok (.invokestatic 294, 3) := zo_184 (d := 1) (e := 38) (zd_b zq_prog_1_method_24_code_0 1 rfl rfl rfl) (zd_b zq_prog_1_method_24_code_0 2 rfl rfl rfl) (zd_b zq_prog_1_method_24_code_0 3 rfl rfl rfl)
theorem ok_Ip_furnace_Ip_elementIndex : z_ok M_Ip_furnace M_Ip_elementIndex 1 := ⟨z_mj5 (i := 74) rfl (by decide +kernel), rfl, ⟨by decide +kernel, by decide +kernel, by decide +kernel⟩, ⟨by decide, by decide⟩, z_mj1 (i := 1) rfl (by decide +kernel), rfl⟩
set_option maxHeartbeats 4000000 in
set_option maxRecDepth 100000 in
theorem C_Ip_furnaceE (g : zG) (a pa ta sa gs co fu la gy du re wm ac : Nat) (fub fubg fut1 fut2 fut3 : Nat) (gr : Nat → Int64) (ir : Int32) (io : Int64) (k : Int32) (hk : z_ix 2 k < 0) : CT g M_Ip_furnace [.ref a, .int k] [(a, .inr (11, [.ref pa, .ref ta, .ref sa, .ref gs, .ref co, .ref fu, .ref la, .ref gy, .ref du, .ref re, .ref wm, .ref ac])), (fu, .inr (3, [.ref fub, .ref fut1, .ref fut2, .ref fut3, .long io])), (fub, .inr (6, [.ref fubg, .int ir])), (fubg, .inl (3, 4, .inr (.inl gr)))] (fun o cs1 => o = .inr "java/lang/IllegalArgumentException" ∧ cs1 = [(a, .inr (11, [.ref pa, .ref ta, .ref sa, .ref gs, .ref co, .ref fu, .ref la, .ref gy, .ref du, .ref re, .ref wm, .ref ac])), (fu, .inr (3, [.ref fub, .ref fut1, .ref fut2, .ref fut3, .long io])), (fub, .inr (6, [.ref fubg, .int ir])), (fubg, .inl (3, 4, .inr (.inl gr)))]) 1 6 := by
  refine z_of (by decide) rfl (Nat.le_of_ble_eq_true rfl) (fun w0 => ?_)
  refine r_lvE (lv2 := [(0, .ref a), (1, .int k)]) rfl ?_
  refine r_iload_n d_Ip_furnace_0 rfl 1 rfl ?_
  refine r_callS (As := [.int k]) (rest := []) (csC := []) (is := []) ln_Ip_294 w_st_Ip_elementIndex ok_Ip_furnace_Ip_elementIndex d_Ip_furnace_1 (C_Ip_elementIndexE g k hk) rfl rfl (Nat.le_of_ble_eq_true rfl) rfl (by decide) (by omega) (by omega) (fun E cs1 hx => ?_) (fun v cs1 hx => ?_)
  · obtain ⟨e1, rfl⟩ := hx
    cases e1
    exact ⟨rfl, rfl, rfl⟩
  · exact absurd hx.1 (by simp)
theorem d_Ip_furnace_4 : decode prog_1_method_24_code 4 = .ok (.istore_n 2, 1) := zo_61 (zd_b zq_prog_1_method_24_code_0 4 rfl rfl rfl)
theorem d_Ip_furnace_5 : decode prog_1_method_24_code 5 = .ok (.aload_n 0, 1) := zo_42 (zd_b zq_prog_1_method_24_code_0 5 rfl rfl rfl)
theorem d_Ip_furnace_6 : decode prog_1_method_24_code 6 = .ok (.getfield 43, 3) := zo_180 (d := 0) (e := 43) (zd_b zq_prog_1_method_24_code_0 6 rfl rfl rfl) (zd_b zq_prog_1_method_24_code_0 7 rfl rfl rfl) (zd_b zq_prog_1_method_24_code_0 8 rfl rfl rfl)
theorem d_Ip_furnace_9 : decode prog_1_method_24_code 9 = .ok (.getfield 277, 3) := zo_180 (d := 1) (e := 21) (zd_b zq_prog_1_method_24_code_0 9 rfl rfl rfl) (zd_b zq_prog_1_method_24_code_0 10 rfl rfl rfl) (zd_b zq_prog_1_method_24_code_0 11 rfl rfl rfl)
theorem d_Ip_furnace_12 : decode prog_1_method_24_code 12 = .ok (.getfield 269, 3) := zo_180 (d := 1) (e := 13) (zd_b zq_prog_1_method_24_code_0 12 rfl rfl rfl) (zd_b zq_prog_1_method_24_code_0 13 rfl rfl rfl) (zd_b zq_prog_1_method_24_code_0 14 rfl rfl rfl)
theorem d_Ip_furnace_15 : decode prog_1_method_24_code 15 = .ok (.ifCond .gt 14, 3) := zo_157 (d := 0) (e := 14) (zd_b zq_prog_1_method_24_code_0 15 rfl rfl rfl) (zd_b zq_prog_1_method_24_code_0 16 rfl rfl rfl) (zd_b zq_prog_1_method_24_code_0 17 rfl rfl rfl) (by decide +kernel)
theorem d_Ip_furnace_18 : decode prog_1_method_24_code 18 = .ok (.new 150, 3) := zo_187 (d := 0) (e := 150) (zd_b zq_prog_1_method_24_code_0 18 rfl rfl rfl) (zd_b zq_prog_1_method_24_code_0 19 rfl rfl rfl) (zd_b zq_prog_1_method_24_code_0 20 rfl rfl rfl)
theorem sr_Ip_298 : Cond.stringRef "Ironpour" 298 "no iron in the furnace" ∈ lw_tbl := z_tb5 (i := 77) rfl
theorem d_Ip_furnace_21 : decode prog_1_method_24_code 21 = .ok (.dup, 1) := zo_89 (zd_b zq_prog_1_method_24_code_0 21 rfl rfl rfl)
theorem d_Ip_furnace_22 : decode prog_1_method_24_code 22 = .ok (.ldc_w 298, 3) := zo_19 (d := 1) (e := 42) (zd_b zq_prog_1_method_24_code_0 22 rfl rfl rfl) (zd_b zq_prog_1_method_24_code_0 23 rfl rfl rfl) (zd_b zq_prog_1_method_24_code_0 24 rfl rfl rfl)
theorem d_Ip_furnace_25 : decode prog_1_method_24_code 25 = .ok (.invokespecial 154, 3) := zo_183 (d := 0) (e := 154) (zd_b zq_prog_1_method_24_code_0 25 rfl rfl rfl) (zd_b zq_prog_1_method_24_code_0 26 rfl rfl rfl) (zd_b zq_prog_1_method_24_code_0 27 rfl rfl rfl)
theorem d_Ip_furnace_28 : decode prog_1_method_24_code 28 = .ok (.athrow, 1) := zo_191 (zd_b zq_prog_1_method_24_code_0 28 rfl rfl rfl)
set_option maxHeartbeats 4000000 in
set_option maxRecDepth 100000 in
theorem C_Ip_furnaceF (g : zG) (a pa ta sa gs co fu la gy du re wm ac : Nat) (fub fubg fut1 fut2 fut3 : Nat) (gr : Nat → Int64) (ir : Int32) (io : Int64) (k : Int32) (e : Nat) (he : e < 4) (hk : z_ix 2 k = nI e) (hi : ir ≤ 0) : CT g M_Ip_furnace [.ref a, .int k] [(a, .inr (11, [.ref pa, .ref ta, .ref sa, .ref gs, .ref co, .ref fu, .ref la, .ref gy, .ref du, .ref re, .ref wm, .ref ac])), (fu, .inr (3, [.ref fub, .ref fut1, .ref fut2, .ref fut3, .long io])), (fub, .inr (6, [.ref fubg, .int ir])), (fubg, .inl (3, 4, .inr (.inl gr)))] (fun o cs1 => o = .inr "java/util/NoSuchElementException" ∧ cs1 = [(a, .inr (11, [.ref pa, .ref ta, .ref sa, .ref gs, .ref co, .ref fu, .ref la, .ref gy, .ref du, .ref re, .ref wm, .ref ac])), (fu, .inr (3, [.ref fub, .ref fut1, .ref fut2, .ref fut3, .long io])), (fub, .inr (6, [.ref fubg, .int ir])), (fubg, .inl (3, 4, .inr (.inl gr)))]) 2 12 := by
  refine z_of (by decide) rfl (Nat.le_of_ble_eq_true rfl) (fun w0 => ?_)
  refine r_lvE (lv2 := [(0, .ref a), (1, .int k)]) rfl ?_
  refine r_iload_n d_Ip_furnace_0 rfl 1 rfl ?_
  refine r_callS (As := [.int k]) (rest := []) (csC := []) (is := []) ln_Ip_294 w_st_Ip_elementIndex ok_Ip_furnace_Ip_elementIndex d_Ip_furnace_1 (C_Ip_elementIndexN g k e he hk) rfl rfl (Nat.le_of_ble_eq_true rfl) rfl (by decide) (by omega) (by omega) (fun E cs1 hx => ?_) (fun v cs1 hx => ?_)
  · exact absurd hx.1 (by simp)
  · obtain ⟨e1, rfl⟩ := hx
    cases e1
    refine ⟨rfl, ?_⟩
    refine r_st (st2 := [.int (nI e)]) rfl ?_
    refine r_cs (cs2 := [(a, .inr (11, [.ref pa, .ref ta, .ref sa, .ref gs, .ref co, .ref fu, .ref la, .ref gy, .ref du, .ref re, .ref wm, .ref ac])), (fu, .inr (3, [.ref fub, .ref fut1, .ref fut2, .ref fut3, .long io])), (fub, .inr (6, [.ref fubg, .int ir])), (fubg, .inl (3, 4, .inr (.inl gr)))]) rfl ?_
    refine r_istore_n (lv' := [(2, .int (nI e)), (0, .ref a), (1, .int k)]) d_Ip_furnace_4 rfl (by decide) rfl ?_
    refine r_aload_n d_Ip_furnace_5 rfl 1 rfl ?_
    refine r_get fs_Ip_43 d_Ip_furnace_6 (q0 := 0) rfl rfl ?_
    refine r_get fs_Ip_277 d_Ip_furnace_9 (q0 := 1) rfl rfl ?_
    refine r_get fs_Ip_269 d_Ip_furnace_12 (q0 := 2) rfl rfl ?_
    refine r_if_gt (tgt := 29) d_Ip_furnace_15 (by decide) (fun c_15 => ?_) (fun c_15 => ?_)
    · exact absurd c_15 (Int32.not_lt.mpr hi)
    · refine r_throwXW tb_Ip_150_154 sr_Ip_298 d_Ip_furnace_18 d_Ip_furnace_21 d_Ip_furnace_22 d_Ip_furnace_25 d_Ip_furnace_28 rfl (by decide) (by decide) (Nat.le_of_ble_eq_true rfl) (by omega) (by omega) ?_
      exact ⟨rfl, rfl⟩
theorem d_Ip_furnace_29 : decode prog_1_method_24_code 29 = .ok (.aload_n 0, 1) := zo_42 (zd_b zq_prog_1_method_24_code_0 29 rfl rfl rfl)
theorem d_Ip_furnace_30 : decode prog_1_method_24_code 30 = .ok (.getfield 43, 3) := zo_180 (d := 0) (e := 43) (zd_b zq_prog_1_method_24_code_0 30 rfl rfl rfl) (zd_b zq_prog_1_method_24_code_0 31 rfl rfl rfl) (zd_b zq_prog_1_method_24_code_1 0 rfl rfl rfl)
theorem d_Ip_furnace_33 : decode prog_1_method_24_code 33 = .ok (.getfield 277, 3) := zo_180 (d := 1) (e := 21) (zd_b zq_prog_1_method_24_code_1 1 rfl rfl rfl) (zd_b zq_prog_1_method_24_code_1 2 rfl rfl rfl) (zd_b zq_prog_1_method_24_code_1 3 rfl rfl rfl)
theorem d_Ip_furnace_36 : decode prog_1_method_24_code 36 = .ok (.iload_n 2, 1) := zo_28 (zd_b zq_prog_1_method_24_code_1 4 rfl rfl rfl)
theorem d_Ip_furnace_37 : decode prog_1_method_24_code 37 = .ok (.invokevirtual 300, 3) := zo_182 (d := 1) (e := 44) (zd_b zq_prog_1_method_24_code_1 5 rfl rfl rfl) (zd_b zq_prog_1_method_24_code_1 6 rfl rfl rfl) (zd_b zq_prog_1_method_24_code_1 7 rfl rfl rfl)
theorem ok_Ip_furnace_Me_partOf : z_ok M_Ip_furnace M_Me_partOf 1 := ⟨z_mj5 (i := 81) rfl (by decide +kernel), rfl, ⟨by decide +kernel, by decide +kernel, by decide +kernel⟩, ⟨by decide, by decide⟩, z_mj1 (i := 8) rfl (by decide +kernel), rfl⟩
theorem d_Ip_furnace_40 : decode prog_1_method_24_code 40 = .ok (.ireturn, 1) := zo_172 (zd_b zq_prog_1_method_24_code_1 8 rfl rfl rfl)
set_option maxHeartbeats 4000000 in
set_option maxRecDepth 100000 in
theorem C_Ip_furnaceN (g : zG) (a pa ta sa gs co fu la gy du re wm ac : Nat) (fub fubg fut1 fut2 fut3 : Nat) (gr : Nat → Int64) (ir : Int32) (io : Int64) (k : Int32) (e : Nat) (he : e < 4) (hk : z_ix 2 k = nI e) (hi : ¬ ir ≤ 0) : CT g M_Ip_furnace [.ref a, .int k] [(a, .inr (11, [.ref pa, .ref ta, .ref sa, .ref gs, .ref co, .ref fu, .ref la, .ref gy, .ref du, .ref re, .ref wm, .ref ac])), (fu, .inr (3, [.ref fub, .ref fut1, .ref fut2, .ref fut3, .long io])), (fub, .inr (6, [.ref fubg, .int ir])), (fubg, .inl (3, 4, .inr (.inl gr)))] (fun o cs1 => o = .inl (some (.int (poI gr ir e))) ∧ cs1 = [(a, .inr (11, [.ref pa, .ref ta, .ref sa, .ref gs, .ref co, .ref fu, .ref la, .ref gy, .ref du, .ref re, .ref wm, .ref ac])), (fu, .inr (3, [.ref fub, .ref fut1, .ref fut2, .ref fut3, .long io])), (fub, .inr (6, [.ref fubg, .int ir])), (fubg, .inl (3, 4, .inr (.inl gr)))]) 2 12 := by
  refine z_of (by decide) rfl (Nat.le_of_ble_eq_true rfl) (fun w0 => ?_)
  refine r_lvE (lv2 := [(0, .ref a), (1, .int k)]) rfl ?_
  refine r_iload_n d_Ip_furnace_0 rfl 1 rfl ?_
  refine r_callS (As := [.int k]) (rest := []) (csC := []) (is := []) ln_Ip_294 w_st_Ip_elementIndex ok_Ip_furnace_Ip_elementIndex d_Ip_furnace_1 (C_Ip_elementIndexN g k e he hk) rfl rfl (Nat.le_of_ble_eq_true rfl) rfl (by decide) (by omega) (by omega) (fun E cs1 hx => ?_) (fun v cs1 hx => ?_)
  · exact absurd hx.1 (by simp)
  · obtain ⟨e1, rfl⟩ := hx
    cases e1
    refine ⟨rfl, ?_⟩
    refine r_st (st2 := [.int (nI e)]) rfl ?_
    refine r_cs (cs2 := [(a, .inr (11, [.ref pa, .ref ta, .ref sa, .ref gs, .ref co, .ref fu, .ref la, .ref gy, .ref du, .ref re, .ref wm, .ref ac])), (fu, .inr (3, [.ref fub, .ref fut1, .ref fut2, .ref fut3, .long io])), (fub, .inr (6, [.ref fubg, .int ir])), (fubg, .inl (3, 4, .inr (.inl gr)))]) rfl ?_
    refine r_istore_n (lv' := [(2, .int (nI e)), (0, .ref a), (1, .int k)]) d_Ip_furnace_4 rfl (by decide) rfl ?_
    refine r_aload_n d_Ip_furnace_5 rfl 1 rfl ?_
    refine r_get fs_Ip_43 d_Ip_furnace_6 (q0 := 0) rfl rfl ?_
    refine r_get fs_Ip_277 d_Ip_furnace_9 (q0 := 1) rfl rfl ?_
    refine r_get fs_Ip_269 d_Ip_furnace_12 (q0 := 2) rfl rfl ?_
    refine r_if_gt (tgt := 29) d_Ip_furnace_15 (by decide) (fun c_15 => ?_) (fun c_15 => ?_)
    · refine r_aload_n d_Ip_furnace_29 rfl 1 rfl ?_
      refine r_get fs_Ip_43 d_Ip_furnace_30 (q0 := 0) rfl rfl ?_
      refine r_get fs_Ip_277 d_Ip_furnace_33 (q0 := 1) rfl rfl ?_
      refine r_iload_n d_Ip_furnace_36 rfl 0 rfl ?_
      refine r_callV (As := [.int (nI e)]) (rest := []) (csC := [(fub, .inr (6, [.ref fubg, .int ir])), (fubg, .inl (3, 4, .inr (.inl gr)))]) (is := [2, 3]) (q0 := 2) rfl rfl ln_Ip_300 w_im_Me_partOf w_se_Me_partOf ok_Ip_furnace_Me_partOf d_Ip_furnace_37 (C_Me_partOf g fub fubg gr ir e he) rfl rfl (Nat.le_of_ble_eq_true rfl) rfl (by decide) (by omega) (by omega) (fun E cs1 hx => ?_) (fun v cs1 hx => ?_)
      · exact absurd hx.1 (by simp)
      · obtain ⟨e1, rfl⟩ := hx
        cases e1
        refine ⟨rfl, ?_⟩
        refine r_st (st2 := [.int (poI gr ir e)]) rfl ?_
        refine r_cs (cs2 := [(a, .inr (11, [.ref pa, .ref ta, .ref sa, .ref gs, .ref co, .ref fu, .ref la, .ref gy, .ref du, .ref re, .ref wm, .ref ac])), (fu, .inr (3, [.ref fub, .ref fut1, .ref fut2, .ref fut3, .long io])), (fub, .inr (6, [.ref fubg, .int ir])), (fubg, .inl (3, 4, .inr (.inl gr)))]) rfl ?_
        refine r_iret d_Ip_furnace_40 rfl rfl ?_
        exact ⟨rfl, rfl⟩
    · exact absurd (Int32.not_lt.mp c_15) hi
abbrev M_Ip_ladle : zM := (⟨"Ironpour", "ladle", "(C)I"⟩, prog_1_method_29_code, 2, (Option.some FieldType.int), 8, 179, [])
theorem d_Ip_ladle_0 : decode prog_1_method_29_code 0 = .ok (.ldc_w 355, 3) := zo_19 (d := 1) (e := 99) (zd_b zq_prog_1_method_29_code_0 0 rfl rfl rfl) (zd_b zq_prog_1_method_29_code_0 1 rfl rfl rfl) (zd_b zq_prog_1_method_29_code_0 2 rfl rfl rfl)
theorem d_Ip_ladle_3 : decode prog_1_method_29_code 3 = .ok (.iload_n 1, 1) := zo_27 (zd_b zq_prog_1_method_29_code_0 3 rfl rfl rfl)
theorem d_Ip_ladle_4 : decode prog_1_method_29_code 4 = .ok (.invokevirtual 83, 3) := zo_182 (d := 0) (e := 83) (zd_b zq_prog_1_method_29_code_0 4 rfl rfl rfl) (zd_b zq_prog_1_method_29_code_0 5 rfl rfl rfl) (zd_b zq_prog_1_method_29_code_0 6 rfl rfl rfl)
theorem ok_Ip_ladle_String_indexOf_0 : z_ok M_Ip_ladle M_String_indexOf_0 1 := ⟨z_mj3 (i := 58) rfl (by decide +kernel), rfl, ⟨by decide +kernel, by decide +kernel, by decide +kernel⟩, ⟨by decide, by decide⟩, z_mj1 (i := 15) rfl (by decide +kernel), rfl⟩
theorem d_Ip_ladle_7 : decode prog_1_method_29_code 7 = .ok (.ifCond .ge 14, 3) := zo_156 (d := 0) (e := 14) (zd_b zq_prog_1_method_29_code_0 7 rfl rfl rfl) (zd_b zq_prog_1_method_29_code_0 8 rfl rfl rfl) (zd_b zq_prog_1_method_29_code_0 9 rfl rfl rfl) (by decide +kernel)
theorem d_Ip_ladle_10 : decode prog_1_method_29_code 10 = .ok (.new 89, 3) := zo_187 (d := 0) (e := 89) (zd_b zq_prog_1_method_29_code_0 10 rfl rfl rfl) (zd_b zq_prog_1_method_29_code_0 11 rfl rfl rfl) (zd_b zq_prog_1_method_29_code_0 12 rfl rfl rfl)
theorem sr_Ip_357 : Cond.stringRef "Ironpour" 357 "a ladle has no such thing" ∈ lw_tbl := z_tb5 (i := 154) rfl
theorem d_Ip_ladle_13 : decode prog_1_method_29_code 13 = .ok (.dup, 1) := zo_89 (zd_b zq_prog_1_method_29_code_0 13 rfl rfl rfl)
theorem d_Ip_ladle_14 : decode prog_1_method_29_code 14 = .ok (.ldc_w 357, 3) := zo_19 (d := 1) (e := 101) (zd_b zq_prog_1_method_29_code_0 14 rfl rfl rfl) (zd_b zq_prog_1_method_29_code_0 15 rfl rfl rfl) (zd_b zq_prog_1_method_29_code_0 16 rfl rfl rfl)
theorem d_Ip_ladle_17 : decode prog_1_method_29_code 17 = .ok (.invokespecial 93, 3) := zo_183 (d := 0) (e := 93) (zd_b zq_prog_1_method_29_code_0 17 rfl rfl rfl) (zd_b zq_prog_1_method_29_code_0 18 rfl rfl rfl) (zd_b zq_prog_1_method_29_code_0 19 rfl rfl rfl)
theorem d_Ip_ladle_20 : decode prog_1_method_29_code 20 = .ok (.athrow, 1) := zo_191 (zd_b zq_prog_1_method_29_code_0 20 rfl rfl rfl)
set_option maxHeartbeats 4000000 in
set_option maxRecDepth 100000 in
theorem C_Ip_ladleE (g : zG) (a pa ta sa gs co fu la gy du re wm ac : Nat) (lab labg : Nat) (gr : Nat → Int64) (he mg wd ir : Int32) (w : Int32) (hw : z_ix 3 w < 0) : CT g M_Ip_ladle [.ref a, .int w] [(a, .inr (11, [.ref pa, .ref ta, .ref sa, .ref gs, .ref co, .ref fu, .ref la, .ref gy, .ref du, .ref re, .ref wm, .ref ac])), (la, .inr (5, [.ref lab, .int he, .int mg, .int wd])), (lab, .inr (6, [.ref labg, .int ir])), (labg, .inl (3, 4, .inr (.inl gr)))] (fun o cs1 => o = .inr "java/lang/IllegalArgumentException" ∧ cs1 = [(a, .inr (11, [.ref pa, .ref ta, .ref sa, .ref gs, .ref co, .ref fu, .ref la, .ref gy, .ref du, .ref re, .ref wm, .ref ac])), (la, .inr (5, [.ref lab, .int he, .int mg, .int wd])), (lab, .inr (6, [.ref labg, .int ir])), (labg, .inl (3, 4, .inr (.inl gr)))]) 1 6 := by
  refine z_of (by decide) rfl (Nat.le_of_ble_eq_true rfl) (fun w0 => ?_)
  refine r_lvE (lv2 := [(0, .ref a), (1, .int w)]) rfl ?_
  refine r_ldcWS (own := "Ironpour") (i := 3) (by decide) d_Ip_ladle_0 ?_
  refine r_iload_n d_Ip_ladle_3 rfl 1 rfl ?_
  refine r_callVS (As := [.int w]) (rest := []) (csC := []) (is := []) (i := 3) (by first | assumption | decide) rfl ln_Ip_83 w_im_String_indexOf_0 w_se_String_indexOf_0 ok_Ip_ladle_String_indexOf_0 d_Ip_ladle_4 (C_St_indexOf g 3 (by decide) w) rfl rfl (Nat.le_of_ble_eq_true rfl) rfl (by decide) (by omega) (by omega) (fun E cs1 hx => ?_) (fun v cs1 hx => ?_)
  · exact absurd hx.1 (by simp)
  · obtain ⟨e1, rfl⟩ := hx
    cases e1
    refine ⟨rfl, ?_⟩
    refine r_st (st2 := [.int (z_ix 3 w)]) rfl ?_
    refine r_cs (cs2 := [(a, .inr (11, [.ref pa, .ref ta, .ref sa, .ref gs, .ref co, .ref fu, .ref la, .ref gy, .ref du, .ref re, .ref wm, .ref ac])), (la, .inr (5, [.ref lab, .int he, .int mg, .int wd])), (lab, .inr (6, [.ref labg, .int ir])), (labg, .inl (3, 4, .inr (.inl gr)))]) rfl ?_
    refine r_if_ge (tgt := 21) d_Ip_ladle_7 (by decide) (fun c_7 => ?_) (fun c_7 => ?_)
    · exact absurd hw (Int32.not_lt.mpr c_7)
    · refine r_throwW tb_Ip_89_93 sr_Ip_357 d_Ip_ladle_10 d_Ip_ladle_13 d_Ip_ladle_14 d_Ip_ladle_17 d_Ip_ladle_20 rfl (by decide) (by decide) (Nat.le_of_ble_eq_true rfl) (by omega) (by omega) ?_
      exact ⟨rfl, rfl⟩
theorem d_Ip_ladle_21 : decode prog_1_method_29_code 21 = .ok (.aload_n 0, 1) := zo_42 (zd_b zq_prog_1_method_29_code_0 21 rfl rfl rfl)
theorem d_Ip_ladle_22 : decode prog_1_method_29_code 22 = .ok (.getfield 50, 3) := zo_180 (d := 0) (e := 50) (zd_b zq_prog_1_method_29_code_0 22 rfl rfl rfl) (zd_b zq_prog_1_method_29_code_0 23 rfl rfl rfl) (zd_b zq_prog_1_method_29_code_0 24 rfl rfl rfl)
theorem d_Ip_ladle_25 : decode prog_1_method_29_code 25 = .ok (.invokevirtual 314, 3) := zo_182 (d := 1) (e := 58) (zd_b zq_prog_1_method_29_code_0 25 rfl rfl rfl) (zd_b zq_prog_1_method_29_code_0 26 rfl rfl rfl) (zd_b zq_prog_1_method_29_code_0 27 rfl rfl rfl)
theorem ok_Ip_ladle_La_isEmpty : z_ok M_Ip_ladle M_La_isEmpty 0 := ⟨z_mj5 (i := 110) rfl (by decide +kernel), rfl, ⟨by decide +kernel, by decide +kernel, by decide +kernel⟩, ⟨by decide, by decide⟩, z_mj1 (i := 9) rfl (by decide +kernel), rfl⟩
theorem d_Ip_ladle_28 : decode prog_1_method_29_code 28 = .ok (.ifCond .eq 5, 3) := zo_153 (d := 0) (e := 5) (zd_b zq_prog_1_method_29_code_0 28 rfl rfl rfl) (zd_b zq_prog_1_method_29_code_0 29 rfl rfl rfl) (zd_b zq_prog_1_method_29_code_0 30 rfl rfl rfl) (by decide +kernel)
theorem d_Ip_ladle_31 : decode prog_1_method_29_code 31 = .ok (.iconst 0, 1) := zo_3 (zd_b zq_prog_1_method_29_code_0 31 rfl rfl rfl)
theorem d_Ip_ladle_32 : decode prog_1_method_29_code 32 = .ok (.ireturn, 1) := zo_172 (zd_b zq_prog_1_method_29_code_1 0 rfl rfl rfl)
set_option maxHeartbeats 4000000 in
set_option maxRecDepth 100000 in
theorem C_Ip_ladle0 (g : zG) (a pa ta sa gs co fu la gy du re wm ac : Nat) (lab labg : Nat) (gr : Nat → Int64) (he mg wd ir : Int32) (w : Int32) (hw : ¬ z_ix 3 w < 0) (he0 : ir = 0) : CT g M_Ip_ladle [.ref a, .int w] [(a, .inr (11, [.ref pa, .ref ta, .ref sa, .ref gs, .ref co, .ref fu, .ref la, .ref gy, .ref du, .ref re, .ref wm, .ref ac])), (la, .inr (5, [.ref lab, .int he, .int mg, .int wd])), (lab, .inr (6, [.ref labg, .int ir])), (labg, .inl (3, 4, .inr (.inl gr)))] (fun o cs1 => o = .inl (some (.int 0)) ∧ cs1 = [(a, .inr (11, [.ref pa, .ref ta, .ref sa, .ref gs, .ref co, .ref fu, .ref la, .ref gy, .ref du, .ref re, .ref wm, .ref ac])), (la, .inr (5, [.ref lab, .int he, .int mg, .int wd])), (lab, .inr (6, [.ref labg, .int ir])), (labg, .inl (3, 4, .inr (.inl gr)))]) 1 6 := by
  refine z_of (by decide) rfl (Nat.le_of_ble_eq_true rfl) (fun w0 => ?_)
  refine r_lvE (lv2 := [(0, .ref a), (1, .int w)]) rfl ?_
  refine r_ldcWS (own := "Ironpour") (i := 3) (by decide) d_Ip_ladle_0 ?_
  refine r_iload_n d_Ip_ladle_3 rfl 1 rfl ?_
  refine r_callVS (As := [.int w]) (rest := []) (csC := []) (is := []) (i := 3) (by first | assumption | decide) rfl ln_Ip_83 w_im_String_indexOf_0 w_se_String_indexOf_0 ok_Ip_ladle_String_indexOf_0 d_Ip_ladle_4 (C_St_indexOf g 3 (by decide) w) rfl rfl (Nat.le_of_ble_eq_true rfl) rfl (by decide) (by omega) (by omega) (fun E cs1 hx => ?_) (fun v cs1 hx => ?_)
  · exact absurd hx.1 (by simp)
  · obtain ⟨e1, rfl⟩ := hx
    cases e1
    refine ⟨rfl, ?_⟩
    refine r_st (st2 := [.int (z_ix 3 w)]) rfl ?_
    refine r_cs (cs2 := [(a, .inr (11, [.ref pa, .ref ta, .ref sa, .ref gs, .ref co, .ref fu, .ref la, .ref gy, .ref du, .ref re, .ref wm, .ref ac])), (la, .inr (5, [.ref lab, .int he, .int mg, .int wd])), (lab, .inr (6, [.ref labg, .int ir])), (labg, .inl (3, 4, .inr (.inl gr)))]) rfl ?_
    refine r_if_ge (tgt := 21) d_Ip_ladle_7 (by decide) (fun c_7 => ?_) (fun c_7 => ?_)
    · refine r_aload_n d_Ip_ladle_21 rfl 0 rfl ?_
      refine r_get fs_Ip_50 d_Ip_ladle_22 (q0 := 0) rfl rfl ?_
      refine r_callV (As := []) (rest := []) (csC := [(la, .inr (5, [.ref lab, .int he, .int mg, .int wd])), (lab, .inr (6, [.ref labg, .int ir])), (labg, .inl (3, 4, .inr (.inl gr)))]) (is := [1, 2, 3]) (q0 := 1) rfl rfl ln_Ip_314 w_im_La_isEmpty w_se_La_isEmpty ok_Ip_ladle_La_isEmpty d_Ip_ladle_25 (C_La_isEmpty g la lab labg gr he mg wd ir) rfl rfl (Nat.le_of_ble_eq_true rfl) rfl (by decide) (by omega) (by omega) (fun E cs1 hx => ?_) (fun v cs1 hx => ?_)
      · exact absurd hx.1 (by simp)
      · obtain ⟨e1, rfl⟩ := hx
        cases e1
        refine ⟨rfl, ?_⟩
        refine r_st (st2 := [.int (if ir = 0 then 1 else 0)]) rfl ?_
        refine r_cs (cs2 := [(a, .inr (11, [.ref pa, .ref ta, .ref sa, .ref gs, .ref co, .ref fu, .ref la, .ref gy, .ref du, .ref re, .ref wm, .ref ac])), (la, .inr (5, [.ref lab, .int he, .int mg, .int wd])), (lab, .inr (6, [.ref labg, .int ir])), (labg, .inl (3, 4, .inr (.inl gr)))]) rfl ?_
        refine r_if_eq (tgt := 33) d_Ip_ladle_28 (by decide) (fun c_28 => ?_) (fun c_28 => ?_)
        · exact absurd he0 (z_b0 c_28)
        · refine r_iconst d_Ip_ladle_31 (v := 0) (by decide) ?_
          refine r_iret d_Ip_ladle_32 rfl rfl ?_
          exact ⟨rfl, rfl⟩
    · exact absurd (Int32.not_le.mp c_7) hw
theorem d_Ip_ladle_33 : decode prog_1_method_29_code 33 = .ok (.iload_n 1, 1) := zo_27 (zd_b zq_prog_1_method_29_code_1 1 rfl rfl rfl)
theorem d_Ip_ladle_34 : decode prog_1_method_29_code 34 = .ok (.lookupswitch 45 #[(104, 37), (119, 26)], 26) := by decide +kernel
theorem d_Ip_ladle_60 : decode prog_1_method_29_code 60 = .ok (.aload_n 0, 1) := zo_42 (zd_b zq_prog_1_method_29_code_1 28 rfl rfl rfl)
theorem d_Ip_ladle_61 : decode prog_1_method_29_code 61 = .ok (.getfield 50, 3) := zo_180 (d := 0) (e := 50) (zd_b zq_prog_1_method_29_code_1 29 rfl rfl rfl) (zd_b zq_prog_1_method_29_code_1 30 rfl rfl rfl) (zd_b zq_prog_1_method_29_code_1 31 rfl rfl rfl)
theorem d_Ip_ladle_64 : decode prog_1_method_29_code 64 = .ok (.getfield 359, 3) := zo_180 (d := 1) (e := 103) (zd_b zq_prog_1_method_29_code_2 0 rfl rfl rfl) (zd_b zq_prog_1_method_29_code_2 1 rfl rfl rfl) (zd_b zq_prog_1_method_29_code_2 2 rfl rfl rfl)
theorem d_Ip_ladle_67 : decode prog_1_method_29_code 67 = .ok (.getfield 269, 3) := zo_180 (d := 1) (e := 13) (zd_b zq_prog_1_method_29_code_2 3 rfl rfl rfl) (zd_b zq_prog_1_method_29_code_2 4 rfl rfl rfl) (zd_b zq_prog_1_method_29_code_2 5 rfl rfl rfl)
theorem d_Ip_ladle_70 : decode prog_1_method_29_code 70 = .ok (.ireturn, 1) := zo_172 (zd_b zq_prog_1_method_29_code_2 6 rfl rfl rfl)
set_option maxHeartbeats 4000000 in
set_option maxRecDepth 100000 in
theorem C_Ip_ladle119 (g : zG) (a pa ta sa gs co fu la gy du re wm ac : Nat) (lab labg : Nat) (gr : Nat → Int64) (he mg wd ir : Int32) (he0 : ¬ ir = 0) : CT g M_Ip_ladle [.ref a, .int 119] [(a, .inr (11, [.ref pa, .ref ta, .ref sa, .ref gs, .ref co, .ref fu, .ref la, .ref gy, .ref du, .ref re, .ref wm, .ref ac])), (la, .inr (5, [.ref lab, .int he, .int mg, .int wd])), (lab, .inr (6, [.ref labg, .int ir])), (labg, .inl (3, 4, .inr (.inl gr)))] (fun o cs1 => o = .inl (some (.int ir)) ∧ cs1 = [(a, .inr (11, [.ref pa, .ref ta, .ref sa, .ref gs, .ref co, .ref fu, .ref la, .ref gy, .ref du, .ref re, .ref wm, .ref ac])), (la, .inr (5, [.ref lab, .int he, .int mg, .int wd])), (lab, .inr (6, [.ref labg, .int ir])), (labg, .inl (3, 4, .inr (.inl gr)))]) 1 6 := by
  refine z_of (by decide) rfl (Nat.le_of_ble_eq_true rfl) (fun w0 => ?_)
  refine r_lvE (lv2 := [(0, .ref a), (1, .int 119)]) rfl ?_
  refine r_ldcWS (own := "Ironpour") (i := 3) (by decide) d_Ip_ladle_0 ?_
  refine r_iload_n d_Ip_ladle_3 rfl 1 rfl ?_
  refine r_callVS (As := [.int 119]) (rest := []) (csC := []) (is := []) (i := 3) (by first | assumption | decide) rfl ln_Ip_83 w_im_String_indexOf_0 w_se_String_indexOf_0 ok_Ip_ladle_String_indexOf_0 d_Ip_ladle_4 (C_St_indexOf g 3 (by decide) 119) rfl rfl (Nat.le_of_ble_eq_true rfl) rfl (by decide) (by omega) (by omega) (fun E cs1 hx => ?_) (fun v cs1 hx => ?_)
  · exact absurd hx.1 (by simp)
  · obtain ⟨e1, rfl⟩ := hx
    cases e1
    refine ⟨rfl, ?_⟩
    refine r_st (st2 := [.int (z_ix 3 119)]) rfl ?_
    refine r_cs (cs2 := [(a, .inr (11, [.ref pa, .ref ta, .ref sa, .ref gs, .ref co, .ref fu, .ref la, .ref gy, .ref du, .ref re, .ref wm, .ref ac])), (la, .inr (5, [.ref lab, .int he, .int mg, .int wd])), (lab, .inr (6, [.ref labg, .int ir])), (labg, .inl (3, 4, .inr (.inl gr)))]) rfl ?_
    refine r_if_ge (tgt := 21) d_Ip_ladle_7 (by decide) (fun c_7 => ?_) (fun c_7 => ?_)
    · refine r_aload_n d_Ip_ladle_21 rfl 0 rfl ?_
      refine r_get fs_Ip_50 d_Ip_ladle_22 (q0 := 0) rfl rfl ?_
      refine r_callV (As := []) (rest := []) (csC := [(la, .inr (5, [.ref lab, .int he, .int mg, .int wd])), (lab, .inr (6, [.ref labg, .int ir])), (labg, .inl (3, 4, .inr (.inl gr)))]) (is := [1, 2, 3]) (q0 := 1) rfl rfl ln_Ip_314 w_im_La_isEmpty w_se_La_isEmpty ok_Ip_ladle_La_isEmpty d_Ip_ladle_25 (C_La_isEmpty g la lab labg gr he mg wd ir) rfl rfl (Nat.le_of_ble_eq_true rfl) rfl (by decide) (by omega) (by omega) (fun E cs1 hx => ?_) (fun v cs1 hx => ?_)
      · exact absurd hx.1 (by simp)
      · obtain ⟨e1, rfl⟩ := hx
        cases e1
        refine ⟨rfl, ?_⟩
        refine r_st (st2 := [.int (if ir = 0 then 1 else 0)]) rfl ?_
        refine r_cs (cs2 := [(a, .inr (11, [.ref pa, .ref ta, .ref sa, .ref gs, .ref co, .ref fu, .ref la, .ref gy, .ref du, .ref re, .ref wm, .ref ac])), (la, .inr (5, [.ref lab, .int he, .int mg, .int wd])), (lab, .inr (6, [.ref labg, .int ir])), (labg, .inl (3, 4, .inr (.inl gr)))]) rfl ?_
        refine r_if_eq (tgt := 33) d_Ip_ladle_28 (by decide) (fun c_28 => ?_) (fun c_28 => ?_)
        · refine r_iload_n d_Ip_ladle_33 rfl 1 rfl ?_
          · refine r_lookup (off := 26) (tgt := 60) d_Ip_ladle_34 (by decide) (by decide) (by decide) ?_
            refine r_aload_n d_Ip_ladle_60 rfl 0 rfl ?_
            refine r_get fs_Ip_50 d_Ip_ladle_61 (q0 := 0) rfl rfl ?_
            refine r_get fs_Ip_359 d_Ip_ladle_64 (q0 := 1) rfl rfl ?_
            refine r_get fs_Ip_269 d_Ip_ladle_67 (q0 := 2) rfl rfl ?_
            refine r_iret d_Ip_ladle_70 rfl rfl ?_
            exact ⟨rfl, rfl⟩
        · exact absurd (z_b1 c_28) he0
    · exact absurd c_7 (by decide)
theorem d_Ip_ladle_71 : decode prog_1_method_29_code 71 = .ok (.aload_n 0, 1) := zo_42 (zd_b zq_prog_1_method_29_code_2 7 rfl rfl rfl)
theorem d_Ip_ladle_72 : decode prog_1_method_29_code 72 = .ok (.getfield 50, 3) := zo_180 (d := 0) (e := 50) (zd_b zq_prog_1_method_29_code_2 8 rfl rfl rfl) (zd_b zq_prog_1_method_29_code_2 9 rfl rfl rfl) (zd_b zq_prog_1_method_29_code_2 10 rfl rfl rfl)
theorem d_Ip_ladle_75 : decode prog_1_method_29_code 75 = .ok (.getfield 353, 3) := zo_180 (d := 1) (e := 97) (zd_b zq_prog_1_method_29_code_2 11 rfl rfl rfl) (zd_b zq_prog_1_method_29_code_2 12 rfl rfl rfl) (zd_b zq_prog_1_method_29_code_2 13 rfl rfl rfl)
theorem fs_Ip_353 : z_fs "Ironpour" 353 5 1 := ⟨R_La, "Ironpour$Ladle", F_La, 4, rfl, u_La, by decide, Or.inr ⟨"Ironpour", z_mk2 (i := 2) rfl (by decide +kernel), rfl⟩⟩
theorem d_Ip_ladle_78 : decode prog_1_method_29_code 78 = .ok (.ireturn, 1) := zo_172 (zd_b zq_prog_1_method_29_code_2 14 rfl rfl rfl)
set_option maxHeartbeats 4000000 in
set_option maxRecDepth 100000 in
theorem C_Ip_ladle104 (g : zG) (a pa ta sa gs co fu la gy du re wm ac : Nat) (lab labg : Nat) (gr : Nat → Int64) (he mg wd ir : Int32) (he0 : ¬ ir = 0) : CT g M_Ip_ladle [.ref a, .int 104] [(a, .inr (11, [.ref pa, .ref ta, .ref sa, .ref gs, .ref co, .ref fu, .ref la, .ref gy, .ref du, .ref re, .ref wm, .ref ac])), (la, .inr (5, [.ref lab, .int he, .int mg, .int wd])), (lab, .inr (6, [.ref labg, .int ir])), (labg, .inl (3, 4, .inr (.inl gr)))] (fun o cs1 => o = .inl (some (.int he)) ∧ cs1 = [(a, .inr (11, [.ref pa, .ref ta, .ref sa, .ref gs, .ref co, .ref fu, .ref la, .ref gy, .ref du, .ref re, .ref wm, .ref ac])), (la, .inr (5, [.ref lab, .int he, .int mg, .int wd])), (lab, .inr (6, [.ref labg, .int ir])), (labg, .inl (3, 4, .inr (.inl gr)))]) 1 6 := by
  refine z_of (by decide) rfl (Nat.le_of_ble_eq_true rfl) (fun w0 => ?_)
  refine r_lvE (lv2 := [(0, .ref a), (1, .int 104)]) rfl ?_
  refine r_ldcWS (own := "Ironpour") (i := 3) (by decide) d_Ip_ladle_0 ?_
  refine r_iload_n d_Ip_ladle_3 rfl 1 rfl ?_
  refine r_callVS (As := [.int 104]) (rest := []) (csC := []) (is := []) (i := 3) (by first | assumption | decide) rfl ln_Ip_83 w_im_String_indexOf_0 w_se_String_indexOf_0 ok_Ip_ladle_String_indexOf_0 d_Ip_ladle_4 (C_St_indexOf g 3 (by decide) 104) rfl rfl (Nat.le_of_ble_eq_true rfl) rfl (by decide) (by omega) (by omega) (fun E cs1 hx => ?_) (fun v cs1 hx => ?_)
  · exact absurd hx.1 (by simp)
  · obtain ⟨e1, rfl⟩ := hx
    cases e1
    refine ⟨rfl, ?_⟩
    refine r_st (st2 := [.int (z_ix 3 104)]) rfl ?_
    refine r_cs (cs2 := [(a, .inr (11, [.ref pa, .ref ta, .ref sa, .ref gs, .ref co, .ref fu, .ref la, .ref gy, .ref du, .ref re, .ref wm, .ref ac])), (la, .inr (5, [.ref lab, .int he, .int mg, .int wd])), (lab, .inr (6, [.ref labg, .int ir])), (labg, .inl (3, 4, .inr (.inl gr)))]) rfl ?_
    refine r_if_ge (tgt := 21) d_Ip_ladle_7 (by decide) (fun c_7 => ?_) (fun c_7 => ?_)
    · refine r_aload_n d_Ip_ladle_21 rfl 0 rfl ?_
      refine r_get fs_Ip_50 d_Ip_ladle_22 (q0 := 0) rfl rfl ?_
      refine r_callV (As := []) (rest := []) (csC := [(la, .inr (5, [.ref lab, .int he, .int mg, .int wd])), (lab, .inr (6, [.ref labg, .int ir])), (labg, .inl (3, 4, .inr (.inl gr)))]) (is := [1, 2, 3]) (q0 := 1) rfl rfl ln_Ip_314 w_im_La_isEmpty w_se_La_isEmpty ok_Ip_ladle_La_isEmpty d_Ip_ladle_25 (C_La_isEmpty g la lab labg gr he mg wd ir) rfl rfl (Nat.le_of_ble_eq_true rfl) rfl (by decide) (by omega) (by omega) (fun E cs1 hx => ?_) (fun v cs1 hx => ?_)
      · exact absurd hx.1 (by simp)
      · obtain ⟨e1, rfl⟩ := hx
        cases e1
        refine ⟨rfl, ?_⟩
        refine r_st (st2 := [.int (if ir = 0 then 1 else 0)]) rfl ?_
        refine r_cs (cs2 := [(a, .inr (11, [.ref pa, .ref ta, .ref sa, .ref gs, .ref co, .ref fu, .ref la, .ref gy, .ref du, .ref re, .ref wm, .ref ac])), (la, .inr (5, [.ref lab, .int he, .int mg, .int wd])), (lab, .inr (6, [.ref labg, .int ir])), (labg, .inl (3, 4, .inr (.inl gr)))]) rfl ?_
        refine r_if_eq (tgt := 33) d_Ip_ladle_28 (by decide) (fun c_28 => ?_) (fun c_28 => ?_)
        · refine r_iload_n d_Ip_ladle_33 rfl 1 rfl ?_
          · refine r_lookup (off := 37) (tgt := 71) d_Ip_ladle_34 (by decide) (by decide) (by decide) ?_
            refine r_aload_n d_Ip_ladle_71 rfl 0 rfl ?_
            refine r_get fs_Ip_50 d_Ip_ladle_72 (q0 := 0) rfl rfl ?_
            refine r_get fs_Ip_353 d_Ip_ladle_75 (q0 := 1) rfl rfl ?_
            refine r_iret d_Ip_ladle_78 rfl rfl ?_
            exact ⟨rfl, rfl⟩
        · exact absurd (z_b1 c_28) he0
    · exact absurd c_7 (by decide)
theorem d_Ip_ladle_79 : decode prog_1_method_29_code 79 = .ok (.aload_n 0, 1) := zo_42 (zd_b zq_prog_1_method_29_code_2 15 rfl rfl rfl)
theorem d_Ip_ladle_80 : decode prog_1_method_29_code 80 = .ok (.getfield 50, 3) := zo_180 (d := 0) (e := 50) (zd_b zq_prog_1_method_29_code_2 16 rfl rfl rfl) (zd_b zq_prog_1_method_29_code_2 17 rfl rfl rfl) (zd_b zq_prog_1_method_29_code_2 18 rfl rfl rfl)
theorem d_Ip_ladle_83 : decode prog_1_method_29_code 83 = .ok (.getfield 328, 3) := zo_180 (d := 1) (e := 72) (zd_b zq_prog_1_method_29_code_2 19 rfl rfl rfl) (zd_b zq_prog_1_method_29_code_2 20 rfl rfl rfl) (zd_b zq_prog_1_method_29_code_2 21 rfl rfl rfl)
theorem d_Ip_ladle_86 : decode prog_1_method_29_code 86 = .ok (.ireturn, 1) := zo_172 (zd_b zq_prog_1_method_29_code_2 22 rfl rfl rfl)
set_option maxHeartbeats 4000000 in
set_option maxRecDepth 100000 in
theorem C_Ip_ladle109 (g : zG) (a pa ta sa gs co fu la gy du re wm ac : Nat) (lab labg : Nat) (gr : Nat → Int64) (he mg wd ir : Int32) (he0 : ¬ ir = 0) : CT g M_Ip_ladle [.ref a, .int 109] [(a, .inr (11, [.ref pa, .ref ta, .ref sa, .ref gs, .ref co, .ref fu, .ref la, .ref gy, .ref du, .ref re, .ref wm, .ref ac])), (la, .inr (5, [.ref lab, .int he, .int mg, .int wd])), (lab, .inr (6, [.ref labg, .int ir])), (labg, .inl (3, 4, .inr (.inl gr)))] (fun o cs1 => o = .inl (some (.int mg)) ∧ cs1 = [(a, .inr (11, [.ref pa, .ref ta, .ref sa, .ref gs, .ref co, .ref fu, .ref la, .ref gy, .ref du, .ref re, .ref wm, .ref ac])), (la, .inr (5, [.ref lab, .int he, .int mg, .int wd])), (lab, .inr (6, [.ref labg, .int ir])), (labg, .inl (3, 4, .inr (.inl gr)))]) 1 6 := by
  refine z_of (by decide) rfl (Nat.le_of_ble_eq_true rfl) (fun w0 => ?_)
  refine r_lvE (lv2 := [(0, .ref a), (1, .int 109)]) rfl ?_
  refine r_ldcWS (own := "Ironpour") (i := 3) (by decide) d_Ip_ladle_0 ?_
  refine r_iload_n d_Ip_ladle_3 rfl 1 rfl ?_
  refine r_callVS (As := [.int 109]) (rest := []) (csC := []) (is := []) (i := 3) (by first | assumption | decide) rfl ln_Ip_83 w_im_String_indexOf_0 w_se_String_indexOf_0 ok_Ip_ladle_String_indexOf_0 d_Ip_ladle_4 (C_St_indexOf g 3 (by decide) 109) rfl rfl (Nat.le_of_ble_eq_true rfl) rfl (by decide) (by omega) (by omega) (fun E cs1 hx => ?_) (fun v cs1 hx => ?_)
  · exact absurd hx.1 (by simp)
  · obtain ⟨e1, rfl⟩ := hx
    cases e1
    refine ⟨rfl, ?_⟩
    refine r_st (st2 := [.int (z_ix 3 109)]) rfl ?_
    refine r_cs (cs2 := [(a, .inr (11, [.ref pa, .ref ta, .ref sa, .ref gs, .ref co, .ref fu, .ref la, .ref gy, .ref du, .ref re, .ref wm, .ref ac])), (la, .inr (5, [.ref lab, .int he, .int mg, .int wd])), (lab, .inr (6, [.ref labg, .int ir])), (labg, .inl (3, 4, .inr (.inl gr)))]) rfl ?_
    refine r_if_ge (tgt := 21) d_Ip_ladle_7 (by decide) (fun c_7 => ?_) (fun c_7 => ?_)
    · refine r_aload_n d_Ip_ladle_21 rfl 0 rfl ?_
      refine r_get fs_Ip_50 d_Ip_ladle_22 (q0 := 0) rfl rfl ?_
      refine r_callV (As := []) (rest := []) (csC := [(la, .inr (5, [.ref lab, .int he, .int mg, .int wd])), (lab, .inr (6, [.ref labg, .int ir])), (labg, .inl (3, 4, .inr (.inl gr)))]) (is := [1, 2, 3]) (q0 := 1) rfl rfl ln_Ip_314 w_im_La_isEmpty w_se_La_isEmpty ok_Ip_ladle_La_isEmpty d_Ip_ladle_25 (C_La_isEmpty g la lab labg gr he mg wd ir) rfl rfl (Nat.le_of_ble_eq_true rfl) rfl (by decide) (by omega) (by omega) (fun E cs1 hx => ?_) (fun v cs1 hx => ?_)
      · exact absurd hx.1 (by simp)
      · obtain ⟨e1, rfl⟩ := hx
        cases e1
        refine ⟨rfl, ?_⟩
        refine r_st (st2 := [.int (if ir = 0 then 1 else 0)]) rfl ?_
        refine r_cs (cs2 := [(a, .inr (11, [.ref pa, .ref ta, .ref sa, .ref gs, .ref co, .ref fu, .ref la, .ref gy, .ref du, .ref re, .ref wm, .ref ac])), (la, .inr (5, [.ref lab, .int he, .int mg, .int wd])), (lab, .inr (6, [.ref labg, .int ir])), (labg, .inl (3, 4, .inr (.inl gr)))]) rfl ?_
        refine r_if_eq (tgt := 33) d_Ip_ladle_28 (by decide) (fun c_28 => ?_) (fun c_28 => ?_)
        · refine r_iload_n d_Ip_ladle_33 rfl 1 rfl ?_
          · refine r_lookup (off := 45) (tgt := 79) d_Ip_ladle_34 (by decide) (by decide) (by decide) ?_
            refine r_aload_n d_Ip_ladle_79 rfl 0 rfl ?_
            refine r_get fs_Ip_50 d_Ip_ladle_80 (q0 := 0) rfl rfl ?_
            refine r_get fs_Ip_328 d_Ip_ladle_83 (q0 := 1) rfl rfl ?_
            refine r_iret d_Ip_ladle_86 rfl rfl ?_
            exact ⟨rfl, rfl⟩
        · exact absurd (z_b1 c_28) he0
    · exact absurd c_7 (by decide)
abbrev M_Ip_cheapest : zM := (⟨"Ironpour", "cheapest", "(C)I"⟩, prog_1_method_34_code, 2, (Option.some FieldType.int), 8, 179, [])
theorem d_Ip_cheapest_0 : decode prog_1_method_34_code 0 = .ok (.ldc_w 380, 3) := zo_19 (d := 1) (e := 124) (zd_b zq_prog_1_method_34_code_0 0 rfl rfl rfl) (zd_b zq_prog_1_method_34_code_0 1 rfl rfl rfl) (zd_b zq_prog_1_method_34_code_0 2 rfl rfl rfl)
theorem d_Ip_cheapest_3 : decode prog_1_method_34_code 3 = .ok (.iload_n 1, 1) := zo_27 (zd_b zq_prog_1_method_34_code_0 3 rfl rfl rfl)
theorem d_Ip_cheapest_4 : decode prog_1_method_34_code 4 = .ok (.invokevirtual 83, 3) := zo_182 (d := 0) (e := 83) (zd_b zq_prog_1_method_34_code_0 4 rfl rfl rfl) (zd_b zq_prog_1_method_34_code_0 5 rfl rfl rfl) (zd_b zq_prog_1_method_34_code_0 6 rfl rfl rfl)
theorem ok_Ip_cheapest_String_indexOf_0 : z_ok M_Ip_cheapest M_String_indexOf_0 1 := ⟨z_mj3 (i := 58) rfl (by decide +kernel), rfl, ⟨by decide +kernel, by decide +kernel, by decide +kernel⟩, ⟨by decide, by decide⟩, z_mj1 (i := 15) rfl (by decide +kernel), rfl⟩
theorem d_Ip_cheapest_7 : decode prog_1_method_34_code 7 = .ok (.ifCond .ge 14, 3) := zo_156 (d := 0) (e := 14) (zd_b zq_prog_1_method_34_code_0 7 rfl rfl rfl) (zd_b zq_prog_1_method_34_code_0 8 rfl rfl rfl) (zd_b zq_prog_1_method_34_code_0 9 rfl rfl rfl) (by decide +kernel)
theorem d_Ip_cheapest_10 : decode prog_1_method_34_code 10 = .ok (.new 89, 3) := zo_187 (d := 0) (e := 89) (zd_b zq_prog_1_method_34_code_0 10 rfl rfl rfl) (zd_b zq_prog_1_method_34_code_0 11 rfl rfl rfl) (zd_b zq_prog_1_method_34_code_0 12 rfl rfl rfl)
theorem sr_Ip_382 : Cond.stringRef "Ironpour" 382 "no such kind" ∈ lw_tbl := z_tb5 (i := 206) rfl
theorem d_Ip_cheapest_13 : decode prog_1_method_34_code 13 = .ok (.dup, 1) := zo_89 (zd_b zq_prog_1_method_34_code_0 13 rfl rfl rfl)
theorem d_Ip_cheapest_14 : decode prog_1_method_34_code 14 = .ok (.ldc_w 382, 3) := zo_19 (d := 1) (e := 126) (zd_b zq_prog_1_method_34_code_0 14 rfl rfl rfl) (zd_b zq_prog_1_method_34_code_0 15 rfl rfl rfl) (zd_b zq_prog_1_method_34_code_0 16 rfl rfl rfl)
theorem d_Ip_cheapest_17 : decode prog_1_method_34_code 17 = .ok (.invokespecial 93, 3) := zo_183 (d := 0) (e := 93) (zd_b zq_prog_1_method_34_code_0 17 rfl rfl rfl) (zd_b zq_prog_1_method_34_code_0 18 rfl rfl rfl) (zd_b zq_prog_1_method_34_code_0 19 rfl rfl rfl)
theorem d_Ip_cheapest_20 : decode prog_1_method_34_code 20 = .ok (.athrow, 1) := zo_191 (zd_b zq_prog_1_method_34_code_0 20 rfl rfl rfl)
set_option maxHeartbeats 4000000 in
set_option maxRecDepth 100000 in
theorem C_Ip_cheapestE (g : zG) (a pa ta sa gs co fu la gy du re wm ac : Nat) (p0 a0 f0 : Int32) (w : Int32) (hw : z_ix 4 w < 0) : CT g M_Ip_cheapest [.ref a, .int w] [(a, .inr (11, [.ref pa, .ref ta, .ref sa, .ref gs, .ref co, .ref fu, .ref la, .ref gy, .ref du, .ref re, .ref wm, .ref ac])), (re, .inr (9, [.int p0, .int a0, .int f0]))] (fun o cs1 => o = .inr "java/lang/IllegalArgumentException" ∧ cs1 = [(a, .inr (11, [.ref pa, .ref ta, .ref sa, .ref gs, .ref co, .ref fu, .ref la, .ref gy, .ref du, .ref re, .ref wm, .ref ac])), (re, .inr (9, [.int p0, .int a0, .int f0]))]) 1 6 := by
  refine z_of (by decide) rfl (Nat.le_of_ble_eq_true rfl) (fun w0 => ?_)
  refine r_lvE (lv2 := [(0, .ref a), (1, .int w)]) rfl ?_
  refine r_ldcWS (own := "Ironpour") (i := 4) (by decide) d_Ip_cheapest_0 ?_
  refine r_iload_n d_Ip_cheapest_3 rfl 1 rfl ?_
  refine r_callVS (As := [.int w]) (rest := []) (csC := []) (is := []) (i := 4) (by first | assumption | decide) rfl ln_Ip_83 w_im_String_indexOf_0 w_se_String_indexOf_0 ok_Ip_cheapest_String_indexOf_0 d_Ip_cheapest_4 (C_St_indexOf g 4 (by decide) w) rfl rfl (Nat.le_of_ble_eq_true rfl) rfl (by decide) (by omega) (by omega) (fun E cs1 hx => ?_) (fun v cs1 hx => ?_)
  · exact absurd hx.1 (by simp)
  · obtain ⟨e1, rfl⟩ := hx
    cases e1
    refine ⟨rfl, ?_⟩
    refine r_st (st2 := [.int (z_ix 4 w)]) rfl ?_
    refine r_cs (cs2 := [(a, .inr (11, [.ref pa, .ref ta, .ref sa, .ref gs, .ref co, .ref fu, .ref la, .ref gy, .ref du, .ref re, .ref wm, .ref ac])), (re, .inr (9, [.int p0, .int a0, .int f0]))]) rfl ?_
    refine r_if_ge (tgt := 21) d_Ip_cheapest_7 (by decide) (fun c_7 => ?_) (fun c_7 => ?_)
    · exact absurd hw (Int32.not_lt.mpr c_7)
    · refine r_throwW tb_Ip_89_93 sr_Ip_382 d_Ip_cheapest_10 d_Ip_cheapest_13 d_Ip_cheapest_14 d_Ip_cheapest_17 d_Ip_cheapest_20 rfl (by decide) (by decide) (Nat.le_of_ble_eq_true rfl) (by omega) (by omega) ?_
      exact ⟨rfl, rfl⟩
theorem d_Ip_cheapest_21 : decode prog_1_method_34_code 21 = .ok (.aload_n 0, 1) := zo_42 (zd_b zq_prog_1_method_34_code_0 21 rfl rfl rfl)
theorem d_Ip_cheapest_22 : decode prog_1_method_34_code 22 = .ok (.getfield 67, 3) := zo_180 (d := 0) (e := 67) (zd_b zq_prog_1_method_34_code_0 22 rfl rfl rfl) (zd_b zq_prog_1_method_34_code_0 23 rfl rfl rfl) (zd_b zq_prog_1_method_34_code_0 24 rfl rfl rfl)
theorem fs_Ip_67 : z_fs "Ironpour" 67 11 9 := ⟨R_Ip, "Ironpour", F_Ip, 12, rfl, u_Ip, by decide, Or.inl ⟨z_mj2 (i := 72) rfl (by decide +kernel), Or.inl rfl⟩⟩
theorem d_Ip_cheapest_25 : decode prog_1_method_34_code 25 = .ok (.getfield 384, 3) := zo_180 (d := 1) (e := 128) (zd_b zq_prog_1_method_34_code_0 25 rfl rfl rfl) (zd_b zq_prog_1_method_34_code_0 26 rfl rfl rfl) (zd_b zq_prog_1_method_34_code_0 27 rfl rfl rfl)
theorem fs_Ip_384 : z_fs "Ironpour" 384 9 2 := ⟨R_Re, "Ironpour$Recipe", F_Re, 3, rfl, u_Re, by decide, Or.inr ⟨"Ironpour", z_mk2 (i := 29) rfl (by decide +kernel), rfl⟩⟩
theorem d_Ip_cheapest_28 : decode prog_1_method_34_code 28 = .ok (.ifCond .ne 14, 3) := zo_154 (d := 0) (e := 14) (zd_b zq_prog_1_method_34_code_0 28 rfl rfl rfl) (zd_b zq_prog_1_method_34_code_0 29 rfl rfl rfl) (zd_b zq_prog_1_method_34_code_0 30 rfl rfl rfl) (by decide +kernel)
theorem d_Ip_cheapest_31 : decode prog_1_method_34_code 31 = .ok (.new 242, 3) := zo_187 (d := 0) (e := 242) (zd_b zq_prog_1_method_34_code_0 31 rfl rfl rfl) (zd_b zq_prog_1_method_34_code_1 0 rfl rfl rfl) (zd_b zq_prog_1_method_34_code_1 1 rfl rfl rfl)
theorem sr_Ip_387 : Cond.stringRef "Ironpour" 387 "none was found yet" ∈ lw_tbl := z_tb5 (i := 207) rfl
theorem d_Ip_cheapest_34 : decode prog_1_method_34_code 34 = .ok (.dup, 1) := zo_89 (zd_b zq_prog_1_method_34_code_1 2 rfl rfl rfl)
theorem d_Ip_cheapest_35 : decode prog_1_method_34_code 35 = .ok (.ldc_w 387, 3) := zo_19 (d := 1) (e := 131) (zd_b zq_prog_1_method_34_code_1 3 rfl rfl rfl) (zd_b zq_prog_1_method_34_code_1 4 rfl rfl rfl) (zd_b zq_prog_1_method_34_code_1 5 rfl rfl rfl)
theorem d_Ip_cheapest_38 : decode prog_1_method_34_code 38 = .ok (.invokespecial 246, 3) := zo_183 (d := 0) (e := 246) (zd_b zq_prog_1_method_34_code_1 6 rfl rfl rfl) (zd_b zq_prog_1_method_34_code_1 7 rfl rfl rfl) (zd_b zq_prog_1_method_34_code_1 8 rfl rfl rfl)
theorem d_Ip_cheapest_41 : decode prog_1_method_34_code 41 = .ok (.athrow, 1) := zo_191 (zd_b zq_prog_1_method_34_code_1 9 rfl rfl rfl)
set_option maxHeartbeats 4000000 in
set_option maxRecDepth 100000 in
theorem C_Ip_cheapestF (g : zG) (a pa ta sa gs co fu la gy du re wm ac : Nat) (p0 a0 f0 : Int32) (w : Int32) (hw : ¬ z_ix 4 w < 0) (hf : f0 = 0) : CT g M_Ip_cheapest [.ref a, .int w] [(a, .inr (11, [.ref pa, .ref ta, .ref sa, .ref gs, .ref co, .ref fu, .ref la, .ref gy, .ref du, .ref re, .ref wm, .ref ac])), (re, .inr (9, [.int p0, .int a0, .int f0]))] (fun o cs1 => o = .inr "java/lang/IllegalStateException" ∧ cs1 = [(a, .inr (11, [.ref pa, .ref ta, .ref sa, .ref gs, .ref co, .ref fu, .ref la, .ref gy, .ref du, .ref re, .ref wm, .ref ac])), (re, .inr (9, [.int p0, .int a0, .int f0]))]) 1 6 := by
  refine z_of (by decide) rfl (Nat.le_of_ble_eq_true rfl) (fun w0 => ?_)
  refine r_lvE (lv2 := [(0, .ref a), (1, .int w)]) rfl ?_
  refine r_ldcWS (own := "Ironpour") (i := 4) (by decide) d_Ip_cheapest_0 ?_
  refine r_iload_n d_Ip_cheapest_3 rfl 1 rfl ?_
  refine r_callVS (As := [.int w]) (rest := []) (csC := []) (is := []) (i := 4) (by first | assumption | decide) rfl ln_Ip_83 w_im_String_indexOf_0 w_se_String_indexOf_0 ok_Ip_cheapest_String_indexOf_0 d_Ip_cheapest_4 (C_St_indexOf g 4 (by decide) w) rfl rfl (Nat.le_of_ble_eq_true rfl) rfl (by decide) (by omega) (by omega) (fun E cs1 hx => ?_) (fun v cs1 hx => ?_)
  · exact absurd hx.1 (by simp)
  · obtain ⟨e1, rfl⟩ := hx
    cases e1
    refine ⟨rfl, ?_⟩
    refine r_st (st2 := [.int (z_ix 4 w)]) rfl ?_
    refine r_cs (cs2 := [(a, .inr (11, [.ref pa, .ref ta, .ref sa, .ref gs, .ref co, .ref fu, .ref la, .ref gy, .ref du, .ref re, .ref wm, .ref ac])), (re, .inr (9, [.int p0, .int a0, .int f0]))]) rfl ?_
    refine r_if_ge (tgt := 21) d_Ip_cheapest_7 (by decide) (fun c_7 => ?_) (fun c_7 => ?_)
    · refine r_aload_n d_Ip_cheapest_21 rfl 0 rfl ?_
      refine r_get fs_Ip_67 d_Ip_cheapest_22 (q0 := 0) rfl rfl ?_
      refine r_get fs_Ip_384 d_Ip_cheapest_25 (q0 := 1) rfl rfl ?_
      refine r_if_ne (tgt := 42) d_Ip_cheapest_28 (by decide) (fun c_28 => ?_) (fun c_28 => ?_)
      · exact absurd hf c_28
      · refine r_throwW tb_Ip_242_246 sr_Ip_387 d_Ip_cheapest_31 d_Ip_cheapest_34 d_Ip_cheapest_35 d_Ip_cheapest_38 d_Ip_cheapest_41 rfl (by decide) (by decide) (Nat.le_of_ble_eq_true rfl) (by omega) (by omega) ?_
        exact ⟨rfl, rfl⟩
    · exact absurd (Int32.not_le.mp c_7) hw
theorem d_Ip_cheapest_42 : decode prog_1_method_34_code 42 = .ok (.iload_n 1, 1) := zo_27 (zd_b zq_prog_1_method_34_code_1 10 rfl rfl rfl)
theorem d_Ip_cheapest_43 : decode prog_1_method_34_code 43 = .ok (.lookupswitch 41 #[(112, 25), (115, 33)], 25) := by decide +kernel
theorem d_Ip_cheapest_68 : decode prog_1_method_34_code 68 = .ok (.aload_n 0, 1) := zo_42 (zd_b zq_prog_1_method_34_code_2 4 rfl rfl rfl)
theorem d_Ip_cheapest_69 : decode prog_1_method_34_code 69 = .ok (.getfield 67, 3) := zo_180 (d := 0) (e := 67) (zd_b zq_prog_1_method_34_code_2 5 rfl rfl rfl) (zd_b zq_prog_1_method_34_code_2 6 rfl rfl rfl) (zd_b zq_prog_1_method_34_code_2 7 rfl rfl rfl)
theorem d_Ip_cheapest_72 : decode prog_1_method_34_code 72 = .ok (.getfield 389, 3) := zo_180 (d := 1) (e := 133) (zd_b zq_prog_1_method_34_code_2 8 rfl rfl rfl) (zd_b zq_prog_1_method_34_code_2 9 rfl rfl rfl) (zd_b zq_prog_1_method_34_code_2 10 rfl rfl rfl)
theorem fs_Ip_389 : z_fs "Ironpour" 389 9 0 := ⟨R_Re, "Ironpour$Recipe", F_Re, 3, rfl, u_Re, by decide, Or.inr ⟨"Ironpour", z_mk2 (i := 25) rfl (by decide +kernel), rfl⟩⟩
theorem d_Ip_cheapest_75 : decode prog_1_method_34_code 75 = .ok (.ireturn, 1) := zo_172 (zd_b zq_prog_1_method_34_code_2 11 rfl rfl rfl)
set_option maxHeartbeats 4000000 in
set_option maxRecDepth 100000 in
theorem C_Ip_cheapest112 (g : zG) (a pa ta sa gs co fu la gy du re wm ac : Nat) (p0 a0 f0 : Int32) (hf : ¬ f0 = 0) : CT g M_Ip_cheapest [.ref a, .int 112] [(a, .inr (11, [.ref pa, .ref ta, .ref sa, .ref gs, .ref co, .ref fu, .ref la, .ref gy, .ref du, .ref re, .ref wm, .ref ac])), (re, .inr (9, [.int p0, .int a0, .int f0]))] (fun o cs1 => o = .inl (some (.int p0)) ∧ cs1 = [(a, .inr (11, [.ref pa, .ref ta, .ref sa, .ref gs, .ref co, .ref fu, .ref la, .ref gy, .ref du, .ref re, .ref wm, .ref ac])), (re, .inr (9, [.int p0, .int a0, .int f0]))]) 1 6 := by
  refine z_of (by decide) rfl (Nat.le_of_ble_eq_true rfl) (fun w0 => ?_)
  refine r_lvE (lv2 := [(0, .ref a), (1, .int 112)]) rfl ?_
  refine r_ldcWS (own := "Ironpour") (i := 4) (by decide) d_Ip_cheapest_0 ?_
  refine r_iload_n d_Ip_cheapest_3 rfl 1 rfl ?_
  refine r_callVS (As := [.int 112]) (rest := []) (csC := []) (is := []) (i := 4) (by first | assumption | decide) rfl ln_Ip_83 w_im_String_indexOf_0 w_se_String_indexOf_0 ok_Ip_cheapest_String_indexOf_0 d_Ip_cheapest_4 (C_St_indexOf g 4 (by decide) 112) rfl rfl (Nat.le_of_ble_eq_true rfl) rfl (by decide) (by omega) (by omega) (fun E cs1 hx => ?_) (fun v cs1 hx => ?_)
  · exact absurd hx.1 (by simp)
  · obtain ⟨e1, rfl⟩ := hx
    cases e1
    refine ⟨rfl, ?_⟩
    refine r_st (st2 := [.int (z_ix 4 112)]) rfl ?_
    refine r_cs (cs2 := [(a, .inr (11, [.ref pa, .ref ta, .ref sa, .ref gs, .ref co, .ref fu, .ref la, .ref gy, .ref du, .ref re, .ref wm, .ref ac])), (re, .inr (9, [.int p0, .int a0, .int f0]))]) rfl ?_
    refine r_if_ge (tgt := 21) d_Ip_cheapest_7 (by decide) (fun c_7 => ?_) (fun c_7 => ?_)
    · refine r_aload_n d_Ip_cheapest_21 rfl 0 rfl ?_
      refine r_get fs_Ip_67 d_Ip_cheapest_22 (q0 := 0) rfl rfl ?_
      refine r_get fs_Ip_384 d_Ip_cheapest_25 (q0 := 1) rfl rfl ?_
      refine r_if_ne (tgt := 42) d_Ip_cheapest_28 (by decide) (fun c_28 => ?_) (fun c_28 => ?_)
      · refine r_iload_n d_Ip_cheapest_42 rfl 1 rfl ?_
        · refine r_lookup (off := 25) (tgt := 68) d_Ip_cheapest_43 (by decide) (by decide) (by decide) ?_
          refine r_aload_n d_Ip_cheapest_68 rfl 0 rfl ?_
          refine r_get fs_Ip_67 d_Ip_cheapest_69 (q0 := 0) rfl rfl ?_
          refine r_get fs_Ip_389 d_Ip_cheapest_72 (q0 := 1) rfl rfl ?_
          refine r_iret d_Ip_cheapest_75 rfl rfl ?_
          exact ⟨rfl, rfl⟩
      · exact absurd c_28 hf
    · exact absurd c_7 (by decide)
theorem d_Ip_cheapest_76 : decode prog_1_method_34_code 76 = .ok (.aload_n 0, 1) := zo_42 (zd_b zq_prog_1_method_34_code_2 12 rfl rfl rfl)
theorem d_Ip_cheapest_77 : decode prog_1_method_34_code 77 = .ok (.getfield 67, 3) := zo_180 (d := 0) (e := 67) (zd_b zq_prog_1_method_34_code_2 13 rfl rfl rfl) (zd_b zq_prog_1_method_34_code_2 14 rfl rfl rfl) (zd_b zq_prog_1_method_34_code_2 15 rfl rfl rfl)
theorem d_Ip_cheapest_80 : decode prog_1_method_34_code 80 = .ok (.invokevirtual 392, 3) := zo_182 (d := 1) (e := 136) (zd_b zq_prog_1_method_34_code_2 16 rfl rfl rfl) (zd_b zq_prog_1_method_34_code_2 17 rfl rfl rfl) (zd_b zq_prog_1_method_34_code_2 18 rfl rfl rfl)
theorem ok_Ip_cheapest_Re_scrapParts : z_ok M_Ip_cheapest M_Re_scrapParts 0 := ⟨z_mj5 (i := 211) rfl (by decide +kernel), rfl, ⟨by decide +kernel, by decide +kernel, by decide +kernel⟩, ⟨by decide, by decide⟩, z_mj1 (i := 10) rfl (by decide +kernel), rfl⟩
theorem ln_Ip_392 : Cond.methodLink "Ironpour" 392 M_Re_scrapParts.1 ∈ z_gw := z_mj5 (i := 208) rfl (by decide +kernel)
theorem w_im_Re_scrapParts : Cond.instanceMethod M_Re_scrapParts.1 ∈ z_gw := z_mj5 (i := 209) rfl (by decide +kernel)
theorem w_se_Re_scrapParts : Cond.selects M_Re_scrapParts.1.cls M_Re_scrapParts.1 M_Re_scrapParts.1 ∈ z_gw := z_mj5 (i := 210) rfl (by decide +kernel)
theorem d_Ip_cheapest_83 : decode prog_1_method_34_code 83 = .ok (.ireturn, 1) := zo_172 (zd_b zq_prog_1_method_34_code_2 19 rfl rfl rfl)
set_option maxHeartbeats 4000000 in
set_option maxRecDepth 100000 in
theorem C_Ip_cheapest115 (g : zG) (a pa ta sa gs co fu la gy du re wm ac : Nat) (p0 a0 f0 : Int32) (hf : ¬ f0 = 0) : CT g M_Ip_cheapest [.ref a, .int 115] [(a, .inr (11, [.ref pa, .ref ta, .ref sa, .ref gs, .ref co, .ref fu, .ref la, .ref gy, .ref du, .ref re, .ref wm, .ref ac])), (re, .inr (9, [.int p0, .int a0, .int f0]))] (fun o cs1 => o = .inl (some (.int (S_Re_scrapParts re p0 a0 f0))) ∧ cs1 = [(a, .inr (11, [.ref pa, .ref ta, .ref sa, .ref gs, .ref co, .ref fu, .ref la, .ref gy, .ref du, .ref re, .ref wm, .ref ac])), (re, .inr (9, [.int p0, .int a0, .int f0]))]) 1 6 := by
  refine z_of (by decide) rfl (Nat.le_of_ble_eq_true rfl) (fun w0 => ?_)
  refine r_lvE (lv2 := [(0, .ref a), (1, .int 115)]) rfl ?_
  refine r_ldcWS (own := "Ironpour") (i := 4) (by decide) d_Ip_cheapest_0 ?_
  refine r_iload_n d_Ip_cheapest_3 rfl 1 rfl ?_
  refine r_callVS (As := [.int 115]) (rest := []) (csC := []) (is := []) (i := 4) (by first | assumption | decide) rfl ln_Ip_83 w_im_String_indexOf_0 w_se_String_indexOf_0 ok_Ip_cheapest_String_indexOf_0 d_Ip_cheapest_4 (C_St_indexOf g 4 (by decide) 115) rfl rfl (Nat.le_of_ble_eq_true rfl) rfl (by decide) (by omega) (by omega) (fun E cs1 hx => ?_) (fun v cs1 hx => ?_)
  · exact absurd hx.1 (by simp)
  · obtain ⟨e1, rfl⟩ := hx
    cases e1
    refine ⟨rfl, ?_⟩
    refine r_st (st2 := [.int (z_ix 4 115)]) rfl ?_
    refine r_cs (cs2 := [(a, .inr (11, [.ref pa, .ref ta, .ref sa, .ref gs, .ref co, .ref fu, .ref la, .ref gy, .ref du, .ref re, .ref wm, .ref ac])), (re, .inr (9, [.int p0, .int a0, .int f0]))]) rfl ?_
    refine r_if_ge (tgt := 21) d_Ip_cheapest_7 (by decide) (fun c_7 => ?_) (fun c_7 => ?_)
    · refine r_aload_n d_Ip_cheapest_21 rfl 0 rfl ?_
      refine r_get fs_Ip_67 d_Ip_cheapest_22 (q0 := 0) rfl rfl ?_
      refine r_get fs_Ip_384 d_Ip_cheapest_25 (q0 := 1) rfl rfl ?_
      refine r_if_ne (tgt := 42) d_Ip_cheapest_28 (by decide) (fun c_28 => ?_) (fun c_28 => ?_)
      · refine r_iload_n d_Ip_cheapest_42 rfl 1 rfl ?_
        · refine r_lookup (off := 33) (tgt := 76) d_Ip_cheapest_43 (by decide) (by decide) (by decide) ?_
          refine r_aload_n d_Ip_cheapest_76 rfl 0 rfl ?_
          refine r_get fs_Ip_67 d_Ip_cheapest_77 (q0 := 0) rfl rfl ?_
          refine r_callV (As := []) (rest := []) (csC := [(re, .inr (9, [.int p0, .int a0, .int f0]))]) (is := [1]) (q0 := 1) rfl rfl ln_Ip_392 w_im_Re_scrapParts w_se_Re_scrapParts ok_Ip_cheapest_Re_scrapParts d_Ip_cheapest_80 (C_Re_scrapParts g re p0 a0 f0) rfl rfl (Nat.le_of_ble_eq_true rfl) rfl (by decide) (by omega) (by omega) (fun E cs1 hx => ?_) (fun v cs1 hx => ?_)
          · exact absurd hx.1 (by simp)
          · obtain ⟨e1, rfl⟩ := hx
            cases e1
            refine ⟨rfl, ?_⟩
            refine r_st (st2 := [.int (S_Re_scrapParts re p0 a0 f0)]) rfl ?_
            refine r_cs (cs2 := [(a, .inr (11, [.ref pa, .ref ta, .ref sa, .ref gs, .ref co, .ref fu, .ref la, .ref gy, .ref du, .ref re, .ref wm, .ref ac])), (re, .inr (9, [.int p0, .int a0, .int f0]))]) rfl ?_
            refine r_iret d_Ip_cheapest_83 rfl rfl ?_
            exact ⟨rfl, rfl⟩
      · exact absurd c_28 hf
    · exact absurd c_7 (by decide)
theorem d_Ip_cheapest_84 : decode prog_1_method_34_code 84 = .ok (.aload_n 0, 1) := zo_42 (zd_b zq_prog_1_method_34_code_2 20 rfl rfl rfl)
theorem d_Ip_cheapest_85 : decode prog_1_method_34_code 85 = .ok (.getfield 67, 3) := zo_180 (d := 0) (e := 67) (zd_b zq_prog_1_method_34_code_2 21 rfl rfl rfl) (zd_b zq_prog_1_method_34_code_2 22 rfl rfl rfl) (zd_b zq_prog_1_method_34_code_2 23 rfl rfl rfl)
theorem d_Ip_cheapest_88 : decode prog_1_method_34_code 88 = .ok (.getfield 395, 3) := zo_180 (d := 1) (e := 139) (zd_b zq_prog_1_method_34_code_2 24 rfl rfl rfl) (zd_b zq_prog_1_method_34_code_2 25 rfl rfl rfl) (zd_b zq_prog_1_method_34_code_2 26 rfl rfl rfl)
theorem fs_Ip_395 : z_fs "Ironpour" 395 9 1 := ⟨R_Re, "Ironpour$Recipe", F_Re, 3, rfl, u_Re, by decide, Or.inr ⟨"Ironpour", z_mk2 (i := 27) rfl (by decide +kernel), rfl⟩⟩
theorem d_Ip_cheapest_91 : decode prog_1_method_34_code 91 = .ok (.ireturn, 1) := zo_172 (zd_b zq_prog_1_method_34_code_2 27 rfl rfl rfl)
set_option maxHeartbeats 4000000 in
set_option maxRecDepth 100000 in
theorem C_Ip_cheapest102 (g : zG) (a pa ta sa gs co fu la gy du re wm ac : Nat) (p0 a0 f0 : Int32) (hf : ¬ f0 = 0) : CT g M_Ip_cheapest [.ref a, .int 102] [(a, .inr (11, [.ref pa, .ref ta, .ref sa, .ref gs, .ref co, .ref fu, .ref la, .ref gy, .ref du, .ref re, .ref wm, .ref ac])), (re, .inr (9, [.int p0, .int a0, .int f0]))] (fun o cs1 => o = .inl (some (.int a0)) ∧ cs1 = [(a, .inr (11, [.ref pa, .ref ta, .ref sa, .ref gs, .ref co, .ref fu, .ref la, .ref gy, .ref du, .ref re, .ref wm, .ref ac])), (re, .inr (9, [.int p0, .int a0, .int f0]))]) 1 6 := by
  refine z_of (by decide) rfl (Nat.le_of_ble_eq_true rfl) (fun w0 => ?_)
  refine r_lvE (lv2 := [(0, .ref a), (1, .int 102)]) rfl ?_
  refine r_ldcWS (own := "Ironpour") (i := 4) (by decide) d_Ip_cheapest_0 ?_
  refine r_iload_n d_Ip_cheapest_3 rfl 1 rfl ?_
  refine r_callVS (As := [.int 102]) (rest := []) (csC := []) (is := []) (i := 4) (by first | assumption | decide) rfl ln_Ip_83 w_im_String_indexOf_0 w_se_String_indexOf_0 ok_Ip_cheapest_String_indexOf_0 d_Ip_cheapest_4 (C_St_indexOf g 4 (by decide) 102) rfl rfl (Nat.le_of_ble_eq_true rfl) rfl (by decide) (by omega) (by omega) (fun E cs1 hx => ?_) (fun v cs1 hx => ?_)
  · exact absurd hx.1 (by simp)
  · obtain ⟨e1, rfl⟩ := hx
    cases e1
    refine ⟨rfl, ?_⟩
    refine r_st (st2 := [.int (z_ix 4 102)]) rfl ?_
    refine r_cs (cs2 := [(a, .inr (11, [.ref pa, .ref ta, .ref sa, .ref gs, .ref co, .ref fu, .ref la, .ref gy, .ref du, .ref re, .ref wm, .ref ac])), (re, .inr (9, [.int p0, .int a0, .int f0]))]) rfl ?_
    refine r_if_ge (tgt := 21) d_Ip_cheapest_7 (by decide) (fun c_7 => ?_) (fun c_7 => ?_)
    · refine r_aload_n d_Ip_cheapest_21 rfl 0 rfl ?_
      refine r_get fs_Ip_67 d_Ip_cheapest_22 (q0 := 0) rfl rfl ?_
      refine r_get fs_Ip_384 d_Ip_cheapest_25 (q0 := 1) rfl rfl ?_
      refine r_if_ne (tgt := 42) d_Ip_cheapest_28 (by decide) (fun c_28 => ?_) (fun c_28 => ?_)
      · refine r_iload_n d_Ip_cheapest_42 rfl 1 rfl ?_
        · refine r_lookup (off := 41) (tgt := 84) d_Ip_cheapest_43 (by decide) (by decide) (by decide) ?_
          refine r_aload_n d_Ip_cheapest_84 rfl 0 rfl ?_
          refine r_get fs_Ip_67 d_Ip_cheapest_85 (q0 := 0) rfl rfl ?_
          refine r_get fs_Ip_395 d_Ip_cheapest_88 (q0 := 1) rfl rfl ?_
          refine r_iret d_Ip_cheapest_91 rfl rfl ?_
          exact ⟨rfl, rfl⟩
      · exact absurd c_28 hf
    · exact absurd c_7 (by decide)
abbrev M_Ip_leastCost : zM := (⟨"Ironpour", "leastCost", "(IIIIII)I"⟩, prog_1_method_33_code, 8, (Option.some FieldType.int), 6, 100, [])
theorem d_Ip_leastCost_0 : decode prog_1_method_33_code 0 = .ok (.iload_n 1, 1) := zo_27 (zd_b zq_prog_1_method_33_code_0 0 rfl rfl rfl)
theorem d_Ip_leastCost_1 : decode prog_1_method_33_code 1 = .ok (.iconst 0, 1) := zo_3 (zd_b zq_prog_1_method_33_code_0 1 rfl rfl rfl)
theorem d_Ip_leastCost_2 : decode prog_1_method_33_code 2 = .ok (.sipush 450, 3) := zo_17 (d := 1) (e := 194) (zd_b zq_prog_1_method_33_code_0 2 rfl rfl rfl) (zd_b zq_prog_1_method_33_code_0 3 rfl rfl rfl) (zd_b zq_prog_1_method_33_code_0 4 rfl rfl rfl) (by decide +kernel)
theorem d_Ip_leastCost_5 : decode prog_1_method_33_code 5 = .ok (.invokestatic 203, 3) := zo_184 (d := 0) (e := 203) (zd_b zq_prog_1_method_33_code_0 5 rfl rfl rfl) (zd_b zq_prog_1_method_33_code_0 6 rfl rfl rfl) (zd_b zq_prog_1_method_33_code_0 7 rfl rfl rfl)
theorem ok_Ip_leastCost_Ip_isWithin : z_ok M_Ip_leastCost M_Ip_isWithin 3 := ⟨z_mj4 (i := 97) rfl (by decide +kernel), rfl, ⟨by decide +kernel, by decide +kernel, by decide +kernel⟩, ⟨by decide, by decide⟩, z_mj1 (i := 1) rfl (by decide +kernel), rfl⟩
theorem d_Ip_leastCost_8 : decode prog_1_method_33_code 8 = .ok (.ifCond .eq 25, 3) := zo_153 (d := 0) (e := 25) (zd_b zq_prog_1_method_33_code_0 8 rfl rfl rfl) (zd_b zq_prog_1_method_33_code_0 9 rfl rfl rfl) (zd_b zq_prog_1_method_33_code_0 10 rfl rfl rfl) (by decide +kernel)
theorem d_Ip_leastCost_33 : decode prog_1_method_33_code 33 = .ok (.new 89, 3) := zo_187 (d := 0) (e := 89) (zd_b zq_prog_1_method_33_code_1 1 rfl rfl rfl) (zd_b zq_prog_1_method_33_code_1 2 rfl rfl rfl) (zd_b zq_prog_1_method_33_code_1 3 rfl rfl rfl)
theorem sr_Ip_370 : Cond.stringRef "Ironpour" 370 "contents are 0 to 450, the most not below the least" ∈ lw_tbl := z_tb5 (i := 185) rfl
theorem d_Ip_leastCost_36 : decode prog_1_method_33_code 36 = .ok (.dup, 1) := zo_89 (zd_b zq_prog_1_method_33_code_1 4 rfl rfl rfl)
theorem d_Ip_leastCost_37 : decode prog_1_method_33_code 37 = .ok (.ldc_w 370, 3) := zo_19 (d := 1) (e := 114) (zd_b zq_prog_1_method_33_code_1 5 rfl rfl rfl) (zd_b zq_prog_1_method_33_code_1 6 rfl rfl rfl) (zd_b zq_prog_1_method_33_code_1 7 rfl rfl rfl)
theorem d_Ip_leastCost_40 : decode prog_1_method_33_code 40 = .ok (.invokespecial 93, 3) := zo_183 (d := 0) (e := 93) (zd_b zq_prog_1_method_33_code_1 8 rfl rfl rfl) (zd_b zq_prog_1_method_33_code_1 9 rfl rfl rfl) (zd_b zq_prog_1_method_33_code_1 10 rfl rfl rfl)
theorem d_Ip_leastCost_43 : decode prog_1_method_33_code 43 = .ok (.athrow, 1) := zo_191 (zd_b zq_prog_1_method_33_code_1 11 rfl rfl rfl)
theorem d_Ip_leastCost_11 : decode prog_1_method_33_code 11 = .ok (.iload_n 2, 1) := zo_28 (zd_b zq_prog_1_method_33_code_0 11 rfl rfl rfl)
theorem d_Ip_leastCost_12 : decode prog_1_method_33_code 12 = .ok (.iload_n 1, 1) := zo_27 (zd_b zq_prog_1_method_33_code_0 12 rfl rfl rfl)
theorem d_Ip_leastCost_13 : decode prog_1_method_33_code 13 = .ok (.sipush 450, 3) := zo_17 (d := 1) (e := 194) (zd_b zq_prog_1_method_33_code_0 13 rfl rfl rfl) (zd_b zq_prog_1_method_33_code_0 14 rfl rfl rfl) (zd_b zq_prog_1_method_33_code_0 15 rfl rfl rfl) (by decide +kernel)
theorem d_Ip_leastCost_16 : decode prog_1_method_33_code 16 = .ok (.invokestatic 203, 3) := zo_184 (d := 0) (e := 203) (zd_b zq_prog_1_method_33_code_0 16 rfl rfl rfl) (zd_b zq_prog_1_method_33_code_0 17 rfl rfl rfl) (zd_b zq_prog_1_method_33_code_0 18 rfl rfl rfl)
theorem d_Ip_leastCost_19 : decode prog_1_method_33_code 19 = .ok (.ifCond .eq 14, 3) := zo_153 (d := 0) (e := 14) (zd_b zq_prog_1_method_33_code_0 19 rfl rfl rfl) (zd_b zq_prog_1_method_33_code_0 20 rfl rfl rfl) (zd_b zq_prog_1_method_33_code_0 21 rfl rfl rfl) (by decide +kernel)
theorem d_Ip_leastCost_22 : decode prog_1_method_33_code 22 = .ok (.iload_n 3, 1) := zo_29 (zd_b zq_prog_1_method_33_code_0 22 rfl rfl rfl)
theorem d_Ip_leastCost_23 : decode prog_1_method_33_code 23 = .ok (.iconst 0, 1) := zo_3 (zd_b zq_prog_1_method_33_code_0 23 rfl rfl rfl)
theorem d_Ip_leastCost_24 : decode prog_1_method_33_code 24 = .ok (.sipush 450, 3) := zo_17 (d := 1) (e := 194) (zd_b zq_prog_1_method_33_code_0 24 rfl rfl rfl) (zd_b zq_prog_1_method_33_code_0 25 rfl rfl rfl) (zd_b zq_prog_1_method_33_code_0 26 rfl rfl rfl) (by decide +kernel)
theorem d_Ip_leastCost_27 : decode prog_1_method_33_code 27 = .ok (.invokestatic 203, 3) := zo_184 (d := 0) (e := 203) (zd_b zq_prog_1_method_33_code_0 27 rfl rfl rfl) (zd_b zq_prog_1_method_33_code_0 28 rfl rfl rfl) (zd_b zq_prog_1_method_33_code_0 29 rfl rfl rfl)
theorem d_Ip_leastCost_30 : decode prog_1_method_33_code 30 = .ok (.ifCond .ne 14, 3) := zo_154 (d := 0) (e := 14) (zd_b zq_prog_1_method_33_code_0 30 rfl rfl rfl) (zd_b zq_prog_1_method_33_code_0 31 rfl rfl rfl) (zd_b zq_prog_1_method_33_code_1 0 rfl rfl rfl) (by decide +kernel)
theorem d_Ip_leastCost_44 : decode prog_1_method_33_code 44 = .ok (.iload 4, 2) := zo_21 (d := 4) (zd_b zq_prog_1_method_33_code_1 12 rfl rfl rfl) (zd_b zq_prog_1_method_33_code_1 13 rfl rfl rfl)
theorem d_Ip_leastCost_46 : decode prog_1_method_33_code 46 = .ok (.iconst 1, 1) := zo_4 (zd_b zq_prog_1_method_33_code_1 14 rfl rfl rfl)
theorem d_Ip_leastCost_47 : decode prog_1_method_33_code 47 = .ok (.sipush 1000, 3) := zo_17 (d := 3) (e := 232) (zd_b zq_prog_1_method_33_code_1 15 rfl rfl rfl) (zd_b zq_prog_1_method_33_code_1 16 rfl rfl rfl) (zd_b zq_prog_1_method_33_code_1 17 rfl rfl rfl) (by decide +kernel)
theorem d_Ip_leastCost_50 : decode prog_1_method_33_code 50 = .ok (.invokestatic 203, 3) := zo_184 (d := 0) (e := 203) (zd_b zq_prog_1_method_33_code_1 18 rfl rfl rfl) (zd_b zq_prog_1_method_33_code_1 19 rfl rfl rfl) (zd_b zq_prog_1_method_33_code_1 20 rfl rfl rfl)
theorem d_Ip_leastCost_53 : decode prog_1_method_33_code 53 = .ok (.ifCond .eq 27, 3) := zo_153 (d := 0) (e := 27) (zd_b zq_prog_1_method_33_code_1 21 rfl rfl rfl) (zd_b zq_prog_1_method_33_code_1 22 rfl rfl rfl) (zd_b zq_prog_1_method_33_code_1 23 rfl rfl rfl) (by decide +kernel)
theorem d_Ip_leastCost_80 : decode prog_1_method_33_code 80 = .ok (.new 89, 3) := zo_187 (d := 0) (e := 89) (zd_b zq_prog_1_method_33_code_2 16 rfl rfl rfl) (zd_b zq_prog_1_method_33_code_2 17 rfl rfl rfl) (zd_b zq_prog_1_method_33_code_2 18 rfl rfl rfl)
theorem sr_Ip_372 : Cond.stringRef "Ironpour" 372 "prices are 1 to 1000" ∈ lw_tbl := z_tb5 (i := 186) rfl
theorem d_Ip_leastCost_83 : decode prog_1_method_33_code 83 = .ok (.dup, 1) := zo_89 (zd_b zq_prog_1_method_33_code_2 19 rfl rfl rfl)
theorem d_Ip_leastCost_84 : decode prog_1_method_33_code 84 = .ok (.ldc_w 372, 3) := zo_19 (d := 1) (e := 116) (zd_b zq_prog_1_method_33_code_2 20 rfl rfl rfl) (zd_b zq_prog_1_method_33_code_2 21 rfl rfl rfl) (zd_b zq_prog_1_method_33_code_2 22 rfl rfl rfl)
theorem d_Ip_leastCost_87 : decode prog_1_method_33_code 87 = .ok (.invokespecial 93, 3) := zo_183 (d := 0) (e := 93) (zd_b zq_prog_1_method_33_code_2 23 rfl rfl rfl) (zd_b zq_prog_1_method_33_code_2 24 rfl rfl rfl) (zd_b zq_prog_1_method_33_code_2 25 rfl rfl rfl)
theorem d_Ip_leastCost_90 : decode prog_1_method_33_code 90 = .ok (.athrow, 1) := zo_191 (zd_b zq_prog_1_method_33_code_2 26 rfl rfl rfl)
theorem d_Ip_leastCost_56 : decode prog_1_method_33_code 56 = .ok (.iload 5, 2) := zo_21 (d := 5) (zd_b zq_prog_1_method_33_code_1 24 rfl rfl rfl) (zd_b zq_prog_1_method_33_code_1 25 rfl rfl rfl)
theorem d_Ip_leastCost_58 : decode prog_1_method_33_code 58 = .ok (.iconst 1, 1) := zo_4 (zd_b zq_prog_1_method_33_code_1 26 rfl rfl rfl)
theorem d_Ip_leastCost_59 : decode prog_1_method_33_code 59 = .ok (.sipush 1000, 3) := zo_17 (d := 3) (e := 232) (zd_b zq_prog_1_method_33_code_1 27 rfl rfl rfl) (zd_b zq_prog_1_method_33_code_1 28 rfl rfl rfl) (zd_b zq_prog_1_method_33_code_1 29 rfl rfl rfl) (by decide +kernel)
theorem d_Ip_leastCost_62 : decode prog_1_method_33_code 62 = .ok (.invokestatic 203, 3) := zo_184 (d := 0) (e := 203) (zd_b zq_prog_1_method_33_code_1 30 rfl rfl rfl) (zd_b zq_prog_1_method_33_code_1 31 rfl rfl rfl) (zd_b zq_prog_1_method_33_code_2 0 rfl rfl rfl)
theorem d_Ip_leastCost_65 : decode prog_1_method_33_code 65 = .ok (.ifCond .eq 15, 3) := zo_153 (d := 0) (e := 15) (zd_b zq_prog_1_method_33_code_2 1 rfl rfl rfl) (zd_b zq_prog_1_method_33_code_2 2 rfl rfl rfl) (zd_b zq_prog_1_method_33_code_2 3 rfl rfl rfl) (by decide +kernel)
theorem d_Ip_leastCost_68 : decode prog_1_method_33_code 68 = .ok (.iload 6, 2) := zo_21 (d := 6) (zd_b zq_prog_1_method_33_code_2 4 rfl rfl rfl) (zd_b zq_prog_1_method_33_code_2 5 rfl rfl rfl)
theorem d_Ip_leastCost_70 : decode prog_1_method_33_code 70 = .ok (.iconst 1, 1) := zo_4 (zd_b zq_prog_1_method_33_code_2 6 rfl rfl rfl)
theorem d_Ip_leastCost_71 : decode prog_1_method_33_code 71 = .ok (.sipush 1000, 3) := zo_17 (d := 3) (e := 232) (zd_b zq_prog_1_method_33_code_2 7 rfl rfl rfl) (zd_b zq_prog_1_method_33_code_2 8 rfl rfl rfl) (zd_b zq_prog_1_method_33_code_2 9 rfl rfl rfl) (by decide +kernel)
theorem d_Ip_leastCost_74 : decode prog_1_method_33_code 74 = .ok (.invokestatic 203, 3) := zo_184 (d := 0) (e := 203) (zd_b zq_prog_1_method_33_code_2 10 rfl rfl rfl) (zd_b zq_prog_1_method_33_code_2 11 rfl rfl rfl) (zd_b zq_prog_1_method_33_code_2 12 rfl rfl rfl)
theorem d_Ip_leastCost_77 : decode prog_1_method_33_code 77 = .ok (.ifCond .ne 14, 3) := zo_154 (d := 0) (e := 14) (zd_b zq_prog_1_method_33_code_2 13 rfl rfl rfl) (zd_b zq_prog_1_method_33_code_2 14 rfl rfl rfl) (zd_b zq_prog_1_method_33_code_2 15 rfl rfl rfl) (by decide +kernel)
set_option maxHeartbeats 4000000 in
set_option maxRecDepth 100000 in
theorem C_Ip_leastCostE (g : zG) (a pa ta sa gs co fu la gy du re wm ac : Nat) (p0 a0 f0 : Int32) (le mo si pp ps pa_ : Int32) (hw : ¬ ((0 ≤ le ∧ le ≤ 450) ∧ (le ≤ mo ∧ mo ≤ 450) ∧ (0 ≤ si ∧ si ≤ 450) ∧ (1 ≤ pp ∧ pp ≤ 1000) ∧ (1 ≤ ps ∧ ps ≤ 1000) ∧ (1 ≤ pa_ ∧ pa_ ≤ 1000))) : CT g M_Ip_leastCost [.ref a, .int le, .int mo, .int si, .int pp, .int ps, .int pa_] [(a, .inr (11, [.ref pa, .ref ta, .ref sa, .ref gs, .ref co, .ref fu, .ref la, .ref gy, .ref du, .ref re, .ref wm, .ref ac])), (re, .inr (9, [.int p0, .int a0, .int f0]))] (fun o cs1 => o = .inr "java/lang/IllegalArgumentException" ∧ cs1 = [(a, .inr (11, [.ref pa, .ref ta, .ref sa, .ref gs, .ref co, .ref fu, .ref la, .ref gy, .ref du, .ref re, .ref wm, .ref ac])), (re, .inr (9, [.int p0, .int a0, .int f0]))]) 1 6 := by
  refine z_of (by decide) rfl (Nat.le_of_ble_eq_true rfl) (fun w0 => ?_)
  refine r_lvE (lv2 := [(0, .ref a), (1, .int le), (2, .int mo), (3, .int si), (4, .int pp), (5, .int ps), (6, .int pa_)]) rfl ?_
  refine r_iload_n d_Ip_leastCost_0 rfl 1 rfl ?_
  refine r_iconst d_Ip_leastCost_1 (v := 0) (by decide) ?_
  refine r_sipush d_Ip_leastCost_2 (v := 450) (by decide) ?_
  refine r_callS (As := [.int le, .int 0, .int 450]) (rest := []) (csC := []) (is := []) ln_Ip_203 w_st_Ip_isWithin ok_Ip_leastCost_Ip_isWithin d_Ip_leastCost_5 (C_Ip_isWithin g le 0 450) rfl rfl (Nat.le_of_ble_eq_true rfl) rfl (by decide) (by omega) (by omega) (fun E cs1 hx => ?_) (fun v cs1 hx => ?_)
  · exact absurd hx.1 (by simp)
  · obtain ⟨e1, rfl⟩ := hx
    cases e1
    refine ⟨rfl, ?_⟩
    refine r_st (st2 := [.int (if 0 ≤ le ∧ le ≤ 450 then 1 else 0)]) rfl ?_
    refine r_cs (cs2 := [(a, .inr (11, [.ref pa, .ref ta, .ref sa, .ref gs, .ref co, .ref fu, .ref la, .ref gy, .ref du, .ref re, .ref wm, .ref ac])), (re, .inr (9, [.int p0, .int a0, .int f0]))]) rfl ?_
    refine r_if_eq (tgt := 33) d_Ip_leastCost_8 (by decide) (fun c_8 => ?_) (fun c_8 => ?_)
    · refine r_throwW tb_Ip_89_93 sr_Ip_370 d_Ip_leastCost_33 d_Ip_leastCost_36 d_Ip_leastCost_37 d_Ip_leastCost_40 d_Ip_leastCost_43 rfl (by decide) (by decide) (Nat.le_of_ble_eq_true rfl) (by omega) (by omega) ?_
      exact ⟨rfl, rfl⟩
    · refine r_iload_n d_Ip_leastCost_11 rfl 2 rfl ?_
      refine r_iload_n d_Ip_leastCost_12 rfl 1 rfl ?_
      refine r_sipush d_Ip_leastCost_13 (v := 450) (by decide) ?_
      refine r_callS (As := [.int mo, .int le, .int 450]) (rest := []) (csC := []) (is := []) ln_Ip_203 w_st_Ip_isWithin ok_Ip_leastCost_Ip_isWithin d_Ip_leastCost_16 (C_Ip_isWithin g mo le 450) rfl rfl (Nat.le_of_ble_eq_true rfl) rfl (by decide) (by omega) (by omega) (fun E cs1 hx => ?_) (fun v cs1 hx => ?_)
      · exact absurd hx.1 (by simp)
      · obtain ⟨e1, rfl⟩ := hx
        cases e1
        refine ⟨rfl, ?_⟩
        refine r_st (st2 := [.int (if le ≤ mo ∧ mo ≤ 450 then 1 else 0)]) rfl ?_
        refine r_cs (cs2 := [(a, .inr (11, [.ref pa, .ref ta, .ref sa, .ref gs, .ref co, .ref fu, .ref la, .ref gy, .ref du, .ref re, .ref wm, .ref ac])), (re, .inr (9, [.int p0, .int a0, .int f0]))]) rfl ?_
        refine r_if_eq (tgt := 33) d_Ip_leastCost_19 (by decide) (fun c_19 => ?_) (fun c_19 => ?_)
        · refine r_throwW tb_Ip_89_93 sr_Ip_370 d_Ip_leastCost_33 d_Ip_leastCost_36 d_Ip_leastCost_37 d_Ip_leastCost_40 d_Ip_leastCost_43 rfl (by decide) (by decide) (Nat.le_of_ble_eq_true rfl) (by omega) (by omega) ?_
          exact ⟨rfl, rfl⟩
        · refine r_iload_n d_Ip_leastCost_22 rfl 3 rfl ?_
          refine r_iconst d_Ip_leastCost_23 (v := 0) (by decide) ?_
          refine r_sipush d_Ip_leastCost_24 (v := 450) (by decide) ?_
          refine r_callS (As := [.int si, .int 0, .int 450]) (rest := []) (csC := []) (is := []) ln_Ip_203 w_st_Ip_isWithin ok_Ip_leastCost_Ip_isWithin d_Ip_leastCost_27 (C_Ip_isWithin g si 0 450) rfl rfl (Nat.le_of_ble_eq_true rfl) rfl (by decide) (by omega) (by omega) (fun E cs1 hx => ?_) (fun v cs1 hx => ?_)
          · exact absurd hx.1 (by simp)
          · obtain ⟨e1, rfl⟩ := hx
            cases e1
            refine ⟨rfl, ?_⟩
            refine r_st (st2 := [.int (if 0 ≤ si ∧ si ≤ 450 then 1 else 0)]) rfl ?_
            refine r_cs (cs2 := [(a, .inr (11, [.ref pa, .ref ta, .ref sa, .ref gs, .ref co, .ref fu, .ref la, .ref gy, .ref du, .ref re, .ref wm, .ref ac])), (re, .inr (9, [.int p0, .int a0, .int f0]))]) rfl ?_
            refine r_if_ne (tgt := 44) d_Ip_leastCost_30 (by decide) (fun c_30 => ?_) (fun c_30 => ?_)
            · refine r_iload d_Ip_leastCost_44 4 rfl ?_
              refine r_iconst d_Ip_leastCost_46 (v := 1) (by decide) ?_
              refine r_sipush d_Ip_leastCost_47 (v := 1000) (by decide) ?_
              refine r_callS (As := [.int pp, .int 1, .int 1000]) (rest := []) (csC := []) (is := []) ln_Ip_203 w_st_Ip_isWithin ok_Ip_leastCost_Ip_isWithin d_Ip_leastCost_50 (C_Ip_isWithin g pp 1 1000) rfl rfl (Nat.le_of_ble_eq_true rfl) rfl (by decide) (by omega) (by omega) (fun E cs1 hx => ?_) (fun v cs1 hx => ?_)
              · exact absurd hx.1 (by simp)
              · obtain ⟨e1, rfl⟩ := hx
                cases e1
                refine ⟨rfl, ?_⟩
                refine r_st (st2 := [.int (if 1 ≤ pp ∧ pp ≤ 1000 then 1 else 0)]) rfl ?_
                refine r_cs (cs2 := [(a, .inr (11, [.ref pa, .ref ta, .ref sa, .ref gs, .ref co, .ref fu, .ref la, .ref gy, .ref du, .ref re, .ref wm, .ref ac])), (re, .inr (9, [.int p0, .int a0, .int f0]))]) rfl ?_
                refine r_if_eq (tgt := 80) d_Ip_leastCost_53 (by decide) (fun c_53 => ?_) (fun c_53 => ?_)
                · refine r_throwW tb_Ip_89_93 sr_Ip_372 d_Ip_leastCost_80 d_Ip_leastCost_83 d_Ip_leastCost_84 d_Ip_leastCost_87 d_Ip_leastCost_90 rfl (by decide) (by decide) (Nat.le_of_ble_eq_true rfl) (by omega) (by omega) ?_
                  exact ⟨rfl, rfl⟩
                · refine r_iload d_Ip_leastCost_56 5 rfl ?_
                  refine r_iconst d_Ip_leastCost_58 (v := 1) (by decide) ?_
                  refine r_sipush d_Ip_leastCost_59 (v := 1000) (by decide) ?_
                  refine r_callS (As := [.int ps, .int 1, .int 1000]) (rest := []) (csC := []) (is := []) ln_Ip_203 w_st_Ip_isWithin ok_Ip_leastCost_Ip_isWithin d_Ip_leastCost_62 (C_Ip_isWithin g ps 1 1000) rfl rfl (Nat.le_of_ble_eq_true rfl) rfl (by decide) (by omega) (by omega) (fun E cs1 hx => ?_) (fun v cs1 hx => ?_)
                  · exact absurd hx.1 (by simp)
                  · obtain ⟨e1, rfl⟩ := hx
                    cases e1
                    refine ⟨rfl, ?_⟩
                    refine r_st (st2 := [.int (if 1 ≤ ps ∧ ps ≤ 1000 then 1 else 0)]) rfl ?_
                    refine r_cs (cs2 := [(a, .inr (11, [.ref pa, .ref ta, .ref sa, .ref gs, .ref co, .ref fu, .ref la, .ref gy, .ref du, .ref re, .ref wm, .ref ac])), (re, .inr (9, [.int p0, .int a0, .int f0]))]) rfl ?_
                    refine r_if_eq (tgt := 80) d_Ip_leastCost_65 (by decide) (fun c_65 => ?_) (fun c_65 => ?_)
                    · refine r_throwW tb_Ip_89_93 sr_Ip_372 d_Ip_leastCost_80 d_Ip_leastCost_83 d_Ip_leastCost_84 d_Ip_leastCost_87 d_Ip_leastCost_90 rfl (by decide) (by decide) (Nat.le_of_ble_eq_true rfl) (by omega) (by omega) ?_
                      exact ⟨rfl, rfl⟩
                    · refine r_iload d_Ip_leastCost_68 6 rfl ?_
                      refine r_iconst d_Ip_leastCost_70 (v := 1) (by decide) ?_
                      refine r_sipush d_Ip_leastCost_71 (v := 1000) (by decide) ?_
                      refine r_callS (As := [.int pa_, .int 1, .int 1000]) (rest := []) (csC := []) (is := []) ln_Ip_203 w_st_Ip_isWithin ok_Ip_leastCost_Ip_isWithin d_Ip_leastCost_74 (C_Ip_isWithin g pa_ 1 1000) rfl rfl (Nat.le_of_ble_eq_true rfl) rfl (by decide) (by omega) (by omega) (fun E cs1 hx => ?_) (fun v cs1 hx => ?_)
                      · exact absurd hx.1 (by simp)
                      · obtain ⟨e1, rfl⟩ := hx
                        cases e1
                        refine ⟨rfl, ?_⟩
                        refine r_st (st2 := [.int (if 1 ≤ pa_ ∧ pa_ ≤ 1000 then 1 else 0)]) rfl ?_
                        refine r_cs (cs2 := [(a, .inr (11, [.ref pa, .ref ta, .ref sa, .ref gs, .ref co, .ref fu, .ref la, .ref gy, .ref du, .ref re, .ref wm, .ref ac])), (re, .inr (9, [.int p0, .int a0, .int f0]))]) rfl ?_
                        refine r_if_ne (tgt := 91) d_Ip_leastCost_77 (by decide) (fun c_77 => ?_) (fun c_77 => ?_)
                        · exact absurd ⟨z_b1 c_8, z_b1 c_19, z_b1 c_30, z_b1 c_53, z_b1 c_65, z_b1 c_77⟩ hw
                        · refine r_throwW tb_Ip_89_93 sr_Ip_372 d_Ip_leastCost_80 d_Ip_leastCost_83 d_Ip_leastCost_84 d_Ip_leastCost_87 d_Ip_leastCost_90 rfl (by decide) (by decide) (Nat.le_of_ble_eq_true rfl) (by omega) (by omega) ?_
                          exact ⟨rfl, rfl⟩
            · refine r_throwW tb_Ip_89_93 sr_Ip_370 d_Ip_leastCost_33 d_Ip_leastCost_36 d_Ip_leastCost_37 d_Ip_leastCost_40 d_Ip_leastCost_43 rfl (by decide) (by decide) (Nat.le_of_ble_eq_true rfl) (by omega) (by omega) ?_
              exact ⟨rfl, rfl⟩
theorem d_Ip_leastCost_91 : decode prog_1_method_33_code 91 = .ok (.aload_n 0, 1) := zo_42 (zd_b zq_prog_1_method_33_code_2 27 rfl rfl rfl)
theorem d_Ip_leastCost_92 : decode prog_1_method_33_code 92 = .ok (.getfield 67, 3) := zo_180 (d := 0) (e := 67) (zd_b zq_prog_1_method_33_code_2 28 rfl rfl rfl) (zd_b zq_prog_1_method_33_code_2 29 rfl rfl rfl) (zd_b zq_prog_1_method_33_code_2 30 rfl rfl rfl)
theorem d_Ip_leastCost_95 : decode prog_1_method_33_code 95 = .ok (.iload_n 1, 1) := zo_27 (zd_b zq_prog_1_method_33_code_2 31 rfl rfl rfl)
theorem d_Ip_leastCost_96 : decode prog_1_method_33_code 96 = .ok (.iload_n 2, 1) := zo_28 (zd_b zq_prog_1_method_33_code_3 0 rfl rfl rfl)
theorem d_Ip_leastCost_97 : decode prog_1_method_33_code 97 = .ok (.iload_n 3, 1) := zo_29 (zd_b zq_prog_1_method_33_code_3 1 rfl rfl rfl)
theorem d_Ip_leastCost_98 : decode prog_1_method_33_code 98 = .ok (.iload 4, 2) := zo_21 (d := 4) (zd_b zq_prog_1_method_33_code_3 2 rfl rfl rfl) (zd_b zq_prog_1_method_33_code_3 3 rfl rfl rfl)
theorem d_Ip_leastCost_100 : decode prog_1_method_33_code 100 = .ok (.iload 5, 2) := zo_21 (d := 5) (zd_b zq_prog_1_method_33_code_3 4 rfl rfl rfl) (zd_b zq_prog_1_method_33_code_3 5 rfl rfl rfl)
theorem d_Ip_leastCost_102 : decode prog_1_method_33_code 102 = .ok (.iload 6, 2) := zo_21 (d := 6) (zd_b zq_prog_1_method_33_code_3 6 rfl rfl rfl) (zd_b zq_prog_1_method_33_code_3 7 rfl rfl rfl)
theorem d_Ip_leastCost_104 : decode prog_1_method_33_code 104 = .ok (.invokevirtual 374, 3) := zo_182 (d := 1) (e := 118) (zd_b zq_prog_1_method_33_code_3 8 rfl rfl rfl) (zd_b zq_prog_1_method_33_code_3 9 rfl rfl rfl) (zd_b zq_prog_1_method_33_code_3 10 rfl rfl rfl)
theorem ok_Ip_leastCost_Re_search : z_ok M_Ip_leastCost M_Re_search 6 := ⟨z_mj5 (i := 190) rfl (by decide +kernel), rfl, ⟨by decide +kernel, by decide +kernel, by decide +kernel⟩, ⟨by decide, by decide⟩, z_mj1 (i := 10) rfl (by decide +kernel), rfl⟩
theorem ln_Ip_374 : Cond.methodLink "Ironpour" 374 M_Re_search.1 ∈ z_gw := z_mj5 (i := 187) rfl (by decide +kernel)
theorem w_im_Re_search : Cond.instanceMethod M_Re_search.1 ∈ z_gw := z_mj5 (i := 188) rfl (by decide +kernel)
theorem w_se_Re_search : Cond.selects M_Re_search.1.cls M_Re_search.1 M_Re_search.1 ∈ z_gw := z_mj5 (i := 189) rfl (by decide +kernel)
theorem d_Ip_leastCost_107 : decode prog_1_method_33_code 107 = .ok (.istore 7, 2) := zo_54 (d := 7) (zd_b zq_prog_1_method_33_code_3 11 rfl rfl rfl) (zd_b zq_prog_1_method_33_code_3 12 rfl rfl rfl)
theorem d_Ip_leastCost_109 : decode prog_1_method_33_code 109 = .ok (.iload 7, 2) := zo_21 (d := 7) (zd_b zq_prog_1_method_33_code_3 13 rfl rfl rfl) (zd_b zq_prog_1_method_33_code_3 14 rfl rfl rfl)
theorem d_Ip_leastCost_111 : decode prog_1_method_33_code 111 = .ok (.ifCond .ge 14, 3) := zo_156 (d := 0) (e := 14) (zd_b zq_prog_1_method_33_code_3 15 rfl rfl rfl) (zd_b zq_prog_1_method_33_code_3 16 rfl rfl rfl) (zd_b zq_prog_1_method_33_code_3 17 rfl rfl rfl) (by decide +kernel)
theorem d_Ip_leastCost_114 : decode prog_1_method_33_code 114 = .ok (.new 150, 3) := zo_187 (d := 0) (e := 150) (zd_b zq_prog_1_method_33_code_3 18 rfl rfl rfl) (zd_b zq_prog_1_method_33_code_3 19 rfl rfl rfl) (zd_b zq_prog_1_method_33_code_3 20 rfl rfl rfl)
theorem sr_Ip_378 : Cond.stringRef "Ironpour" 378 "no charge is such" ∈ lw_tbl := z_tb5 (i := 197) rfl
theorem d_Ip_leastCost_117 : decode prog_1_method_33_code 117 = .ok (.dup, 1) := zo_89 (zd_b zq_prog_1_method_33_code_3 21 rfl rfl rfl)
theorem d_Ip_leastCost_118 : decode prog_1_method_33_code 118 = .ok (.ldc_w 378, 3) := zo_19 (d := 1) (e := 122) (zd_b zq_prog_1_method_33_code_3 22 rfl rfl rfl) (zd_b zq_prog_1_method_33_code_3 23 rfl rfl rfl) (zd_b zq_prog_1_method_33_code_3 24 rfl rfl rfl)
theorem d_Ip_leastCost_121 : decode prog_1_method_33_code 121 = .ok (.invokespecial 154, 3) := zo_183 (d := 0) (e := 154) (zd_b zq_prog_1_method_33_code_3 25 rfl rfl rfl) (zd_b zq_prog_1_method_33_code_3 26 rfl rfl rfl) (zd_b zq_prog_1_method_33_code_3 27 rfl rfl rfl)
theorem d_Ip_leastCost_124 : decode prog_1_method_33_code 124 = .ok (.athrow, 1) := zo_191 (zd_b zq_prog_1_method_33_code_3 28 rfl rfl rfl)
set_option maxHeartbeats 4000000 in
set_option maxRecDepth 100000 in
theorem C_Ip_leastCostF (g : zG) (a pa ta sa gs co fu la gy du re wm ac : Nat) (p0 a0 f0 : Int32) (le mo si pp ps pa_ : Int32) (hw : ((0 ≤ le ∧ le ≤ 450) ∧ (le ≤ mo ∧ mo ≤ 450) ∧ (0 ≤ si ∧ si ≤ 450) ∧ (1 ≤ pp ∧ pp ≤ 1000) ∧ (1 ≤ ps ∧ ps ≤ 1000) ∧ (1 ≤ pa_ ∧ pa_ ≤ 1000))) (hs : (rcO le mo si pp ps pa_ (-1, p0, a0, f0) 11).1 < 0) : CT g M_Ip_leastCost [.ref a, .int le, .int mo, .int si, .int pp, .int ps, .int pa_] [(a, .inr (11, [.ref pa, .ref ta, .ref sa, .ref gs, .ref co, .ref fu, .ref la, .ref gy, .ref du, .ref re, .ref wm, .ref ac])), (re, .inr (9, [.int p0, .int a0, .int f0]))] (fun o cs1 => o = .inr "java/util/NoSuchElementException" ∧ cs1 = [(a, .inr (11, [.ref pa, .ref ta, .ref sa, .ref gs, .ref co, .ref fu, .ref la, .ref gy, .ref du, .ref re, .ref wm, .ref ac])), (re, .inr (9, [.int ((rcO le mo si pp ps pa_ (-1, p0, a0, f0) 11).2.1), .int ((rcO le mo si pp ps pa_ (-1, p0, a0, f0) 11).2.2.1), .int ((rcO le mo si pp ps pa_ (-1, p0, a0, f0) 11).2.2.2)]))]) 2 12 := by
  refine z_of (by decide) rfl (Nat.le_of_ble_eq_true rfl) (fun w0 => ?_)
  refine r_lvE (lv2 := [(0, .ref a), (1, .int le), (2, .int mo), (3, .int si), (4, .int pp), (5, .int ps), (6, .int pa_)]) rfl ?_
  refine r_iload_n d_Ip_leastCost_0 rfl 1 rfl ?_
  refine r_iconst d_Ip_leastCost_1 (v := 0) (by decide) ?_
  refine r_sipush d_Ip_leastCost_2 (v := 450) (by decide) ?_
  refine r_callS (As := [.int le, .int 0, .int 450]) (rest := []) (csC := []) (is := []) ln_Ip_203 w_st_Ip_isWithin ok_Ip_leastCost_Ip_isWithin d_Ip_leastCost_5 (C_Ip_isWithin g le 0 450) rfl rfl (Nat.le_of_ble_eq_true rfl) rfl (by decide) (by omega) (by omega) (fun E cs1 hx => ?_) (fun v cs1 hx => ?_)
  · exact absurd hx.1 (by simp)
  · obtain ⟨e1, rfl⟩ := hx
    cases e1
    refine ⟨rfl, ?_⟩
    refine r_st (st2 := [.int (if 0 ≤ le ∧ le ≤ 450 then 1 else 0)]) rfl ?_
    refine r_cs (cs2 := [(a, .inr (11, [.ref pa, .ref ta, .ref sa, .ref gs, .ref co, .ref fu, .ref la, .ref gy, .ref du, .ref re, .ref wm, .ref ac])), (re, .inr (9, [.int p0, .int a0, .int f0]))]) rfl ?_
    refine r_if_eq (tgt := 33) d_Ip_leastCost_8 (by decide) (fun c_8 => ?_) (fun c_8 => ?_)
    · exact absurd hw.1 (z_b0 c_8)
    · refine r_iload_n d_Ip_leastCost_11 rfl 2 rfl ?_
      refine r_iload_n d_Ip_leastCost_12 rfl 1 rfl ?_
      refine r_sipush d_Ip_leastCost_13 (v := 450) (by decide) ?_
      refine r_callS (As := [.int mo, .int le, .int 450]) (rest := []) (csC := []) (is := []) ln_Ip_203 w_st_Ip_isWithin ok_Ip_leastCost_Ip_isWithin d_Ip_leastCost_16 (C_Ip_isWithin g mo le 450) rfl rfl (Nat.le_of_ble_eq_true rfl) rfl (by decide) (by omega) (by omega) (fun E cs1 hx => ?_) (fun v cs1 hx => ?_)
      · exact absurd hx.1 (by simp)
      · obtain ⟨e1, rfl⟩ := hx
        cases e1
        refine ⟨rfl, ?_⟩
        refine r_st (st2 := [.int (if le ≤ mo ∧ mo ≤ 450 then 1 else 0)]) rfl ?_
        refine r_cs (cs2 := [(a, .inr (11, [.ref pa, .ref ta, .ref sa, .ref gs, .ref co, .ref fu, .ref la, .ref gy, .ref du, .ref re, .ref wm, .ref ac])), (re, .inr (9, [.int p0, .int a0, .int f0]))]) rfl ?_
        refine r_if_eq (tgt := 33) d_Ip_leastCost_19 (by decide) (fun c_19 => ?_) (fun c_19 => ?_)
        · exact absurd hw.2.1 (z_b0 c_19)
        · refine r_iload_n d_Ip_leastCost_22 rfl 3 rfl ?_
          refine r_iconst d_Ip_leastCost_23 (v := 0) (by decide) ?_
          refine r_sipush d_Ip_leastCost_24 (v := 450) (by decide) ?_
          refine r_callS (As := [.int si, .int 0, .int 450]) (rest := []) (csC := []) (is := []) ln_Ip_203 w_st_Ip_isWithin ok_Ip_leastCost_Ip_isWithin d_Ip_leastCost_27 (C_Ip_isWithin g si 0 450) rfl rfl (Nat.le_of_ble_eq_true rfl) rfl (by decide) (by omega) (by omega) (fun E cs1 hx => ?_) (fun v cs1 hx => ?_)
          · exact absurd hx.1 (by simp)
          · obtain ⟨e1, rfl⟩ := hx
            cases e1
            refine ⟨rfl, ?_⟩
            refine r_st (st2 := [.int (if 0 ≤ si ∧ si ≤ 450 then 1 else 0)]) rfl ?_
            refine r_cs (cs2 := [(a, .inr (11, [.ref pa, .ref ta, .ref sa, .ref gs, .ref co, .ref fu, .ref la, .ref gy, .ref du, .ref re, .ref wm, .ref ac])), (re, .inr (9, [.int p0, .int a0, .int f0]))]) rfl ?_
            refine r_if_ne (tgt := 44) d_Ip_leastCost_30 (by decide) (fun c_30 => ?_) (fun c_30 => ?_)
            · refine r_iload d_Ip_leastCost_44 4 rfl ?_
              refine r_iconst d_Ip_leastCost_46 (v := 1) (by decide) ?_
              refine r_sipush d_Ip_leastCost_47 (v := 1000) (by decide) ?_
              refine r_callS (As := [.int pp, .int 1, .int 1000]) (rest := []) (csC := []) (is := []) ln_Ip_203 w_st_Ip_isWithin ok_Ip_leastCost_Ip_isWithin d_Ip_leastCost_50 (C_Ip_isWithin g pp 1 1000) rfl rfl (Nat.le_of_ble_eq_true rfl) rfl (by decide) (by omega) (by omega) (fun E cs1 hx => ?_) (fun v cs1 hx => ?_)
              · exact absurd hx.1 (by simp)
              · obtain ⟨e1, rfl⟩ := hx
                cases e1
                refine ⟨rfl, ?_⟩
                refine r_st (st2 := [.int (if 1 ≤ pp ∧ pp ≤ 1000 then 1 else 0)]) rfl ?_
                refine r_cs (cs2 := [(a, .inr (11, [.ref pa, .ref ta, .ref sa, .ref gs, .ref co, .ref fu, .ref la, .ref gy, .ref du, .ref re, .ref wm, .ref ac])), (re, .inr (9, [.int p0, .int a0, .int f0]))]) rfl ?_
                refine r_if_eq (tgt := 80) d_Ip_leastCost_53 (by decide) (fun c_53 => ?_) (fun c_53 => ?_)
                · exact absurd hw.2.2.2.1 (z_b0 c_53)
                · refine r_iload d_Ip_leastCost_56 5 rfl ?_
                  refine r_iconst d_Ip_leastCost_58 (v := 1) (by decide) ?_
                  refine r_sipush d_Ip_leastCost_59 (v := 1000) (by decide) ?_
                  refine r_callS (As := [.int ps, .int 1, .int 1000]) (rest := []) (csC := []) (is := []) ln_Ip_203 w_st_Ip_isWithin ok_Ip_leastCost_Ip_isWithin d_Ip_leastCost_62 (C_Ip_isWithin g ps 1 1000) rfl rfl (Nat.le_of_ble_eq_true rfl) rfl (by decide) (by omega) (by omega) (fun E cs1 hx => ?_) (fun v cs1 hx => ?_)
                  · exact absurd hx.1 (by simp)
                  · obtain ⟨e1, rfl⟩ := hx
                    cases e1
                    refine ⟨rfl, ?_⟩
                    refine r_st (st2 := [.int (if 1 ≤ ps ∧ ps ≤ 1000 then 1 else 0)]) rfl ?_
                    refine r_cs (cs2 := [(a, .inr (11, [.ref pa, .ref ta, .ref sa, .ref gs, .ref co, .ref fu, .ref la, .ref gy, .ref du, .ref re, .ref wm, .ref ac])), (re, .inr (9, [.int p0, .int a0, .int f0]))]) rfl ?_
                    refine r_if_eq (tgt := 80) d_Ip_leastCost_65 (by decide) (fun c_65 => ?_) (fun c_65 => ?_)
                    · exact absurd hw.2.2.2.2.1 (z_b0 c_65)
                    · refine r_iload d_Ip_leastCost_68 6 rfl ?_
                      refine r_iconst d_Ip_leastCost_70 (v := 1) (by decide) ?_
                      refine r_sipush d_Ip_leastCost_71 (v := 1000) (by decide) ?_
                      refine r_callS (As := [.int pa_, .int 1, .int 1000]) (rest := []) (csC := []) (is := []) ln_Ip_203 w_st_Ip_isWithin ok_Ip_leastCost_Ip_isWithin d_Ip_leastCost_74 (C_Ip_isWithin g pa_ 1 1000) rfl rfl (Nat.le_of_ble_eq_true rfl) rfl (by decide) (by omega) (by omega) (fun E cs1 hx => ?_) (fun v cs1 hx => ?_)
                      · exact absurd hx.1 (by simp)
                      · obtain ⟨e1, rfl⟩ := hx
                        cases e1
                        refine ⟨rfl, ?_⟩
                        refine r_st (st2 := [.int (if 1 ≤ pa_ ∧ pa_ ≤ 1000 then 1 else 0)]) rfl ?_
                        refine r_cs (cs2 := [(a, .inr (11, [.ref pa, .ref ta, .ref sa, .ref gs, .ref co, .ref fu, .ref la, .ref gy, .ref du, .ref re, .ref wm, .ref ac])), (re, .inr (9, [.int p0, .int a0, .int f0]))]) rfl ?_
                        refine r_if_ne (tgt := 91) d_Ip_leastCost_77 (by decide) (fun c_77 => ?_) (fun c_77 => ?_)
                        · refine r_aload_n d_Ip_leastCost_91 rfl 0 rfl ?_
                          refine r_get fs_Ip_67 d_Ip_leastCost_92 (q0 := 0) rfl rfl ?_
                          refine r_iload_n d_Ip_leastCost_95 rfl 1 rfl ?_
                          refine r_iload_n d_Ip_leastCost_96 rfl 2 rfl ?_
                          refine r_iload_n d_Ip_leastCost_97 rfl 3 rfl ?_
                          refine r_iload d_Ip_leastCost_98 4 rfl ?_
                          refine r_iload d_Ip_leastCost_100 5 rfl ?_
                          refine r_iload d_Ip_leastCost_102 6 rfl ?_
                          refine r_callV (As := [.int le, .int mo, .int si, .int pp, .int ps, .int pa_]) (rest := []) (csC := [(re, .inr (9, [.int p0, .int a0, .int f0]))]) (is := [1]) (q0 := 1) rfl rfl ln_Ip_374 w_im_Re_search w_se_Re_search ok_Ip_leastCost_Re_search d_Ip_leastCost_104 (C_Re_search g re p0 a0 f0 le mo si pp ps pa_) rfl rfl (Nat.le_of_ble_eq_true rfl) rfl (by decide) (by omega) (by omega) (fun E cs1 hx => ?_) (fun v cs1 hx => ?_)
                          · exact absurd hx.1 (by simp)
                          · obtain ⟨e1, rfl⟩ := hx
                            cases e1
                            refine ⟨rfl, ?_⟩
                            refine r_st (st2 := [.int ((rcO le mo si pp ps pa_ (-1, p0, a0, f0) 11).1)]) rfl ?_
                            refine r_cs (cs2 := [(a, .inr (11, [.ref pa, .ref ta, .ref sa, .ref gs, .ref co, .ref fu, .ref la, .ref gy, .ref du, .ref re, .ref wm, .ref ac])), (re, .inr (9, [.int ((rcO le mo si pp ps pa_ (-1, p0, a0, f0) 11).2.1), .int ((rcO le mo si pp ps pa_ (-1, p0, a0, f0) 11).2.2.1), .int ((rcO le mo si pp ps pa_ (-1, p0, a0, f0) 11).2.2.2)]))]) rfl ?_
                            refine r_istore (lv' := [(7, .int ((rcO le mo si pp ps pa_ (-1, p0, a0, f0) 11).1)), (0, .ref a), (1, .int le), (2, .int mo), (3, .int si), (4, .int pp), (5, .int ps), (6, .int pa_)]) d_Ip_leastCost_107 (by decide) rfl ?_
                            refine r_iload d_Ip_leastCost_109 0 rfl ?_
                            refine r_if_ge (tgt := 125) d_Ip_leastCost_111 (by decide) (fun c_111 => ?_) (fun c_111 => ?_)
                            · exact absurd hs (Int32.not_lt.mpr c_111)
                            · refine r_throwXW tb_Ip_150_154 sr_Ip_378 d_Ip_leastCost_114 d_Ip_leastCost_117 d_Ip_leastCost_118 d_Ip_leastCost_121 d_Ip_leastCost_124 rfl (by decide) (by decide) (Nat.le_of_ble_eq_true rfl) (by omega) (by omega) ?_
                              exact ⟨rfl, rfl⟩
                        · exact absurd hw.2.2.2.2.2 (z_b0 c_77)
            · exact absurd hw.2.2.1 (z_b0 c_30)
theorem d_Ip_leastCost_125 : decode prog_1_method_33_code 125 = .ok (.iload 7, 2) := zo_21 (d := 7) (zd_b zq_prog_1_method_33_code_3 29 rfl rfl rfl) (zd_b zq_prog_1_method_33_code_3 30 rfl rfl rfl)
theorem d_Ip_leastCost_127 : decode prog_1_method_33_code 127 = .ok (.ireturn, 1) := zo_172 (zd_b zq_prog_1_method_33_code_3 31 rfl rfl rfl)
set_option maxHeartbeats 4000000 in
set_option maxRecDepth 100000 in
theorem C_Ip_leastCostN (g : zG) (a pa ta sa gs co fu la gy du re wm ac : Nat) (p0 a0 f0 : Int32) (le mo si pp ps pa_ : Int32) (hw : ((0 ≤ le ∧ le ≤ 450) ∧ (le ≤ mo ∧ mo ≤ 450) ∧ (0 ≤ si ∧ si ≤ 450) ∧ (1 ≤ pp ∧ pp ≤ 1000) ∧ (1 ≤ ps ∧ ps ≤ 1000) ∧ (1 ≤ pa_ ∧ pa_ ≤ 1000))) (hs : ¬ (rcO le mo si pp ps pa_ (-1, p0, a0, f0) 11).1 < 0) : CT g M_Ip_leastCost [.ref a, .int le, .int mo, .int si, .int pp, .int ps, .int pa_] [(a, .inr (11, [.ref pa, .ref ta, .ref sa, .ref gs, .ref co, .ref fu, .ref la, .ref gy, .ref du, .ref re, .ref wm, .ref ac])), (re, .inr (9, [.int p0, .int a0, .int f0]))] (fun o cs1 => o = .inl (some (.int ((rcO le mo si pp ps pa_ (-1, p0, a0, f0) 11).1))) ∧ cs1 = [(a, .inr (11, [.ref pa, .ref ta, .ref sa, .ref gs, .ref co, .ref fu, .ref la, .ref gy, .ref du, .ref re, .ref wm, .ref ac])), (re, .inr (9, [.int ((rcO le mo si pp ps pa_ (-1, p0, a0, f0) 11).2.1), .int ((rcO le mo si pp ps pa_ (-1, p0, a0, f0) 11).2.2.1), .int ((rcO le mo si pp ps pa_ (-1, p0, a0, f0) 11).2.2.2)]))]) 2 12 := by
  refine z_of (by decide) rfl (Nat.le_of_ble_eq_true rfl) (fun w0 => ?_)
  refine r_lvE (lv2 := [(0, .ref a), (1, .int le), (2, .int mo), (3, .int si), (4, .int pp), (5, .int ps), (6, .int pa_)]) rfl ?_
  refine r_iload_n d_Ip_leastCost_0 rfl 1 rfl ?_
  refine r_iconst d_Ip_leastCost_1 (v := 0) (by decide) ?_
  refine r_sipush d_Ip_leastCost_2 (v := 450) (by decide) ?_
  refine r_callS (As := [.int le, .int 0, .int 450]) (rest := []) (csC := []) (is := []) ln_Ip_203 w_st_Ip_isWithin ok_Ip_leastCost_Ip_isWithin d_Ip_leastCost_5 (C_Ip_isWithin g le 0 450) rfl rfl (Nat.le_of_ble_eq_true rfl) rfl (by decide) (by omega) (by omega) (fun E cs1 hx => ?_) (fun v cs1 hx => ?_)
  · exact absurd hx.1 (by simp)
  · obtain ⟨e1, rfl⟩ := hx
    cases e1
    refine ⟨rfl, ?_⟩
    refine r_st (st2 := [.int (if 0 ≤ le ∧ le ≤ 450 then 1 else 0)]) rfl ?_
    refine r_cs (cs2 := [(a, .inr (11, [.ref pa, .ref ta, .ref sa, .ref gs, .ref co, .ref fu, .ref la, .ref gy, .ref du, .ref re, .ref wm, .ref ac])), (re, .inr (9, [.int p0, .int a0, .int f0]))]) rfl ?_
    refine r_if_eq (tgt := 33) d_Ip_leastCost_8 (by decide) (fun c_8 => ?_) (fun c_8 => ?_)
    · exact absurd hw.1 (z_b0 c_8)
    · refine r_iload_n d_Ip_leastCost_11 rfl 2 rfl ?_
      refine r_iload_n d_Ip_leastCost_12 rfl 1 rfl ?_
      refine r_sipush d_Ip_leastCost_13 (v := 450) (by decide) ?_
      refine r_callS (As := [.int mo, .int le, .int 450]) (rest := []) (csC := []) (is := []) ln_Ip_203 w_st_Ip_isWithin ok_Ip_leastCost_Ip_isWithin d_Ip_leastCost_16 (C_Ip_isWithin g mo le 450) rfl rfl (Nat.le_of_ble_eq_true rfl) rfl (by decide) (by omega) (by omega) (fun E cs1 hx => ?_) (fun v cs1 hx => ?_)
      · exact absurd hx.1 (by simp)
      · obtain ⟨e1, rfl⟩ := hx
        cases e1
        refine ⟨rfl, ?_⟩
        refine r_st (st2 := [.int (if le ≤ mo ∧ mo ≤ 450 then 1 else 0)]) rfl ?_
        refine r_cs (cs2 := [(a, .inr (11, [.ref pa, .ref ta, .ref sa, .ref gs, .ref co, .ref fu, .ref la, .ref gy, .ref du, .ref re, .ref wm, .ref ac])), (re, .inr (9, [.int p0, .int a0, .int f0]))]) rfl ?_
        refine r_if_eq (tgt := 33) d_Ip_leastCost_19 (by decide) (fun c_19 => ?_) (fun c_19 => ?_)
        · exact absurd hw.2.1 (z_b0 c_19)
        · refine r_iload_n d_Ip_leastCost_22 rfl 3 rfl ?_
          refine r_iconst d_Ip_leastCost_23 (v := 0) (by decide) ?_
          refine r_sipush d_Ip_leastCost_24 (v := 450) (by decide) ?_
          refine r_callS (As := [.int si, .int 0, .int 450]) (rest := []) (csC := []) (is := []) ln_Ip_203 w_st_Ip_isWithin ok_Ip_leastCost_Ip_isWithin d_Ip_leastCost_27 (C_Ip_isWithin g si 0 450) rfl rfl (Nat.le_of_ble_eq_true rfl) rfl (by decide) (by omega) (by omega) (fun E cs1 hx => ?_) (fun v cs1 hx => ?_)
          · exact absurd hx.1 (by simp)
          · obtain ⟨e1, rfl⟩ := hx
            cases e1
            refine ⟨rfl, ?_⟩
            refine r_st (st2 := [.int (if 0 ≤ si ∧ si ≤ 450 then 1 else 0)]) rfl ?_
            refine r_cs (cs2 := [(a, .inr (11, [.ref pa, .ref ta, .ref sa, .ref gs, .ref co, .ref fu, .ref la, .ref gy, .ref du, .ref re, .ref wm, .ref ac])), (re, .inr (9, [.int p0, .int a0, .int f0]))]) rfl ?_
            refine r_if_ne (tgt := 44) d_Ip_leastCost_30 (by decide) (fun c_30 => ?_) (fun c_30 => ?_)
            · refine r_iload d_Ip_leastCost_44 4 rfl ?_
              refine r_iconst d_Ip_leastCost_46 (v := 1) (by decide) ?_
              refine r_sipush d_Ip_leastCost_47 (v := 1000) (by decide) ?_
              refine r_callS (As := [.int pp, .int 1, .int 1000]) (rest := []) (csC := []) (is := []) ln_Ip_203 w_st_Ip_isWithin ok_Ip_leastCost_Ip_isWithin d_Ip_leastCost_50 (C_Ip_isWithin g pp 1 1000) rfl rfl (Nat.le_of_ble_eq_true rfl) rfl (by decide) (by omega) (by omega) (fun E cs1 hx => ?_) (fun v cs1 hx => ?_)
              · exact absurd hx.1 (by simp)
              · obtain ⟨e1, rfl⟩ := hx
                cases e1
                refine ⟨rfl, ?_⟩
                refine r_st (st2 := [.int (if 1 ≤ pp ∧ pp ≤ 1000 then 1 else 0)]) rfl ?_
                refine r_cs (cs2 := [(a, .inr (11, [.ref pa, .ref ta, .ref sa, .ref gs, .ref co, .ref fu, .ref la, .ref gy, .ref du, .ref re, .ref wm, .ref ac])), (re, .inr (9, [.int p0, .int a0, .int f0]))]) rfl ?_
                refine r_if_eq (tgt := 80) d_Ip_leastCost_53 (by decide) (fun c_53 => ?_) (fun c_53 => ?_)
                · exact absurd hw.2.2.2.1 (z_b0 c_53)
                · refine r_iload d_Ip_leastCost_56 5 rfl ?_
                  refine r_iconst d_Ip_leastCost_58 (v := 1) (by decide) ?_
                  refine r_sipush d_Ip_leastCost_59 (v := 1000) (by decide) ?_
                  refine r_callS (As := [.int ps, .int 1, .int 1000]) (rest := []) (csC := []) (is := []) ln_Ip_203 w_st_Ip_isWithin ok_Ip_leastCost_Ip_isWithin d_Ip_leastCost_62 (C_Ip_isWithin g ps 1 1000) rfl rfl (Nat.le_of_ble_eq_true rfl) rfl (by decide) (by omega) (by omega) (fun E cs1 hx => ?_) (fun v cs1 hx => ?_)
                  · exact absurd hx.1 (by simp)
                  · obtain ⟨e1, rfl⟩ := hx
                    cases e1
                    refine ⟨rfl, ?_⟩
                    refine r_st (st2 := [.int (if 1 ≤ ps ∧ ps ≤ 1000 then 1 else 0)]) rfl ?_
                    refine r_cs (cs2 := [(a, .inr (11, [.ref pa, .ref ta, .ref sa, .ref gs, .ref co, .ref fu, .ref la, .ref gy, .ref du, .ref re, .ref wm, .ref ac])), (re, .inr (9, [.int p0, .int a0, .int f0]))]) rfl ?_
                    refine r_if_eq (tgt := 80) d_Ip_leastCost_65 (by decide) (fun c_65 => ?_) (fun c_65 => ?_)
                    · exact absurd hw.2.2.2.2.1 (z_b0 c_65)
                    · refine r_iload d_Ip_leastCost_68 6 rfl ?_
                      refine r_iconst d_Ip_leastCost_70 (v := 1) (by decide) ?_
                      refine r_sipush d_Ip_leastCost_71 (v := 1000) (by decide) ?_
                      refine r_callS (As := [.int pa_, .int 1, .int 1000]) (rest := []) (csC := []) (is := []) ln_Ip_203 w_st_Ip_isWithin ok_Ip_leastCost_Ip_isWithin d_Ip_leastCost_74 (C_Ip_isWithin g pa_ 1 1000) rfl rfl (Nat.le_of_ble_eq_true rfl) rfl (by decide) (by omega) (by omega) (fun E cs1 hx => ?_) (fun v cs1 hx => ?_)
                      · exact absurd hx.1 (by simp)
                      · obtain ⟨e1, rfl⟩ := hx
                        cases e1
                        refine ⟨rfl, ?_⟩
                        refine r_st (st2 := [.int (if 1 ≤ pa_ ∧ pa_ ≤ 1000 then 1 else 0)]) rfl ?_
                        refine r_cs (cs2 := [(a, .inr (11, [.ref pa, .ref ta, .ref sa, .ref gs, .ref co, .ref fu, .ref la, .ref gy, .ref du, .ref re, .ref wm, .ref ac])), (re, .inr (9, [.int p0, .int a0, .int f0]))]) rfl ?_
                        refine r_if_ne (tgt := 91) d_Ip_leastCost_77 (by decide) (fun c_77 => ?_) (fun c_77 => ?_)
                        · refine r_aload_n d_Ip_leastCost_91 rfl 0 rfl ?_
                          refine r_get fs_Ip_67 d_Ip_leastCost_92 (q0 := 0) rfl rfl ?_
                          refine r_iload_n d_Ip_leastCost_95 rfl 1 rfl ?_
                          refine r_iload_n d_Ip_leastCost_96 rfl 2 rfl ?_
                          refine r_iload_n d_Ip_leastCost_97 rfl 3 rfl ?_
                          refine r_iload d_Ip_leastCost_98 4 rfl ?_
                          refine r_iload d_Ip_leastCost_100 5 rfl ?_
                          refine r_iload d_Ip_leastCost_102 6 rfl ?_
                          refine r_callV (As := [.int le, .int mo, .int si, .int pp, .int ps, .int pa_]) (rest := []) (csC := [(re, .inr (9, [.int p0, .int a0, .int f0]))]) (is := [1]) (q0 := 1) rfl rfl ln_Ip_374 w_im_Re_search w_se_Re_search ok_Ip_leastCost_Re_search d_Ip_leastCost_104 (C_Re_search g re p0 a0 f0 le mo si pp ps pa_) rfl rfl (Nat.le_of_ble_eq_true rfl) rfl (by decide) (by omega) (by omega) (fun E cs1 hx => ?_) (fun v cs1 hx => ?_)
                          · exact absurd hx.1 (by simp)
                          · obtain ⟨e1, rfl⟩ := hx
                            cases e1
                            refine ⟨rfl, ?_⟩
                            refine r_st (st2 := [.int ((rcO le mo si pp ps pa_ (-1, p0, a0, f0) 11).1)]) rfl ?_
                            refine r_cs (cs2 := [(a, .inr (11, [.ref pa, .ref ta, .ref sa, .ref gs, .ref co, .ref fu, .ref la, .ref gy, .ref du, .ref re, .ref wm, .ref ac])), (re, .inr (9, [.int ((rcO le mo si pp ps pa_ (-1, p0, a0, f0) 11).2.1), .int ((rcO le mo si pp ps pa_ (-1, p0, a0, f0) 11).2.2.1), .int ((rcO le mo si pp ps pa_ (-1, p0, a0, f0) 11).2.2.2)]))]) rfl ?_
                            refine r_istore (lv' := [(7, .int ((rcO le mo si pp ps pa_ (-1, p0, a0, f0) 11).1)), (0, .ref a), (1, .int le), (2, .int mo), (3, .int si), (4, .int pp), (5, .int ps), (6, .int pa_)]) d_Ip_leastCost_107 (by decide) rfl ?_
                            refine r_iload d_Ip_leastCost_109 0 rfl ?_
                            refine r_if_ge (tgt := 125) d_Ip_leastCost_111 (by decide) (fun c_111 => ?_) (fun c_111 => ?_)
                            · refine r_iload d_Ip_leastCost_125 0 rfl ?_
                              refine r_iret d_Ip_leastCost_127 rfl rfl ?_
                              exact ⟨rfl, rfl⟩
                            · exact absurd (Int32.not_le.mp c_111) hs
                        · exact absurd hw.2.2.2.2.2 (z_b0 c_77)
            · exact absurd hw.2.2.1 (z_b0 c_30)
end
section
abbrev M_AL_grow_1 : zM := (⟨"java/util/ArrayList", "grow", "(I)[Ljava/lang/Object;"⟩, prog_40_method_6_code, 4, (Option.some (FieldType.array (FieldType.object "java/lang/Object"))), 4, 144, [])
theorem d_AL_grow_1_0 : decode prog_40_method_6_code 0 = .ok (.aload_n 0, 1) := zo_42 (zd_b zq_prog_40_method_6_code_0 0 rfl rfl rfl)
theorem d_AL_grow_1_1 : decode prog_40_method_6_code 1 = .ok (.getfield 9, 3) := zo_180 (d := 0) (e := 9) (zd_b zq_prog_40_method_6_code_0 1 rfl rfl rfl) (zd_b zq_prog_40_method_6_code_0 2 rfl rfl rfl) (zd_b zq_prog_40_method_6_code_0 3 rfl rfl rfl)
theorem fs_AL_9 : z_fs "java/util/ArrayList" 9 13 1 := ⟨R_AL, "java/util/ArrayList", F_AL, 3, rfl, u_AL, by decide, Or.inl ⟨z_mj2 (i := 51) rfl (by decide +kernel), Or.inl rfl⟩⟩
theorem d_AL_grow_1_4 : decode prog_40_method_6_code 4 = .ok (.arraylength, 1) := zo_190 (zd_b zq_prog_40_method_6_code_0 4 rfl rfl rfl)
theorem d_AL_grow_1_5 : decode prog_40_method_6_code 5 = .ok (.istore_n 2, 1) := zo_61 (zd_b zq_prog_40_method_6_code_0 5 rfl rfl rfl)
theorem d_AL_grow_1_6 : decode prog_40_method_6_code 6 = .ok (.iload_n 2, 1) := zo_28 (zd_b zq_prog_40_method_6_code_0 6 rfl rfl rfl)
theorem d_AL_grow_1_7 : decode prog_40_method_6_code 7 = .ok (.ifCond .gt 13, 3) := zo_157 (d := 0) (e := 13) (zd_b zq_prog_40_method_6_code_0 7 rfl rfl rfl) (zd_b zq_prog_40_method_6_code_0 8 rfl rfl rfl) (zd_b zq_prog_40_method_6_code_0 9 rfl rfl rfl) (by decide +kernel)
theorem d_AL_grow_1_10 : decode prog_40_method_6_code 10 = .ok (.aload_n 0, 1) := zo_42 (zd_b zq_prog_40_method_6_code_0 10 rfl rfl rfl)
theorem d_AL_grow_1_11 : decode prog_40_method_6_code 11 = .ok (.getfield 9, 3) := zo_180 (d := 0) (e := 9) (zd_b zq_prog_40_method_6_code_0 11 rfl rfl rfl) (zd_b zq_prog_40_method_6_code_0 12 rfl rfl rfl) (zd_b zq_prog_40_method_6_code_0 13 rfl rfl rfl)
theorem d_AL_grow_1_14 : decode prog_40_method_6_code 14 = .ok (.getstatic 39, 3) := zo_178 (d := 0) (e := 39) (zd_b zq_prog_40_method_6_code_0 14 rfl rfl rfl) (zd_b zq_prog_40_method_6_code_0 15 rfl rfl rfl) (zd_b zq_prog_40_method_6_code_0 16 rfl rfl rfl)
theorem d_AL_grow_1_17 : decode prog_40_method_6_code 17 = .ok (.if_acmp .eq 28, 3) := zo_165 (d := 0) (e := 28) (zd_b zq_prog_40_method_6_code_0 17 rfl rfl rfl) (zd_b zq_prog_40_method_6_code_0 18 rfl rfl rfl) (zd_b zq_prog_40_method_6_code_0 19 rfl rfl rfl) (by decide +kernel)
theorem d_AL_grow_1_45 : decode prog_40_method_6_code 45 = .ok (.aload_n 0, 1) := zo_42 (zd_b zq_prog_40_method_6_code_1 13 rfl rfl rfl)
theorem d_AL_grow_1_46 : decode prog_40_method_6_code 46 = .ok (.bipush 10, 2) := zo_16 (d := 10) (zd_b zq_prog_40_method_6_code_1 14 rfl rfl rfl) (zd_b zq_prog_40_method_6_code_1 15 rfl rfl rfl) (by decide +kernel)
theorem d_AL_grow_1_48 : decode prog_40_method_6_code 48 = .ok (.iload_n 1, 1) := zo_27 (zd_b zq_prog_40_method_6_code_1 16 rfl rfl rfl)
theorem d_AL_grow_1_49 : decode prog_40_method_6_code 49 = .ok (.invokestatic 79, 3) := zo_184 (d := 0) (e := 79) (zd_b zq_prog_40_method_6_code_1 17 rfl rfl rfl) (zd_b zq_prog_40_method_6_code_1 18 rfl rfl rfl) (zd_b zq_prog_40_method_6_code_1 19 rfl rfl rfl)
theorem ln_AL_79 : Cond.methodLink "java/util/ArrayList" 79 Lib.Math.max.name ∈ z_gw := z_mj6 (i := 91) rfl (by decide +kernel)
theorem d_AL_grow_1_52 : decode prog_40_method_6_code 52 = .ok (.anewarray 7, 3) := zo_189 (d := 0) (e := 7) (zd_b zq_prog_40_method_6_code_1 20 rfl rfl rfl) (zd_b zq_prog_40_method_6_code_1 21 rfl rfl rfl) (zd_b zq_prog_40_method_6_code_1 22 rfl rfl rfl)
theorem lo_AL_7 : Cond.classLink "java/util/ArrayList" 7 "java/lang/Object" ∈ z_gw := z_mj6 (i := 92) rfl (by decide +kernel)
theorem d_AL_grow_1_55 : decode prog_40_method_6_code 55 = .ok (.dup_x1, 1) := zo_90 (zd_b zq_prog_40_method_6_code_1 23 rfl rfl rfl)
theorem d_AL_grow_1_56 : decode prog_40_method_6_code 56 = .ok (.putfield 9, 3) := zo_181 (d := 0) (e := 9) (zd_b zq_prog_40_method_6_code_1 24 rfl rfl rfl) (zd_b zq_prog_40_method_6_code_1 25 rfl rfl rfl) (zd_b zq_prog_40_method_6_code_1 26 rfl rfl rfl)
theorem d_AL_grow_1_59 : decode prog_40_method_6_code 59 = .ok (.areturn, 1) := zo_176 (zd_b zq_prog_40_method_6_code_1 27 rfl rfl rfl)
set_option maxHeartbeats 4000000 in
set_option maxRecDepth 100000 in
theorem C_AL_grow0I (g : zG) (a : Nat) (md : Int32) : CT g M_AL_grow_1 [.ref a, .int 1] [(a, .inr (13, [.int md, .ref (g.2.2 4), .int 0]))] (fun o cs1 => ∃ q, o = .inl (some (.ref q)) ∧ cs1 = [(a, .inr (13, [.int md, .ref q, .int 0])), (q, .inl (5, 10, .inr (.inr (.inr (.inr (fun _ => none))))))]) 1 10 := by
  refine z_of (by decide) rfl (Nat.le_of_ble_eq_true rfl) (fun w0 => ?_)
  refine r_lvE (lv2 := [(0, .ref a), (1, .int 1)]) rfl ?_
  refine r_aload_n d_AL_grow_1_0 rfl 0 rfl ?_
  refine r_get fs_AL_9 d_AL_grow_1_1 (q0 := 0) rfl rfl ?_
  refine r_tlenD d_AL_grow_1_4 ?_
  refine r_istore_n (lv' := [(2, .int 0), (0, .ref a), (1, .int 1)]) d_AL_grow_1_5 rfl (by decide) rfl ?_
  refine r_iload_n d_AL_grow_1_6 rfl 0 rfl ?_
  refine r_if_gt (tgt := 20) d_AL_grow_1_7 (by decide) (fun c_7 => ?_) (fun c_7 => ?_)
  · exact absurd c_7 (by decide)
  · refine r_aload_n d_AL_grow_1_10 rfl 1 rfl ?_
    refine r_get fs_AL_9 d_AL_grow_1_11 (q0 := 0) rfl rfl ?_
    refine r_getsD ls_AL_39 d_AL_grow_1_14 ?_
    refine r_acmp_eq (tgt := 45) d_AL_grow_1_17 (by decide) (fun c_17 => ?_) (fun c_17 => ?_)
    · refine r_aload_n d_AL_grow_1_45 rfl 1 rfl ?_
      refine r_bipush d_AL_grow_1_46 (v := 10) (by decide) ?_
      refine r_iload_n d_AL_grow_1_48 rfl 2 rfl ?_
      refine r_max (v := 10) ln_AL_79 w_mmax w_mi w_cmax d_AL_grow_1_49 (by decide) (by decide) (Nat.le_of_ble_eq_true rfl) rfl ?_
      refine r_anewa (N := 10) lo_AL_7 d_AL_grow_1_52 (by decide) (by decide) (by decide) (by omega) (by omega) (fun q => ?_)
      refine r_cs (cs2 := [(a, .inr (13, [.int md, .ref (g.2.2 4), .int 0])), (q, .inl (5, 10, .inr (.inr (.inr (.inr (fun _ => none))))))]) rfl ?_
      refine r_dupx1 d_AL_grow_1_55 rfl rfl ?_
      refine r_put fp_AL_9 d_AL_grow_1_56 (fun h => nomatch h) rfl rfl (q0 := 0) rfl (Nat.le_of_ble_eq_true rfl) (cs' := [(a, .inr (13, [.int md, .ref q, .int 0])), (q, .inl (5, 10, .inr (.inr (.inr (.inr (fun _ => none))))))]) rfl ?_
      refine r_aret d_AL_grow_1_59 rfl (Or.inr ⟨_, rfl⟩) (Or.inr ⟨_, rfl⟩) ?_
      exact ⟨q, rfl, rfl⟩
    · exact absurd rfl c_17
abbrev M_AL_grow_0 : zM := (⟨"java/util/ArrayList", "grow", "()[Ljava/lang/Object;"⟩, prog_40_method_7_code, 1, (Option.some (FieldType.array (FieldType.object "java/lang/Object"))), 5, 167, [])
theorem d_AL_grow_0_0 : decode prog_40_method_7_code 0 = .ok (.aload_n 0, 1) := zo_42 (zd_b zq_prog_40_method_7_code_0 0 rfl rfl rfl)
theorem d_AL_grow_0_1 : decode prog_40_method_7_code 1 = .ok (.aload_n 0, 1) := zo_42 (zd_b zq_prog_40_method_7_code_0 1 rfl rfl rfl)
theorem d_AL_grow_0_2 : decode prog_40_method_7_code 2 = .ok (.getfield 48, 3) := zo_180 (d := 0) (e := 48) (zd_b zq_prog_40_method_7_code_0 2 rfl rfl rfl) (zd_b zq_prog_40_method_7_code_0 3 rfl rfl rfl) (zd_b zq_prog_40_method_7_code_0 4 rfl rfl rfl)
theorem d_AL_grow_0_5 : decode prog_40_method_7_code 5 = .ok (.iconst 1, 1) := zo_4 (zd_b zq_prog_40_method_7_code_0 5 rfl rfl rfl)
theorem d_AL_grow_0_6 : decode prog_40_method_7_code 6 = .ok (.iadd, 1) := zo_96 (zd_b zq_prog_40_method_7_code_0 6 rfl rfl rfl)
theorem d_AL_grow_0_7 : decode prog_40_method_7_code 7 = .ok (.invokevirtual 69, 3) := zo_182 (d := 0) (e := 69) (zd_b zq_prog_40_method_7_code_0 7 rfl rfl rfl) (zd_b zq_prog_40_method_7_code_0 8 rfl rfl rfl) (zd_b zq_prog_40_method_7_code_0 9 rfl rfl rfl)
theorem ok_AL_grow_0_AL_grow_1 : z_ok M_AL_grow_0 M_AL_grow_1 1 := ⟨z_mj6 (i := 46) rfl (by decide +kernel), rfl, ⟨by decide +kernel, by decide +kernel, by decide +kernel⟩, ⟨by decide, by decide⟩, z_mj1 (i := 13) rfl (by decide +kernel), rfl⟩
theorem ln_AL_69 : Cond.methodLink "java/util/ArrayList" 69 M_AL_grow_1.1 ∈ z_gw := z_mj6 (i := 43) rfl (by decide +kernel)
theorem w_im_AL_grow_1 : Cond.instanceMethod M_AL_grow_1.1 ∈ z_gw := z_mj6 (i := 45) rfl (by decide +kernel)
theorem w_se_AL_grow_1 : Cond.selects M_AL_grow_1.1.cls M_AL_grow_1.1 M_AL_grow_1.1 ∈ z_gw := z_mem (i := 24) (by decide +kernel) (by decide +kernel)
theorem d_AL_grow_0_10 : decode prog_40_method_7_code 10 = .ok (.areturn, 1) := zo_176 (zd_b zq_prog_40_method_7_code_0 10 rfl rfl rfl)
set_option maxHeartbeats 4000000 in
set_option maxRecDepth 100000 in
theorem C_AL_grow0 (g : zG) (a : Nat) (md : Int32) : CT g M_AL_grow_0 [.ref a] [(a, .inr (13, [.int md, .ref (g.2.2 4), .int 0]))] (fun o cs1 => ∃ q, o = .inl (some (.ref q)) ∧ cs1 = [(a, .inr (13, [.int md, .ref q, .int 0])), (q, .inl (5, 10, .inr (.inr (.inr (.inr (fun _ => none))))))]) 1 10 := by
  refine z_of (by decide) rfl (Nat.le_of_ble_eq_true rfl) (fun w0 => ?_)
  refine r_lvE (lv2 := [(0, .ref a)]) rfl ?_
  refine r_aload_n d_AL_grow_0_0 rfl 0 rfl ?_
  refine r_aload_n d_AL_grow_0_1 rfl 0 rfl ?_
  refine r_get fs_AL_48 d_AL_grow_0_2 (q0 := 0) rfl rfl ?_
  refine r_iconst d_AL_grow_0_5 (v := 1) (by decide) ?_
  refine r_iadd d_AL_grow_0_6 (v := 1) rfl ?_
  refine r_callV (As := [.int 1]) (rest := []) (csC := [(a, .inr (13, [.int md, .ref (g.2.2 4), .int 0]))]) (is := [0]) (q0 := 0) rfl rfl ln_AL_69 w_im_AL_grow_1 w_se_AL_grow_1 ok_AL_grow_0_AL_grow_1 d_AL_grow_0_7 (C_AL_grow0I g a md) rfl rfl (Nat.le_of_ble_eq_true rfl) rfl (by decide) (by omega) (by omega) (fun E cs1 hx => ?_) (fun v cs1 hx => ?_)
  · obtain ⟨q, e1, -⟩ := hx
    cases e1
  · obtain ⟨q, e1, rfl⟩ := hx
    cases e1
    refine ⟨rfl, ?_⟩
    refine r_st (st2 := [.ref q]) rfl ?_
    refine r_cs (cs2 := [(a, .inr (13, [.int md, .ref q, .int 0])), (q, .inl (5, 10, .inr (.inr (.inr (.inr (fun _ => none))))))]) rfl ?_
    refine r_aret d_AL_grow_0_10 rfl (Or.inr ⟨_, rfl⟩) (Or.inr ⟨_, rfl⟩) ?_
    exact ⟨q, rfl, rfl⟩
abbrev M_AL_add_1 : zM := (⟨"java/util/ArrayList", "add", "(Ljava/lang/Object;[Ljava/lang/Object;I)V"⟩, prog_40_method_24_code, 4, (Option.none : Option FieldType), 6, 187, [])
theorem d_AL_add_1_0 : decode prog_40_method_24_code 0 = .ok (.iload_n 3, 1) := zo_29 (zd_b zq_prog_40_method_24_code_0 0 rfl rfl rfl)
theorem d_AL_add_1_1 : decode prog_40_method_24_code 1 = .ok (.aload_n 2, 1) := zo_44 (zd_b zq_prog_40_method_24_code_0 1 rfl rfl rfl)
theorem d_AL_add_1_2 : decode prog_40_method_24_code 2 = .ok (.arraylength, 1) := zo_190 (zd_b zq_prog_40_method_24_code_0 2 rfl rfl rfl)
theorem d_AL_add_1_3 : decode prog_40_method_24_code 3 = .ok (.if_icmp .ne 8, 3) := zo_160 (d := 0) (e := 8) (zd_b zq_prog_40_method_24_code_0 3 rfl rfl rfl) (zd_b zq_prog_40_method_24_code_0 4 rfl rfl rfl) (zd_b zq_prog_40_method_24_code_0 5 rfl rfl rfl) (by decide +kernel)
theorem d_AL_add_1_6 : decode prog_40_method_24_code 6 = .ok (.aload_n 0, 1) := zo_42 (zd_b zq_prog_40_method_24_code_0 6 rfl rfl rfl)
theorem d_AL_add_1_7 : decode prog_40_method_24_code 7 = .ok (.invokevirtual 129, 3) := zo_182 (d := 0) (e := 129) (zd_b zq_prog_40_method_24_code_0 7 rfl rfl rfl) (zd_b zq_prog_40_method_24_code_0 8 rfl rfl rfl) (zd_b zq_prog_40_method_24_code_0 9 rfl rfl rfl)
theorem ok_AL_add_1_AL_grow_0 : z_ok M_AL_add_1 M_AL_grow_0 0 := ⟨z_mj6 (i := 42) rfl (by decide +kernel), rfl, ⟨by decide +kernel, by decide +kernel, by decide +kernel⟩, ⟨by decide, by decide⟩, z_mj1 (i := 13) rfl (by decide +kernel), rfl⟩
theorem ln_AL_129 : Cond.methodLink "java/util/ArrayList" 129 M_AL_grow_0.1 ∈ z_gw := z_mj6 (i := 39) rfl (by decide +kernel)
theorem w_im_AL_grow_0 : Cond.instanceMethod M_AL_grow_0.1 ∈ z_gw := z_mj6 (i := 41) rfl (by decide +kernel)
theorem w_se_AL_grow_0 : Cond.selects M_AL_grow_0.1.cls M_AL_grow_0.1 M_AL_grow_0.1 ∈ z_gw := z_mem (i := 23) (by decide +kernel) (by decide +kernel)
theorem d_AL_add_1_10 : decode prog_40_method_24_code 10 = .ok (.astore_n 2, 1) := zo_77 (zd_b zq_prog_40_method_24_code_0 10 rfl rfl rfl)
theorem d_AL_add_1_11 : decode prog_40_method_24_code 11 = .ok (.aload_n 2, 1) := zo_44 (zd_b zq_prog_40_method_24_code_0 11 rfl rfl rfl)
theorem d_AL_add_1_12 : decode prog_40_method_24_code 12 = .ok (.iload_n 3, 1) := zo_29 (zd_b zq_prog_40_method_24_code_0 12 rfl rfl rfl)
theorem d_AL_add_1_13 : decode prog_40_method_24_code 13 = .ok (.aload_n 1, 1) := zo_43 (zd_b zq_prog_40_method_24_code_0 13 rfl rfl rfl)
theorem d_AL_add_1_14 : decode prog_40_method_24_code 14 = .ok (.aastore, 1) := zo_83 (zd_b zq_prog_40_method_24_code_0 14 rfl rfl rfl)
theorem d_AL_add_1_15 : decode prog_40_method_24_code 15 = .ok (.aload_n 0, 1) := zo_42 (zd_b zq_prog_40_method_24_code_0 15 rfl rfl rfl)
theorem d_AL_add_1_16 : decode prog_40_method_24_code 16 = .ok (.iload_n 3, 1) := zo_29 (zd_b zq_prog_40_method_24_code_0 16 rfl rfl rfl)
theorem d_AL_add_1_17 : decode prog_40_method_24_code 17 = .ok (.iconst 1, 1) := zo_4 (zd_b zq_prog_40_method_24_code_0 17 rfl rfl rfl)
theorem d_AL_add_1_18 : decode prog_40_method_24_code 18 = .ok (.iadd, 1) := zo_96 (zd_b zq_prog_40_method_24_code_0 18 rfl rfl rfl)
theorem d_AL_add_1_19 : decode prog_40_method_24_code 19 = .ok (.putfield 48, 3) := zo_181 (d := 0) (e := 48) (zd_b zq_prog_40_method_24_code_0 19 rfl rfl rfl) (zd_b zq_prog_40_method_24_code_0 20 rfl rfl rfl) (zd_b zq_prog_40_method_24_code_0 21 rfl rfl rfl)
theorem fp_AL_48 : z_fp "java/util/ArrayList" 48 13 2 false .int := ⟨R_AL, "java/util/ArrayList", F_AL, 3, t_AL, rfl, u_AL, by decide, t_AL_ok, n_AL, rfl, rfl, Or.inl ⟨z_mj2 (i := 52) rfl (by decide +kernel), Or.inl rfl, fun h => nomatch h⟩⟩
theorem d_AL_add_1_22 : decode prog_40_method_24_code 22 = .ok (.return_, 1) := zo_177 (zd_b zq_prog_40_method_24_code_0 22 rfl rfl rfl)
set_option maxHeartbeats 4000000 in
set_option maxRecDepth 100000 in
theorem C_AL_addA0 (g : zG) (a v : Nat) (md : Int32) (ek : zE) (ho : z_ob ek) : CT g M_AL_add_1 [.ref a, .ref v, .ref (g.2.2 4), .int 0] [(a, .inr (13, [.int md, .ref (g.2.2 4), .int 0])), (v, ek)] (fun o cs1 => ∃ q, o = .inl none ∧ cs1 = [(a, .inr (13, [.int md, .ref q, .int 1])), (v, ek), (q, .inl (5, 10, .inr (.inr (.inr (.inr (va_up (fun _ => none) 0 (some v)))))))]) 1 10 := by
  refine z_of (by decide) rfl (Nat.le_of_ble_eq_true rfl) (fun w0 => ?_)
  refine r_lvE (lv2 := [(0, .ref a), (1, .ref v), (2, .ref (g.2.2 4)), (3, .int 0)]) rfl ?_
  refine r_iload_n d_AL_add_1_0 rfl 3 rfl ?_
  refine r_aload_n d_AL_add_1_1 rfl 2 rfl ?_
  refine r_tlenD d_AL_add_1_2 ?_
  refine r_icmp_ne (tgt := 11) d_AL_add_1_3 (by decide) (fun c_3 => ?_) (fun c_3 => ?_)
  · exact absurd c_3 (by decide)
  · refine r_aload_n d_AL_add_1_6 rfl 0 rfl ?_
    refine r_callV (As := []) (rest := []) (csC := [(a, .inr (13, [.int md, .ref (g.2.2 4), .int 0]))]) (is := [0]) (q0 := 0) rfl rfl ln_AL_129 w_im_AL_grow_0 w_se_AL_grow_0 ok_AL_add_1_AL_grow_0 d_AL_add_1_7 (C_AL_grow0 g a md) rfl rfl (Nat.le_of_ble_eq_true rfl) rfl (by decide) (by omega) (by omega) (fun E cs1 hx => ?_) (fun v cs1 hx => ?_)
    · obtain ⟨q, e1, -⟩ := hx
      cases e1
    · obtain ⟨q, e1, rfl⟩ := hx
      cases e1
      refine ⟨rfl, ?_⟩
      refine r_st (st2 := [.ref q]) rfl ?_
      refine r_cs (cs2 := [(a, .inr (13, [.int md, .ref q, .int 0])), (v, ek), (q, .inl (5, 10, .inr (.inr (.inr (.inr (fun _ => none))))))]) rfl ?_
      refine r_astore_n (lv' := [(2, .ref q), (0, .ref a), (1, .ref v), (3, .int 0)]) d_AL_add_1_10 rfl (by decide) rfl ?_
      refine r_aload_n d_AL_add_1_11 rfl 0 rfl ?_
      refine r_iload_n d_AL_add_1_12 rfl 3 rfl ?_
      refine r_aload_n d_AL_add_1_13 rfl 2 rfl ?_
      refine r_aast d_AL_add_1_14 (q0 := 2) (qk := 1) rfl rfl ho (fun q => q.elim (by decide) (by decide)) (f' := va_up (fun _ => none) 0 (some v)) rfl (cs' := [(a, .inr (13, [.int md, .ref q, .int 0])), (v, ek), (q, .inl (5, 10, .inr (.inr (.inr (.inr (va_up (fun _ => none) 0 (some v)))))))]) rfl ?_
      refine r_aload_n d_AL_add_1_15 rfl 1 rfl ?_
      refine r_iload_n d_AL_add_1_16 rfl 3 rfl ?_
      refine r_iconst d_AL_add_1_17 (v := 1) (by decide) ?_
      refine r_iadd d_AL_add_1_18 (v := 1) rfl ?_
      refine r_put fp_AL_48 d_AL_add_1_19 (fun h => nomatch h) rfl rfl (q0 := 0) rfl (Nat.le_of_ble_eq_true rfl) (cs' := [(a, .inr (13, [.int md, .ref q, .int 1])), (v, ek), (q, .inl (5, 10, .inr (.inr (.inr (.inr (va_up (fun _ => none) 0 (some v)))))))]) rfl ?_
      refine r_vret d_AL_add_1_22 rfl ?_
      exact ⟨q, rfl, rfl⟩
abbrev M_AL_add_0 : zM := (⟨"java/util/ArrayList", "add", "(Ljava/lang/Object;)Z"⟩, prog_40_method_25_code, 2, (Option.some FieldType.boolean), 7, 210, [])
theorem d_AL_add_0_0 : decode prog_40_method_25_code 0 = .ok (.aload_n 0, 1) := zo_42 (zd_b zq_prog_40_method_25_code_0 0 rfl rfl rfl)
theorem d_AL_add_0_1 : decode prog_40_method_25_code 1 = .ok (.dup, 1) := zo_89 (zd_b zq_prog_40_method_25_code_0 1 rfl rfl rfl)
theorem d_AL_add_0_2 : decode prog_40_method_25_code 2 = .ok (.getfield 63, 3) := zo_180 (d := 0) (e := 63) (zd_b zq_prog_40_method_25_code_0 2 rfl rfl rfl) (zd_b zq_prog_40_method_25_code_0 3 rfl rfl rfl) (zd_b zq_prog_40_method_25_code_0 4 rfl rfl rfl)
theorem fs_AL_63 : z_fs "java/util/ArrayList" 63 13 0 := ⟨R_AL, "java/util/ArrayList", F_AL, 3, rfl, u_AL, by decide, Or.inl ⟨z_mj2 (i := 54) rfl (by decide +kernel), Or.inr (z_mj2 (i := 55) rfl (by decide +kernel))⟩⟩
theorem d_AL_add_0_5 : decode prog_40_method_25_code 5 = .ok (.iconst 1, 1) := zo_4 (zd_b zq_prog_40_method_25_code_0 5 rfl rfl rfl)
theorem d_AL_add_0_6 : decode prog_40_method_25_code 6 = .ok (.iadd, 1) := zo_96 (zd_b zq_prog_40_method_25_code_0 6 rfl rfl rfl)
theorem d_AL_add_0_7 : decode prog_40_method_25_code 7 = .ok (.putfield 63, 3) := zo_181 (d := 0) (e := 63) (zd_b zq_prog_40_method_25_code_0 7 rfl rfl rfl) (zd_b zq_prog_40_method_25_code_0 8 rfl rfl rfl) (zd_b zq_prog_40_method_25_code_0 9 rfl rfl rfl)
theorem fp_AL_63 : z_fp "java/util/ArrayList" 63 13 0 false .int := ⟨R_AL, "java/util/ArrayList", F_AL, 3, t_AL, rfl, u_AL, by decide, t_AL_ok, n_AL, rfl, rfl, Or.inl ⟨z_mj2 (i := 54) rfl (by decide +kernel), Or.inr (z_mj2 (i := 55) rfl (by decide +kernel)), fun h => nomatch h⟩⟩
theorem d_AL_add_0_10 : decode prog_40_method_25_code 10 = .ok (.aload_n 0, 1) := zo_42 (zd_b zq_prog_40_method_25_code_0 10 rfl rfl rfl)
theorem d_AL_add_0_11 : decode prog_40_method_25_code 11 = .ok (.aload_n 1, 1) := zo_43 (zd_b zq_prog_40_method_25_code_0 11 rfl rfl rfl)
theorem d_AL_add_0_12 : decode prog_40_method_25_code 12 = .ok (.aload_n 0, 1) := zo_42 (zd_b zq_prog_40_method_25_code_0 12 rfl rfl rfl)
theorem d_AL_add_0_13 : decode prog_40_method_25_code 13 = .ok (.getfield 9, 3) := zo_180 (d := 0) (e := 9) (zd_b zq_prog_40_method_25_code_0 13 rfl rfl rfl) (zd_b zq_prog_40_method_25_code_0 14 rfl rfl rfl) (zd_b zq_prog_40_method_25_code_0 15 rfl rfl rfl)
theorem d_AL_add_0_16 : decode prog_40_method_25_code 16 = .ok (.aload_n 0, 1) := zo_42 (zd_b zq_prog_40_method_25_code_0 16 rfl rfl rfl)
theorem d_AL_add_0_17 : decode prog_40_method_25_code 17 = .ok (.getfield 48, 3) := zo_180 (d := 0) (e := 48) (zd_b zq_prog_40_method_25_code_0 17 rfl rfl rfl) (zd_b zq_prog_40_method_25_code_0 18 rfl rfl rfl) (zd_b zq_prog_40_method_25_code_0 19 rfl rfl rfl)
theorem d_AL_add_0_20 : decode prog_40_method_25_code 20 = .ok (.invokevirtual 131, 3) := zo_182 (d := 0) (e := 131) (zd_b zq_prog_40_method_25_code_0 20 rfl rfl rfl) (zd_b zq_prog_40_method_25_code_0 21 rfl rfl rfl) (zd_b zq_prog_40_method_25_code_0 22 rfl rfl rfl)
theorem ok_AL_add_0_AL_add_1 : z_ok M_AL_add_0 M_AL_add_1 3 := ⟨z_mj6 (i := 38) rfl (by decide +kernel), rfl, ⟨by decide +kernel, by decide +kernel, by decide +kernel⟩, ⟨by decide, by decide⟩, z_mj1 (i := 13) rfl (by decide +kernel), rfl⟩
theorem ln_AL_131 : Cond.methodLink "java/util/ArrayList" 131 M_AL_add_1.1 ∈ z_gw := z_mj6 (i := 35) rfl (by decide +kernel)
theorem w_im_AL_add_1 : Cond.instanceMethod M_AL_add_1.1 ∈ z_gw := z_mj6 (i := 37) rfl (by decide +kernel)
theorem w_se_AL_add_1 : Cond.selects M_AL_add_1.1.cls M_AL_add_1.1 M_AL_add_1.1 ∈ z_gw := z_mem (i := 22) (by decide +kernel) (by decide +kernel)
theorem d_AL_add_0_23 : decode prog_40_method_25_code 23 = .ok (.iconst 1, 1) := zo_4 (zd_b zq_prog_40_method_25_code_0 23 rfl rfl rfl)
theorem d_AL_add_0_24 : decode prog_40_method_25_code 24 = .ok (.ireturn, 1) := zo_172 (zd_b zq_prog_40_method_25_code_0 24 rfl rfl rfl)
set_option maxHeartbeats 4000000 in
set_option maxRecDepth 100000 in
theorem C_AL_add0 (g : zG) (a v : Nat) (md : Int32) (ek : zE) (ho : z_ob ek) : CT g M_AL_add_0 [.ref a, .ref v] [(a, .inr (13, [.int md, .ref (g.2.2 4), .int 0])), (v, ek)] (fun o cs1 => ∃ q, o = .inl (some (.int 1)) ∧ cs1 = [(a, .inr (13, [.int (md + 1), .ref q, .int 1])), (v, ek), (q, .inl (5, 10, .inr (.inr (.inr (.inr (va_up (fun _ => none) 0 (some v)))))))]) 1 10 := by
  refine z_of (by decide) rfl (Nat.le_of_ble_eq_true rfl) (fun w0 => ?_)
  refine r_lvE (lv2 := [(0, .ref a), (1, .ref v)]) rfl ?_
  refine r_aload_n d_AL_add_0_0 rfl 0 rfl ?_
  refine r_dup d_AL_add_0_1 rfl ?_
  refine r_get fs_AL_63 d_AL_add_0_2 (q0 := 0) rfl rfl ?_
  refine r_iconst d_AL_add_0_5 (v := 1) (by decide) ?_
  refine r_iadd d_AL_add_0_6 (v := md + 1) rfl ?_
  refine r_put fp_AL_63 d_AL_add_0_7 (fun h => nomatch h) rfl rfl (q0 := 0) rfl (Nat.le_of_ble_eq_true rfl) (cs' := [(a, .inr (13, [.int (md + 1), .ref (g.2.2 4), .int 0])), (v, ek)]) rfl ?_
  refine r_aload_n d_AL_add_0_10 rfl 0 rfl ?_
  refine r_aload_n d_AL_add_0_11 rfl 1 rfl ?_
  refine r_aload_n d_AL_add_0_12 rfl 0 rfl ?_
  refine r_get fs_AL_9 d_AL_add_0_13 (q0 := 0) rfl rfl ?_
  refine r_aload_n d_AL_add_0_16 rfl 0 rfl ?_
  refine r_get fs_AL_48 d_AL_add_0_17 (q0 := 0) rfl rfl ?_
  refine r_callV (As := [.ref v, .ref (g.2.2 4), .int 0]) (rest := []) (csC := [(a, .inr (13, [.int (md + 1), .ref (g.2.2 4), .int 0])), (v, ek)]) (is := [0, 1]) (q0 := 0) rfl rfl ln_AL_131 w_im_AL_add_1 w_se_AL_add_1 ok_AL_add_0_AL_add_1 d_AL_add_0_20 (C_AL_addA0 g a v (md + 1) ek ho) rfl rfl (Nat.le_of_ble_eq_true rfl) rfl (by decide) (by omega) (by omega) (fun E cs1 hx => ?_) (fun v cs1 hx => ?_)
  · obtain ⟨q, e1, -⟩ := hx
    cases e1
  · obtain ⟨q, e1, rfl⟩ := hx
    cases e1
    refine ⟨rfl, ?_⟩
    refine r_st (st2 := []) rfl ?_
    refine r_cs (cs2 := [(a, .inr (13, [.int (md + 1), .ref q, .int 1])), (v, ek), (q, .inl (5, 10, .inr (.inr (.inr (.inr (va_up (fun _ => none) 0 (some v)))))))]) rfl ?_
    refine r_iconst d_AL_add_0_23 (v := 1) (by decide) ?_
    refine r_iret d_AL_add_0_24 rfl rfl ?_
    exact ⟨q, rfl, rfl⟩
abbrev M_Preconditions_checkIndex : zM := (⟨"jdk/internal/util/Preconditions", "checkIndex", "(IILjava/util/function/BiFunction;)I"⟩, prog_49_method_11_code, 3, (Option.some FieldType.int), 1, 20, [])
theorem d_Preconditions_checkIndex_0 : decode prog_49_method_11_code 0 = .ok (.iload_n 0, 1) := zo_26 (zd_b zq_prog_49_method_11_code_0 0 rfl rfl rfl)
theorem d_Preconditions_checkIndex_1 : decode prog_49_method_11_code 1 = .ok (.ifCond .lt 8, 3) := zo_155 (d := 0) (e := 8) (zd_b zq_prog_49_method_11_code_0 1 rfl rfl rfl) (zd_b zq_prog_49_method_11_code_0 2 rfl rfl rfl) (zd_b zq_prog_49_method_11_code_0 3 rfl rfl rfl) (by decide +kernel)
theorem d_Preconditions_checkIndex_4 : decode prog_49_method_11_code 4 = .ok (.iload_n 0, 1) := zo_26 (zd_b zq_prog_49_method_11_code_0 4 rfl rfl rfl)
theorem d_Preconditions_checkIndex_5 : decode prog_49_method_11_code 5 = .ok (.iload_n 1, 1) := zo_27 (zd_b zq_prog_49_method_11_code_0 5 rfl rfl rfl)
theorem d_Preconditions_checkIndex_6 : decode prog_49_method_11_code 6 = .ok (.if_icmp .lt 10, 3) := zo_161 (d := 0) (e := 10) (zd_b zq_prog_49_method_11_code_0 6 rfl rfl rfl) (zd_b zq_prog_49_method_11_code_0 7 rfl rfl rfl) (zd_b zq_prog_49_method_11_code_0 8 rfl rfl rfl) (by decide +kernel)
theorem d_Preconditions_checkIndex_16 : decode prog_49_method_11_code 16 = .ok (.iload_n 0, 1) := zo_26 (zd_b zq_prog_49_method_11_code_0 16 rfl rfl rfl)
theorem d_Preconditions_checkIndex_17 : decode prog_49_method_11_code 17 = .ok (.ireturn, 1) := zo_172 (zd_b zq_prog_49_method_11_code_0 17 rfl rfl rfl)
set_option maxHeartbeats 4000000 in
set_option maxRecDepth 100000 in
theorem C_Pr_checkIndex (g : zG) (x sz : Int32) (h0 : ¬ x < 0) (h1 : x < sz) : CT g M_Preconditions_checkIndex [.int x, .int sz, .null] [] (fun o cs1 => o = .inl (some (.int x)) ∧ cs1 = []) 0 0 := by
  refine z_of (by decide) rfl (Nat.le_of_ble_eq_true rfl) (fun w0 => ?_)
  refine r_lvE (lv2 := [(0, .int x), (1, .int sz), (2, .null)]) rfl ?_
  refine r_iload_n d_Preconditions_checkIndex_0 rfl 0 rfl ?_
  refine r_if_lt (tgt := 9) d_Preconditions_checkIndex_1 (by decide) (fun c_1 => ?_) (fun c_1 => ?_)
  · exact absurd c_1 h0
  · refine r_iload_n d_Preconditions_checkIndex_4 rfl 0 rfl ?_
    refine r_iload_n d_Preconditions_checkIndex_5 rfl 1 rfl ?_
    refine r_icmp_lt (tgt := 16) d_Preconditions_checkIndex_6 (by decide) (fun c_6 => ?_) (fun c_6 => ?_)
    · refine r_iload_n d_Preconditions_checkIndex_16 rfl 0 rfl ?_
      refine r_iret d_Preconditions_checkIndex_17 rfl rfl ?_
      exact ⟨rfl, rfl⟩
    · exact absurd h1 c_6
abbrev M_Objects_checkIndex : zM := (⟨"java/util/Objects", "checkIndex", "(II)I"⟩, prog_45_method_17_code, 2, (Option.some FieldType.int), 2, 42, [])
theorem d_Objects_checkIndex_0 : decode prog_45_method_17_code 0 = .ok (.iload_n 0, 1) := zo_26 (zd_b zq_prog_45_method_17_code_0 0 rfl rfl rfl)
theorem d_Objects_checkIndex_1 : decode prog_45_method_17_code 1 = .ok (.iload_n 1, 1) := zo_27 (zd_b zq_prog_45_method_17_code_0 1 rfl rfl rfl)
theorem d_Objects_checkIndex_2 : decode prog_45_method_17_code 2 = .ok (.aconst_null, 1) := zo_1 (zd_b zq_prog_45_method_17_code_0 2 rfl rfl rfl)
theorem d_Objects_checkIndex_3 : decode prog_45_method_17_code 3 = .ok (.invokestatic 105, 3) := zo_184 (d := 0) (e := 105) (zd_b zq_prog_45_method_17_code_0 3 rfl rfl rfl) (zd_b zq_prog_45_method_17_code_0 4 rfl rfl rfl) (zd_b zq_prog_45_method_17_code_0 5 rfl rfl rfl)
theorem ok_Objects_checkIndex_Preconditions_checkIndex : z_ok M_Objects_checkIndex M_Preconditions_checkIndex 3 := ⟨z_mj2 (i := 186) rfl (by decide +kernel), rfl, ⟨by decide +kernel, by decide +kernel, by decide +kernel⟩, ⟨by decide, by decide⟩, z_mj1 (i := 19) rfl (by decide +kernel), rfl⟩
theorem ln_Objects_105 : Cond.methodLink "java/util/Objects" 105 M_Preconditions_checkIndex.1 ∈ z_gw := z_mj2 (i := 184) rfl (by decide +kernel)
theorem w_st_Preconditions_checkIndex : Cond.static M_Preconditions_checkIndex.1 ∈ z_gw := z_mj2 (i := 185) rfl (by decide +kernel)
theorem d_Objects_checkIndex_6 : decode prog_45_method_17_code 6 = .ok (.ireturn, 1) := zo_172 (zd_b zq_prog_45_method_17_code_0 6 rfl rfl rfl)
set_option maxHeartbeats 4000000 in
set_option maxRecDepth 100000 in
theorem C_Ob_checkIndex (g : zG) (x sz : Int32) (h0 : ¬ x < 0) (h1 : x < sz) : CT g M_Objects_checkIndex [.int x, .int sz] [] (fun o cs1 => o = .inl (some (.int x)) ∧ cs1 = []) 0 0 := by
  refine z_of (by decide) rfl (Nat.le_of_ble_eq_true rfl) (fun w0 => ?_)
  refine r_lvE (lv2 := [(0, .int x), (1, .int sz)]) rfl ?_
  refine r_iload_n d_Objects_checkIndex_0 rfl 0 rfl ?_
  refine r_iload_n d_Objects_checkIndex_1 rfl 1 rfl ?_
  refine r_null d_Objects_checkIndex_2 ?_
  refine r_callS (As := [.int x, .int sz, .null]) (rest := []) (csC := []) (is := []) ln_Objects_105 w_st_Preconditions_checkIndex ok_Objects_checkIndex_Preconditions_checkIndex d_Objects_checkIndex_3 (C_Pr_checkIndex g x sz h0 h1) rfl rfl (Nat.le_of_ble_eq_true rfl) rfl (by decide) (by omega) (by omega) (fun E cs1 hx => ?_) (fun v cs1 hx => ?_)
  · exact absurd hx.1 (by simp)
  · obtain ⟨e1, rfl⟩ := hx
    cases e1
    refine ⟨rfl, ?_⟩
    refine r_st (st2 := [.int x]) rfl ?_
    refine r_cs (cs2 := []) rfl ?_
    refine r_iret d_Objects_checkIndex_6 rfl rfl ?_
    exact ⟨rfl, rfl⟩
abbrev M_AL_elementData : zM := (⟨"java/util/ArrayList", "elementData", "(I)Ljava/lang/Object;"⟩, prog_40_method_18_code, 2, (Option.some (FieldType.object "java/lang/Object")), 1, 20, [])
theorem d_AL_elementData_0 : decode prog_40_method_18_code 0 = .ok (.aload_n 0, 1) := zo_42 (zd_b zq_prog_40_method_18_code_0 0 rfl rfl rfl)
theorem d_AL_elementData_1 : decode prog_40_method_18_code 1 = .ok (.getfield 9, 3) := zo_180 (d := 0) (e := 9) (zd_b zq_prog_40_method_18_code_0 1 rfl rfl rfl) (zd_b zq_prog_40_method_18_code_0 2 rfl rfl rfl) (zd_b zq_prog_40_method_18_code_0 3 rfl rfl rfl)
theorem d_AL_elementData_4 : decode prog_40_method_18_code 4 = .ok (.iload_n 1, 1) := zo_27 (zd_b zq_prog_40_method_18_code_0 4 rfl rfl rfl)
theorem d_AL_elementData_5 : decode prog_40_method_18_code 5 = .ok (.aaload, 1) := zo_50 (zd_b zq_prog_40_method_18_code_0 5 rfl rfl rfl)
theorem d_AL_elementData_6 : decode prog_40_method_18_code 6 = .ok (.areturn, 1) := zo_176 (zd_b zq_prog_40_method_18_code_0 6 rfl rfl rfl)
set_option maxHeartbeats 4000000 in
set_option maxRecDepth 100000 in
theorem C_AL_elementData (g : zG) (a dd N : Nat) (md sz : Int32) (f : Nat → Option Nat) (x : Int32) (v : Nat) (hin : vp_in x N) (hv : f x.toNatClampNeg = some v) : CT g M_AL_elementData [.ref a, .int x] [(a, .inr (13, [.int md, .ref dd, .int sz])), (dd, .inl (5, N, .inr (.inr (.inr (.inr f)))))] (fun o cs1 => o = .inl (some (.ref v)) ∧ cs1 = [(a, .inr (13, [.int md, .ref dd, .int sz])), (dd, .inl (5, N, .inr (.inr (.inr (.inr f)))))]) 0 0 := by
  refine z_of (by decide) rfl (Nat.le_of_ble_eq_true rfl) (fun w0 => ?_)
  refine r_lvE (lv2 := [(0, .ref a), (1, .int x)]) rfl ?_
  refine r_aload_n d_AL_elementData_0 rfl 0 rfl ?_
  refine r_get fs_AL_9 d_AL_elementData_1 (q0 := 0) rfl rfl ?_
  refine r_iload_n d_AL_elementData_4 rfl 1 rfl ?_
  refine r_aald d_AL_elementData_5 (q0 := 1) rfl hin (v := .ref v) (by rw [hv]; rfl) ?_
  refine r_aret d_AL_elementData_6 rfl (Or.inl ⟨_, rfl⟩) (Or.inr ⟨_, rfl⟩) ?_
  exact ⟨rfl, rfl⟩
abbrev M_AL_get : zM := (⟨"java/util/ArrayList", "get", "(I)Ljava/lang/Object;"⟩, prog_40_method_20_code, 2, (Option.some (FieldType.object "java/lang/Object")), 3, 63, [])
theorem d_AL_get_0 : decode prog_40_method_20_code 0 = .ok (.iload_n 1, 1) := zo_27 (zd_b zq_prog_40_method_20_code_0 0 rfl rfl rfl)
theorem d_AL_get_1 : decode prog_40_method_20_code 1 = .ok (.aload_n 0, 1) := zo_42 (zd_b zq_prog_40_method_20_code_0 1 rfl rfl rfl)
theorem d_AL_get_2 : decode prog_40_method_20_code 2 = .ok (.getfield 48, 3) := zo_180 (d := 0) (e := 48) (zd_b zq_prog_40_method_20_code_0 2 rfl rfl rfl) (zd_b zq_prog_40_method_20_code_0 3 rfl rfl rfl) (zd_b zq_prog_40_method_20_code_0 4 rfl rfl rfl)
theorem d_AL_get_5 : decode prog_40_method_20_code 5 = .ok (.invokestatic 118, 3) := zo_184 (d := 0) (e := 118) (zd_b zq_prog_40_method_20_code_0 5 rfl rfl rfl) (zd_b zq_prog_40_method_20_code_0 6 rfl rfl rfl) (zd_b zq_prog_40_method_20_code_0 7 rfl rfl rfl)
theorem ok_AL_get_Objects_checkIndex : z_ok M_AL_get M_Objects_checkIndex 2 := ⟨z_mj2 (i := 183) rfl (by decide +kernel), rfl, ⟨by decide +kernel, by decide +kernel, by decide +kernel⟩, ⟨by decide, by decide⟩, z_mj1 (i := 32) rfl (by decide +kernel), rfl⟩
theorem ln_AL_118 : Cond.methodLink "java/util/ArrayList" 118 M_Objects_checkIndex.1 ∈ z_gw := z_mj2 (i := 181) rfl (by decide +kernel)
theorem w_st_Objects_checkIndex : Cond.static M_Objects_checkIndex.1 ∈ z_gw := z_mj2 (i := 182) rfl (by decide +kernel)
theorem d_AL_get_8 : decode prog_40_method_20_code 8 = .ok (.pop, 1) := zo_87 (zd_b zq_prog_40_method_20_code_0 8 rfl rfl rfl)
theorem d_AL_get_9 : decode prog_40_method_20_code 9 = .ok (.aload_n 0, 1) := zo_42 (zd_b zq_prog_40_method_20_code_0 9 rfl rfl rfl)
theorem d_AL_get_10 : decode prog_40_method_20_code 10 = .ok (.iload_n 1, 1) := zo_27 (zd_b zq_prog_40_method_20_code_0 10 rfl rfl rfl)
theorem d_AL_get_11 : decode prog_40_method_20_code 11 = .ok (.invokevirtual 123, 3) := zo_182 (d := 0) (e := 123) (zd_b zq_prog_40_method_20_code_0 11 rfl rfl rfl) (zd_b zq_prog_40_method_20_code_0 12 rfl rfl rfl) (zd_b zq_prog_40_method_20_code_0 13 rfl rfl rfl)
theorem ok_AL_get_AL_elementData : z_ok M_AL_get M_AL_elementData 1 := ⟨z_mj2 (i := 190) rfl (by decide +kernel), rfl, ⟨by decide +kernel, by decide +kernel, by decide +kernel⟩, ⟨by decide, by decide⟩, z_mj1 (i := 13) rfl (by decide +kernel), rfl⟩
theorem ln_AL_123 : Cond.methodLink "java/util/ArrayList" 123 M_AL_elementData.1 ∈ z_gw := z_mj2 (i := 187) rfl (by decide +kernel)
theorem w_im_AL_elementData : Cond.instanceMethod M_AL_elementData.1 ∈ z_gw := z_mj2 (i := 188) rfl (by decide +kernel)
theorem w_se_AL_elementData : Cond.selects M_AL_elementData.1.cls M_AL_elementData.1 M_AL_elementData.1 ∈ z_gw := z_mj2 (i := 189) rfl (by decide +kernel)
theorem d_AL_get_14 : decode prog_40_method_20_code 14 = .ok (.areturn, 1) := zo_176 (zd_b zq_prog_40_method_20_code_0 14 rfl rfl rfl)
set_option maxHeartbeats 4000000 in
set_option maxRecDepth 100000 in
theorem C_AL_get (g : zG) (a dd N : Nat) (md sz : Int32) (f : Nat → Option Nat) (x : Int32) (v : Nat) (hin : vp_in x N) (hv : f x.toNatClampNeg = some v) (h0 : ¬ x < 0) (h1 : x < sz) : CT g M_AL_get [.ref a, .int x] [(a, .inr (13, [.int md, .ref dd, .int sz])), (dd, .inl (5, N, .inr (.inr (.inr (.inr f)))))] (fun o cs1 => o = .inl (some (.ref v)) ∧ cs1 = [(a, .inr (13, [.int md, .ref dd, .int sz])), (dd, .inl (5, N, .inr (.inr (.inr (.inr f)))))]) 0 0 := by
  refine z_of (by decide) rfl (Nat.le_of_ble_eq_true rfl) (fun w0 => ?_)
  refine r_lvE (lv2 := [(0, .ref a), (1, .int x)]) rfl ?_
  refine r_iload_n d_AL_get_0 rfl 1 rfl ?_
  refine r_aload_n d_AL_get_1 rfl 0 rfl ?_
  refine r_get fs_AL_48 d_AL_get_2 (q0 := 0) rfl rfl ?_
  refine r_callS (As := [.int x, .int sz]) (rest := []) (csC := []) (is := []) ln_AL_118 w_st_Objects_checkIndex ok_AL_get_Objects_checkIndex d_AL_get_5 (C_Ob_checkIndex g x sz h0 h1) rfl rfl (Nat.le_of_ble_eq_true rfl) rfl (by decide) (by omega) (by omega) (fun E cs1 hx => ?_) (fun v cs1 hx => ?_)
  · exact absurd hx.1 (by simp)
  · obtain ⟨e1, rfl⟩ := hx
    cases e1
    refine ⟨rfl, ?_⟩
    refine r_st (st2 := [.int x]) rfl ?_
    refine r_cs (cs2 := [(a, .inr (13, [.int md, .ref dd, .int sz])), (dd, .inl (5, N, .inr (.inr (.inr (.inr f)))))]) rfl ?_
    refine r_pop d_AL_get_8 rfl ?_
    refine r_aload_n d_AL_get_9 rfl 0 rfl ?_
    refine r_iload_n d_AL_get_10 rfl 1 rfl ?_
    refine r_callV (As := [.int x]) (rest := []) (csC := [(a, .inr (13, [.int md, .ref dd, .int sz])), (dd, .inl (5, N, .inr (.inr (.inr (.inr f)))))]) (is := [0, 1]) (q0 := 0) rfl rfl ln_AL_123 w_im_AL_elementData w_se_AL_elementData ok_AL_get_AL_elementData d_AL_get_11 (C_AL_elementData g a dd N md sz f x v hin hv) rfl rfl (Nat.le_of_ble_eq_true rfl) rfl (by decide) (by omega) (by omega) (fun E cs1 hx => ?_) (fun v cs1 hx => ?_)
    · exact absurd hx.1 (by simp)
    · obtain ⟨e1, rfl⟩ := hx
      cases e1
      refine ⟨rfl, ?_⟩
      refine r_st (st2 := [.ref v]) rfl ?_
      refine r_cs (cs2 := [(a, .inr (13, [.int md, .ref dd, .int sz])), (dd, .inl (5, N, .inr (.inr (.inr (.inr f)))))]) rfl ?_
      refine r_aret d_AL_get_14 rfl (Or.inl ⟨_, rfl⟩) (Or.inr ⟨_, rfl⟩) ?_
      exact ⟨rfl, rfl⟩
end
