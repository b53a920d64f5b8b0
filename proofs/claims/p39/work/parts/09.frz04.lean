theorem d_Fz_pass_22 : decode prog_4_method_5_code 22 = .ok (.bipush 11, 2) := zo_16 (d := 11) (zd_b zq_prog_4_method_5_code_0 22 rfl rfl rfl) (zd_b zq_prog_4_method_5_code_0 23 rfl rfl rfl) (by decide +kernel)
theorem d_Fz_pass_24 : decode prog_4_method_5_code 24 = .ok (.if_icmp .ge 17, 3) := zo_162 (d := 0) (e := 17) (zd_b zq_prog_4_method_5_code_0 24 rfl rfl rfl) (zd_b zq_prog_4_method_5_code_0 25 rfl rfl rfl) (zd_b zq_prog_4_method_5_code_0 26 rfl rfl rfl) (by decide +kernel)
theorem d_Fz_pass_41 : decode prog_4_method_5_code 41 = .ok (.iload_n 2, 1) := zo_28 (zd_b zq_prog_4_method_5_code_1 9 rfl rfl rfl)
theorem d_Fz_pass_42 : decode prog_4_method_5_code 42 = .ok (.bipush 96, 2) := zo_16 (d := 96) (zd_b zq_prog_4_method_5_code_1 10 rfl rfl rfl) (zd_b zq_prog_4_method_5_code_1 11 rfl rfl rfl) (by decide +kernel)
theorem d_Fz_pass_44 : decode prog_4_method_5_code 44 = .ok (.if_icmp .ge 18, 3) := zo_162 (d := 0) (e := 18) (zd_b zq_prog_4_method_5_code_1 12 rfl rfl rfl) (zd_b zq_prog_4_method_5_code_1 13 rfl rfl rfl) (zd_b zq_prog_4_method_5_code_1 14 rfl rfl rfl) (by decide +kernel)
theorem d_Fz_pass_62 : decode prog_4_method_5_code 62 = .ok (.iload_n 3, 1) := zo_29 (zd_b zq_prog_4_method_5_code_1 30 rfl rfl rfl)
theorem d_Fz_pass_63 : decode prog_4_method_5_code 63 = .ok (.ifCond .eq 9, 3) := zo_153 (d := 0) (e := 9) (zd_b zq_prog_4_method_5_code_1 31 rfl rfl rfl) (zd_b zq_prog_4_method_5_code_2 0 rfl rfl rfl) (zd_b zq_prog_4_method_5_code_2 1 rfl rfl rfl) (by decide +kernel)
theorem d_Fz_pass_72 : decode prog_4_method_5_code 72 = .ok (.aload_n 0, 1) := zo_42 (zd_b zq_prog_4_method_5_code_2 8 rfl rfl rfl)
theorem d_Fz_pass_73 : decode prog_4_method_5_code 73 = .ok (.getfield 15, 3) := zo_180 (d := 0) (e := 15) (zd_b zq_prog_4_method_5_code_2 9 rfl rfl rfl) (zd_b zq_prog_4_method_5_code_2 10 rfl rfl rfl) (zd_b zq_prog_4_method_5_code_2 11 rfl rfl rfl)
theorem d_Fz_pass_76 : decode prog_4_method_5_code 76 = .ok (.iload_n 2, 1) := zo_28 (zd_b zq_prog_4_method_5_code_2 12 rfl rfl rfl)
theorem d_Fz_pass_77 : decode prog_4_method_5_code 77 = .ok (.dup2, 1) := zo_92 (zd_b zq_prog_4_method_5_code_2 13 rfl rfl rfl)
theorem d_Fz_pass_78 : decode prog_4_method_5_code 78 = .ok (.iaload, 1) := zo_46 (zd_b zq_prog_4_method_5_code_2 14 rfl rfl rfl)
theorem d_Fz_pass_79 : decode prog_4_method_5_code 79 = .ok (.aload_n 0, 1) := zo_42 (zd_b zq_prog_4_method_5_code_2 15 rfl rfl rfl)
theorem d_Fz_pass_80 : decode prog_4_method_5_code 80 = .ok (.iload_n 2, 1) := zo_28 (zd_b zq_prog_4_method_5_code_2 16 rfl rfl rfl)
theorem d_Fz_pass_81 : decode prog_4_method_5_code 81 = .ok (.invokevirtual 58, 3) := zo_182 (d := 0) (e := 58) (zd_b zq_prog_4_method_5_code_2 17 rfl rfl rfl) (zd_b zq_prog_4_method_5_code_2 18 rfl rfl rfl) (zd_b zq_prog_4_method_5_code_2 19 rfl rfl rfl)
theorem ok_Fz_pass_Fz_flowFromBeyond : z_ok M_Fz_pass M_Fz_flowFromBeyond 1 := ⟨z_mj3 (i := 17) rfl (by decide +kernel), rfl, ⟨by decide +kernel, by decide +kernel, by decide +kernel⟩, ⟨by decide, by decide⟩, z_mj1 (i := 4) rfl (by decide +kernel), rfl⟩
theorem ln_Fz_58 : Cond.methodLink "Ironpour$Freezing" 58 M_Fz_flowFromBeyond.1 ∈ z_gw := z_mj3 (i := 14) rfl (by decide +kernel)
theorem w_im_Fz_flowFromBeyond : Cond.instanceMethod M_Fz_flowFromBeyond.1 ∈ z_gw := z_mj3 (i := 16) rfl (by decide +kernel)
theorem w_se_Fz_flowFromBeyond : Cond.selects M_Fz_flowFromBeyond.1.cls M_Fz_flowFromBeyond.1 M_Fz_flowFromBeyond.1 ∈ z_gw := z_mem (i := 11) (by decide +kernel) (by decide +kernel)
theorem d_Fz_pass_84 : decode prog_4_method_5_code 84 = .ok (.iadd, 1) := zo_96 (zd_b zq_prog_4_method_5_code_2 20 rfl rfl rfl)
theorem d_Fz_pass_85 : decode prog_4_method_5_code 85 = .ok (.iastore, 1) := zo_79 (zd_b zq_prog_4_method_5_code_2 21 rfl rfl rfl)
theorem d_Fz_pass_86 : decode prog_4_method_5_code 86 = .ok (.iload_n 2, 1) := zo_28 (zd_b zq_prog_4_method_5_code_2 22 rfl rfl rfl)
theorem d_Fz_pass_87 : decode prog_4_method_5_code 87 = .ok (.bipush 12, 2) := zo_16 (d := 12) (zd_b zq_prog_4_method_5_code_2 23 rfl rfl rfl) (zd_b zq_prog_4_method_5_code_2 24 rfl rfl rfl) (by decide +kernel)
theorem d_Fz_pass_89 : decode prog_4_method_5_code 89 = .ok (.if_icmp .lt 9, 3) := zo_161 (d := 0) (e := 9) (zd_b zq_prog_4_method_5_code_2 25 rfl rfl rfl) (zd_b zq_prog_4_method_5_code_2 26 rfl rfl rfl) (zd_b zq_prog_4_method_5_code_2 27 rfl rfl rfl) (by decide +kernel)
theorem d_Fz_pass_98 : decode prog_4_method_5_code 98 = .ok (.aload_n 0, 1) := zo_42 (zd_b zq_prog_4_method_5_code_3 2 rfl rfl rfl)
theorem d_Fz_pass_99 : decode prog_4_method_5_code 99 = .ok (.getfield 15, 3) := zo_180 (d := 0) (e := 15) (zd_b zq_prog_4_method_5_code_3 3 rfl rfl rfl) (zd_b zq_prog_4_method_5_code_3 4 rfl rfl rfl) (zd_b zq_prog_4_method_5_code_3 5 rfl rfl rfl)
theorem d_Fz_pass_102 : decode prog_4_method_5_code 102 = .ok (.iload_n 2, 1) := zo_28 (zd_b zq_prog_4_method_5_code_3 6 rfl rfl rfl)
theorem d_Fz_pass_103 : decode prog_4_method_5_code 103 = .ok (.dup2, 1) := zo_92 (zd_b zq_prog_4_method_5_code_3 7 rfl rfl rfl)
theorem d_Fz_pass_104 : decode prog_4_method_5_code 104 = .ok (.iaload, 1) := zo_46 (zd_b zq_prog_4_method_5_code_3 8 rfl rfl rfl)
theorem d_Fz_pass_105 : decode prog_4_method_5_code 105 = .ok (.aload_n 0, 1) := zo_42 (zd_b zq_prog_4_method_5_code_3 9 rfl rfl rfl)
theorem d_Fz_pass_106 : decode prog_4_method_5_code 106 = .ok (.iload_n 2, 1) := zo_28 (zd_b zq_prog_4_method_5_code_3 10 rfl rfl rfl)
theorem d_Fz_pass_107 : decode prog_4_method_5_code 107 = .ok (.invokevirtual 58, 3) := zo_182 (d := 0) (e := 58) (zd_b zq_prog_4_method_5_code_3 11 rfl rfl rfl) (zd_b zq_prog_4_method_5_code_3 12 rfl rfl rfl) (zd_b zq_prog_4_method_5_code_3 13 rfl rfl rfl)
theorem d_Fz_pass_110 : decode prog_4_method_5_code 110 = .ok (.iadd, 1) := zo_96 (zd_b zq_prog_4_method_5_code_3 14 rfl rfl rfl)
theorem d_Fz_pass_111 : decode prog_4_method_5_code 111 = .ok (.iastore, 1) := zo_79 (zd_b zq_prog_4_method_5_code_3 15 rfl rfl rfl)
theorem d_Fz_pass_112 : decode prog_4_method_5_code 112 = .ok (.iinc 2 1, 3) := by decide +kernel
theorem d_Fz_pass_115 : decode prog_4_method_5_code 115 = .ok (.goto (-105), 3) := zo_167 (d := 255) (e := 151) (zd_b zq_prog_4_method_5_code_3 19 rfl rfl rfl) (zd_b zq_prog_4_method_5_code_3 20 rfl rfl rfl) (zd_b zq_prog_4_method_5_code_3 21 rfl rfl rfl) (by decide +kernel)
theorem d_Fz_pass_92 : decode prog_4_method_5_code 92 = .ok (.iload_n 2, 1) := zo_28 (zd_b zq_prog_4_method_5_code_2 28 rfl rfl rfl)
theorem d_Fz_pass_93 : decode prog_4_method_5_code 93 = .ok (.bipush 96, 2) := zo_16 (d := 96) (zd_b zq_prog_4_method_5_code_2 29 rfl rfl rfl) (zd_b zq_prog_4_method_5_code_2 30 rfl rfl rfl) (by decide +kernel)
theorem d_Fz_pass_95 : decode prog_4_method_5_code 95 = .ok (.if_icmp .lt 17, 3) := zo_161 (d := 0) (e := 17) (zd_b zq_prog_4_method_5_code_2 31 rfl rfl rfl) (zd_b zq_prog_4_method_5_code_3 0 rfl rfl rfl) (zd_b zq_prog_4_method_5_code_3 1 rfl rfl rfl) (by decide +kernel)
theorem d_Fz_pass_66 : decode prog_4_method_5_code 66 = .ok (.iload_n 3, 1) := zo_29 (zd_b zq_prog_4_method_5_code_2 2 rfl rfl rfl)
theorem d_Fz_pass_67 : decode prog_4_method_5_code 67 = .ok (.bipush 11, 2) := zo_16 (d := 11) (zd_b zq_prog_4_method_5_code_2 3 rfl rfl rfl) (zd_b zq_prog_4_method_5_code_2 4 rfl rfl rfl) (by decide +kernel)
theorem d_Fz_pass_69 : decode prog_4_method_5_code 69 = .ok (.if_icmp .ne 17, 3) := zo_160 (d := 0) (e := 17) (zd_b zq_prog_4_method_5_code_2 5 rfl rfl rfl) (zd_b zq_prog_4_method_5_code_2 6 rfl rfl rfl) (zd_b zq_prog_4_method_5_code_2 7 rfl rfl rfl) (by decide +kernel)
theorem d_Fz_pass_47 : decode prog_4_method_5_code 47 = .ok (.aload_n 0, 1) := zo_42 (zd_b zq_prog_4_method_5_code_1 15 rfl rfl rfl)
theorem d_Fz_pass_48 : decode prog_4_method_5_code 48 = .ok (.iload_n 2, 1) := zo_28 (zd_b zq_prog_4_method_5_code_1 16 rfl rfl rfl)
theorem d_Fz_pass_49 : decode prog_4_method_5_code 49 = .ok (.iload_n 2, 1) := zo_28 (zd_b zq_prog_4_method_5_code_1 17 rfl rfl rfl)
theorem d_Fz_pass_50 : decode prog_4_method_5_code 50 = .ok (.bipush 12, 2) := zo_16 (d := 12) (zd_b zq_prog_4_method_5_code_1 18 rfl rfl rfl) (zd_b zq_prog_4_method_5_code_1 19 rfl rfl rfl) (by decide +kernel)
theorem d_Fz_pass_52 : decode prog_4_method_5_code 52 = .ok (.iadd, 1) := zo_96 (zd_b zq_prog_4_method_5_code_1 20 rfl rfl rfl)
theorem d_Fz_pass_53 : decode prog_4_method_5_code 53 = .ok (.aload_n 0, 1) := zo_42 (zd_b zq_prog_4_method_5_code_1 21 rfl rfl rfl)
theorem d_Fz_pass_54 : decode prog_4_method_5_code 54 = .ok (.getfield 27, 3) := zo_180 (d := 0) (e := 27) (zd_b zq_prog_4_method_5_code_1 22 rfl rfl rfl) (zd_b zq_prog_4_method_5_code_1 23 rfl rfl rfl) (zd_b zq_prog_4_method_5_code_1 24 rfl rfl rfl)
theorem fs_Fz_27 : z_fs "Ironpour$Freezing" 27 2 5 := ⟨R_Fz, "Ironpour$Freezing", F_Fz, 7, rfl, u_Fz, by decide, Or.inl ⟨z_mj1 (i := 91) rfl (by decide +kernel), Or.inl rfl⟩⟩
theorem d_Fz_pass_57 : decode prog_4_method_5_code 57 = .ok (.iload_n 2, 1) := zo_28 (zd_b zq_prog_4_method_5_code_1 25 rfl rfl rfl)
theorem d_Fz_pass_58 : decode prog_4_method_5_code 58 = .ok (.iaload, 1) := zo_46 (zd_b zq_prog_4_method_5_code_1 26 rfl rfl rfl)
theorem d_Fz_pass_59 : decode prog_4_method_5_code 59 = .ok (.invokevirtual 55, 3) := zo_182 (d := 0) (e := 55) (zd_b zq_prog_4_method_5_code_1 27 rfl rfl rfl) (zd_b zq_prog_4_method_5_code_1 28 rfl rfl rfl) (zd_b zq_prog_4_method_5_code_1 29 rfl rfl rfl)
theorem ok_Fz_pass_Fz_exchange : z_ok M_Fz_pass M_Fz_exchange 3 := ⟨z_mj3 (i := 13) rfl (by decide +kernel), rfl, ⟨by decide +kernel, by decide +kernel, by decide +kernel⟩, ⟨by decide, by decide⟩, z_mj1 (i := 4) rfl (by decide +kernel), rfl⟩
theorem ln_Fz_55 : Cond.methodLink "Ironpour$Freezing" 55 M_Fz_exchange.1 ∈ z_gw := z_mj3 (i := 10) rfl (by decide +kernel)
theorem w_im_Fz_exchange : Cond.instanceMethod M_Fz_exchange.1 ∈ z_gw := z_mj3 (i := 12) rfl (by decide +kernel)
theorem w_se_Fz_exchange : Cond.selects M_Fz_exchange.1.cls M_Fz_exchange.1 M_Fz_exchange.1 ∈ z_gw := z_mem (i := 10) (by decide +kernel) (by decide +kernel)
theorem d_Fz_pass_27 : decode prog_4_method_5_code 27 = .ok (.aload_n 0, 1) := zo_42 (zd_b zq_prog_4_method_5_code_0 27 rfl rfl rfl)
theorem d_Fz_pass_28 : decode prog_4_method_5_code 28 = .ok (.iload_n 2, 1) := zo_28 (zd_b zq_prog_4_method_5_code_0 28 rfl rfl rfl)
theorem d_Fz_pass_29 : decode prog_4_method_5_code 29 = .ok (.iload_n 2, 1) := zo_28 (zd_b zq_prog_4_method_5_code_0 29 rfl rfl rfl)
theorem d_Fz_pass_30 : decode prog_4_method_5_code 30 = .ok (.iconst 1, 1) := zo_4 (zd_b zq_prog_4_method_5_code_0 30 rfl rfl rfl)
theorem d_Fz_pass_31 : decode prog_4_method_5_code 31 = .ok (.iadd, 1) := zo_96 (zd_b zq_prog_4_method_5_code_0 31 rfl rfl rfl)
theorem d_Fz_pass_32 : decode prog_4_method_5_code 32 = .ok (.aload_n 0, 1) := zo_42 (zd_b zq_prog_4_method_5_code_1 0 rfl rfl rfl)
theorem d_Fz_pass_33 : decode prog_4_method_5_code 33 = .ok (.getfield 24, 3) := zo_180 (d := 0) (e := 24) (zd_b zq_prog_4_method_5_code_1 1 rfl rfl rfl) (zd_b zq_prog_4_method_5_code_1 2 rfl rfl rfl) (zd_b zq_prog_4_method_5_code_1 3 rfl rfl rfl)
theorem fs_Fz_24 : z_fs "Ironpour$Freezing" 24 2 4 := ⟨R_Fz, "Ironpour$Freezing", F_Fz, 7, rfl, u_Fz, by decide, Or.inl ⟨z_mj1 (i := 90) rfl (by decide +kernel), Or.inl rfl⟩⟩
theorem d_Fz_pass_36 : decode prog_4_method_5_code 36 = .ok (.iload_n 2, 1) := zo_28 (zd_b zq_prog_4_method_5_code_1 4 rfl rfl rfl)
theorem d_Fz_pass_37 : decode prog_4_method_5_code 37 = .ok (.iaload, 1) := zo_46 (zd_b zq_prog_4_method_5_code_1 5 rfl rfl rfl)
theorem d_Fz_pass_38 : decode prog_4_method_5_code 38 = .ok (.invokevirtual 55, 3) := zo_182 (d := 0) (e := 55) (zd_b zq_prog_4_method_5_code_1 6 rfl rfl rfl) (zd_b zq_prog_4_method_5_code_1 7 rfl rfl rfl) (zd_b zq_prog_4_method_5_code_1 8 rfl rfl rfl)
theorem d_Fz_pass_0 : decode prog_4_method_5_code 0 = .ok (.aload_n 0, 1) := zo_42 (zd_b zq_prog_4_method_5_code_0 0 rfl rfl rfl)
theorem d_Fz_pass_1 : decode prog_4_method_5_code 1 = .ok (.getfield 15, 3) := zo_180 (d := 0) (e := 15) (zd_b zq_prog_4_method_5_code_0 1 rfl rfl rfl) (zd_b zq_prog_4_method_5_code_0 2 rfl rfl rfl) (zd_b zq_prog_4_method_5_code_0 3 rfl rfl rfl)
theorem d_Fz_pass_4 : decode prog_4_method_5_code 4 = .ok (.iconst 0, 1) := zo_3 (zd_b zq_prog_4_method_5_code_0 4 rfl rfl rfl)
theorem d_Fz_pass_5 : decode prog_4_method_5_code 5 = .ok (.invokestatic 49, 3) := zo_184 (d := 0) (e := 49) (zd_b zq_prog_4_method_5_code_0 5 rfl rfl rfl) (zd_b zq_prog_4_method_5_code_0 6 rfl rfl rfl) (zd_b zq_prog_4_method_5_code_0 7 rfl rfl rfl)
theorem ok_Fz_pass_Arrays_fill : z_ok M_Fz_pass M_Arrays_fill 2 := ⟨z_mj2 (i := 215) rfl (by decide +kernel), rfl, ⟨by decide +kernel, by decide +kernel, by decide +kernel⟩, ⟨by decide, by decide⟩, z_mj1 (i := 28) rfl (by decide +kernel), rfl⟩
theorem ln_Fz_49 : Cond.methodLink "Ironpour$Freezing" 49 M_Arrays_fill.1 ∈ z_gw := z_mj3 (i := 9) rfl (by decide +kernel)
theorem w_st_Arrays_fill : Cond.static M_Arrays_fill.1 ∈ z_gw := z_mj2 (i := 214) rfl (by decide +kernel)
theorem d_Fz_pass_8 : decode prog_4_method_5_code 8 = .ok (.iconst 0, 1) := zo_3 (zd_b zq_prog_4_method_5_code_0 8 rfl rfl rfl)
theorem d_Fz_pass_9 : decode prog_4_method_5_code 9 = .ok (.istore_n 2, 1) := zo_61 (zd_b zq_prog_4_method_5_code_0 9 rfl rfl rfl)
set_option maxHeartbeats 4000000 in
set_option maxRecDepth 100000 in
theorem L_Fz_pass_120 (g : zG) (a a1 a2 a3 a4 a5 a6 : Nat) (F1 F2 F3 F4 F5 F6 : Nat → Int32) (liq : Int32) (st : Int32) (w0 : zW) (n : Nat) : ∀ (d i : Nat), i ≤ 108 → 108 < i + d → DV g M_Fz_pass (fun o cs1 => o = .inl none ∧ cs1 = [(a, .inr (2, [.ref a1, .ref a2, .ref a3, .ref a4, .ref a5, .ref a6, .int ((stS (gnS F1 F5 F6 (fa_fill (fun _ => 0) F2 108) 108) st (F1, F3, F4, liq) 108).2.2.2)])), (a1, .inl (0, 108, .inl ((stS (gnS F1 F5 F6 (fa_fill (fun _ => 0) F2 108) 108) st (F1, F3, F4, liq) 108).1))), (a2, .inl (0, 108, .inl (gnS F1 F5 F6 (fa_fill (fun _ => 0) F2 108) 108))), (a3, .inl (0, 108, .inl ((stS (gnS F1 F5 F6 (fa_fill (fun _ => 0) F2 108) 108) st (F1, F3, F4, liq) 108).2.1))), (a4, .inl (0, 108, .inl ((stS (gnS F1 F5 F6 (fa_fill (fun _ => 0) F2 108) 108) st (F1, F3, F4, liq) 108).2.2.1))), (a5, .inl (0, 108, .inl F5)), (a6, .inl (0, 108, .inl F6))]) w0 n 120 [(2, .int (nI i)), (0, .ref a), (1, .int st)] [] [(a, .inr (2, [.ref a1, .ref a2, .ref a3, .ref a4, .ref a5, .ref a6, .int ((stS (gnS F1 F5 F6 (fa_fill (fun _ => 0) F2 108) 108) st (F1, F3, F4, liq) i).2.2.2)])), (a1, .inl (0, 108, .inl ((stS (gnS F1 F5 F6 (fa_fill (fun _ => 0) F2 108) 108) st (F1, F3, F4, liq) i).1))), (a2, .inl (0, 108, .inl (gnS F1 F5 F6 (fa_fill (fun _ => 0) F2 108) 108))), (a3, .inl (0, 108, .inl ((stS (gnS F1 F5 F6 (fa_fill (fun _ => 0) F2 108) 108) st (F1, F3, F4, liq) i).2.1))), (a4, .inl (0, 108, .inl ((stS (gnS F1 F5 F6 (fa_fill (fun _ => 0) F2 108) 108) st (F1, F3, F4, liq) i).2.2.1))), (a5, .inl (0, 108, .inl F5)), (a6, .inl (0, 108, .inl F6))] 0 0 := by
  intro d
  induction d with
  | zero => intro i h1 h2 ; exact absurd h2 (by omega)
  | succ d ih =>
    intro i h1 h2 
    refine r_iload_n d_Fz_pass_120 rfl 0 rfl ?_
    refine r_bipush d_Fz_pass_121 (v := 108) (by decide) ?_
    refine r_icmp_ge (tgt := 151) d_Fz_pass_123 (by decide) (fun c_123 => ?_) (fun c_123 => ?_)
    · have hn := z_le (a := 108) (by omega) (by decide) c_123
      obtain rfl : i = 108 := by omega
      refine r_vret d_Fz_pass_151 rfl ?_
      exact ⟨rfl, rfl⟩
    · have hn := z_nle (a := 108) (by omega) (by decide) c_123
      refine r_aload_n d_Fz_pass_126 rfl 1 rfl ?_
      refine r_iload_n d_Fz_pass_127 rfl 0 rfl ?_
      refine r_aload_n d_Fz_pass_128 rfl 1 rfl ?_
      refine r_get fs_Fz_9 d_Fz_pass_129 (q0 := 0) rfl rfl ?_
      refine r_iload_n d_Fz_pass_132 rfl 0 rfl ?_
      refine r_iald d_Fz_pass_133 (q0 := 1) rfl (vp_in_nI (by omega) (by omega)) (v := ((stS (gnS F1 F5 F6 (fa_fill (fun _ => 0) F2 108) 108) st (F1, F3, F4, liq) i).1) i) (by rw [nI_clamp (by omega)]) ?_
      refine r_aload_n d_Fz_pass_134 rfl 1 rfl ?_
      refine r_get fs_Fz_15 d_Fz_pass_135 (q0 := 0) rfl rfl ?_
      refine r_iload_n d_Fz_pass_138 rfl 0 rfl ?_
      refine r_iald d_Fz_pass_139 (q0 := 2) rfl (vp_in_nI (by omega) (by omega)) (v := (gnS F1 F5 F6 (fa_fill (fun _ => 0) F2 108) 108) i) (by rw [nI_clamp (by omega)]) ?_
      refine r_iadd d_Fz_pass_140 (v := (((stS (gnS F1 F5 F6 (fa_fill (fun _ => 0) F2 108) 108) st (F1, F3, F4, liq) i).1) i) + ((gnS F1 F5 F6 (fa_fill (fun _ => 0) F2 108) 108) i)) rfl ?_
      refine r_iload_n d_Fz_pass_141 rfl 2 rfl ?_
      refine r_callV (As := [.int (nI i), .int ((((stS (gnS F1 F5 F6 (fa_fill (fun _ => 0) F2 108) 108) st (F1, F3, F4, liq) i).1) i) + ((gnS F1 F5 F6 (fa_fill (fun _ => 0) F2 108) 108) i)), .int st]) (rest := []) (csC := [(a, .inr (2, [.ref a1, .ref a2, .ref a3, .ref a4, .ref a5, .ref a6, .int ((stS (gnS F1 F5 F6 (fa_fill (fun _ => 0) F2 108) 108) st (F1, F3, F4, liq) i).2.2.2)])), (a1, .inl (0, 108, .inl ((stS (gnS F1 F5 F6 (fa_fill (fun _ => 0) F2 108) 108) st (F1, F3, F4, liq) i).1))), (a2, .inl (0, 108, .inl (gnS F1 F5 F6 (fa_fill (fun _ => 0) F2 108) 108))), (a3, .inl (0, 108, .inl ((stS (gnS F1 F5 F6 (fa_fill (fun _ => 0) F2 108) 108) st (F1, F3, F4, liq) i).2.1))), (a4, .inl (0, 108, .inl ((stS (gnS F1 F5 F6 (fa_fill (fun _ => 0) F2 108) 108) st (F1, F3, F4, liq) i).2.2.1))), (a5, .inl (0, 108, .inl F5)), (a6, .inl (0, 108, .inl F6))]) (is := [0, 1, 2, 3, 4, 5, 6]) (q0 := 0) rfl rfl ln_Fz_38 w_im_Fz_becomeHeat w_se_Fz_becomeHeat ok_Fz_pass_Fz_becomeHeat d_Fz_pass_142 (C_Fz_becomeHeat g a a1 a2 a3 a4 a5 a6 (stS (gnS F1 F5 F6 (fa_fill (fun _ => 0) F2 108) 108) st (F1, F3, F4, liq) i).1 (gnS F1 F5 F6 (fa_fill (fun _ => 0) F2 108) 108) (stS (gnS F1 F5 F6 (fa_fill (fun _ => 0) F2 108) 108) st (F1, F3, F4, liq) i).2.1 (stS (gnS F1 F5 F6 (fa_fill (fun _ => 0) F2 108) 108) st (F1, F3, F4, liq) i).2.2.1 F5 F6 (stS (gnS F1 F5 F6 (fa_fill (fun _ => 0) F2 108) 108) st (F1, F3, F4, liq) i).2.2.2 i (by omega) _ st) rfl rfl (Nat.le_of_ble_eq_true rfl) rfl (by decide) (by omega) (by omega) (fun E cs1 hx => ?_) (fun v cs1 hx => ?_)
      · exact absurd hx.1 (by simp)
      · obtain ⟨e1, rfl⟩ := hx
        cases e1
        refine ⟨rfl, ?_⟩
        refine r_st (st2 := []) rfl ?_
        refine r_cs (cs2 := [(a, .inr (2, [.ref a1, .ref a2, .ref a3, .ref a4, .ref a5, .ref a6, .int ((bhS i ((stS (gnS F1 F5 F6 (fa_fill (fun _ => 0) F2 108) 108) st (F1, F3, F4, liq) i).1 i + gnS F1 F5 F6 (fa_fill (fun _ => 0) F2 108) 108 i) st (stS (gnS F1 F5 F6 (fa_fill (fun _ => 0) F2 108) 108) st (F1, F3, F4, liq) i)).2.2.2)])), (a1, .inl (0, 108, .inl ((bhS i ((stS (gnS F1 F5 F6 (fa_fill (fun _ => 0) F2 108) 108) st (F1, F3, F4, liq) i).1 i + gnS F1 F5 F6 (fa_fill (fun _ => 0) F2 108) 108 i) st (stS (gnS F1 F5 F6 (fa_fill (fun _ => 0) F2 108) 108) st (F1, F3, F4, liq) i)).1))), (a2, .inl (0, 108, .inl (gnS F1 F5 F6 (fa_fill (fun _ => 0) F2 108) 108))), (a3, .inl (0, 108, .inl ((bhS i ((stS (gnS F1 F5 F6 (fa_fill (fun _ => 0) F2 108) 108) st (F1, F3, F4, liq) i).1 i + gnS F1 F5 F6 (fa_fill (fun _ => 0) F2 108) 108 i) st (stS (gnS F1 F5 F6 (fa_fill (fun _ => 0) F2 108) 108) st (F1, F3, F4, liq) i)).2.1))), (a4, .inl (0, 108, .inl ((bhS i ((stS (gnS F1 F5 F6 (fa_fill (fun _ => 0) F2 108) 108) st (F1, F3, F4, liq) i).1 i + gnS F1 F5 F6 (fa_fill (fun _ => 0) F2 108) 108 i) st (stS (gnS F1 F5 F6 (fa_fill (fun _ => 0) F2 108) 108) st (F1, F3, F4, liq) i)).2.2.1))), (a5, .inl (0, 108, .inl F5)), (a6, .inl (0, 108, .inl F6))]) rfl ?_
        refine r_iinc (lv' := [(2, .int (nI (i + 1))), (0, .ref a), (1, .int st)]) (v := nI (i + 1)) d_Fz_pass_145 (j := 0) rfl (nI_add _ _) (by decide) rfl ?_
        refine r_goto (tgt := 120) d_Fz_pass_148 (by decide) ?_
        refine r_lvE (lv2 := [(2, .int (nI (i + 1))), (0, .ref a), (1, .int st)]) (rfl) ?_
        refine r_cs (cs2 := [(a, .inr (2, [.ref a1, .ref a2, .ref a3, .ref a4, .ref a5, .ref a6, .int ((stS (gnS F1 F5 F6 (fa_fill (fun _ => 0) F2 108) 108) st (F1, F3, F4, liq) (i + 1)).2.2.2)])), (a1, .inl (0, 108, .inl ((stS (gnS F1 F5 F6 (fa_fill (fun _ => 0) F2 108) 108) st (F1, F3, F4, liq) (i + 1)).1))), (a2, .inl (0, 108, .inl (gnS F1 F5 F6 (fa_fill (fun _ => 0) F2 108) 108))), (a3, .inl (0, 108, .inl ((stS (gnS F1 F5 F6 (fa_fill (fun _ => 0) F2 108) 108) st (F1, F3, F4, liq) (i + 1)).2.1))), (a4, .inl (0, 108, .inl ((stS (gnS F1 F5 F6 (fa_fill (fun _ => 0) F2 108) 108) st (F1, F3, F4, liq) (i + 1)).2.2.1))), (a5, .inl (0, 108, .inl F5)), (a6, .inl (0, 108, .inl F6))]) (rfl) ?_
        exact ih (i + 1) (by omega) (by omega)
