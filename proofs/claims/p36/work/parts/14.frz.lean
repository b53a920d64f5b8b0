section
noncomputable def flP (ce fi : Nat → Int32) (run : Int32) : Nat → Int32 := if run = 0 then (fiS ce (ogS ce (fa_fill (fun _ => -1) fi 108) 12).2 (ogS ce (fa_fill (fun _ => -1) fi 108) 12).1 107).1 else fi
def flR (run : Int32) : Int32 := if run = 0 then 1 else run
theorem C_Tr_fillU (g : zG) (a a1 a2 az a4 a5 a6 : Nat) (run fo : Int32) (ce fi : Nat → Int32) : CT g M_Tr_fill [.ref a] [(a, .inr (10, [.ref a1, .ref a2, .ref az, .ref a4, .ref a5, .ref a6, .int run, .int fo])), (a1, .inl (1, 108, .inl ce)), (a2, .inl (0, 108, .inl fi))] (fun o cs1 => o = .inl none ∧ cs1 = [(a, .inr (10, [.ref a1, .ref a2, .ref az, .ref a4, .ref a5, .ref a6, .int (flR run), .int fo])), (a1, .inl (1, 108, .inl ce)), (a2, .inl (0, 108, .inl (flP ce fi run)))]) 0 0 := by
  by_cases h : run = 0
  · subst h
    rw [show flP ce fi 0 = (fiS ce (ogS ce (fa_fill (fun _ => -1) fi 108) 12).2 (ogS ce (fa_fill (fun _ => -1) fi 108) 12).1 107).1 from if_pos rfl, show flR 0 = 1 from if_pos rfl]
    exact C_Tr_fill g a a1 a2 az a4 a5 a6 0 fo ce fi
  · rw [show flP ce fi run = fi from if_neg h, show flR run = run from if_neg h]
    exact C_Tr_fillR g a a1 a2 az a4 a5 a6 run fo ce fi h
abbrev zS5 : Type := zS4 × (Nat → Int32)
noncomputable def psG (F5 F6 : Nat → Int32) (Q : zS5) : Nat → Int32 := gnS Q.1.1 F5 F6 (fa_fill (fun _ => 0) Q.2 108) 108
noncomputable def psT (F5 F6 : Nat → Int32) (st : Int32) (Q : zS5) : zS5 := (stS (psG F5 F6 Q) st Q.1 108, psG F5 F6 Q)
noncomputable def pzS (F5 F6 : Nat → Int32) (Q0 : zS5) : Nat → zS5
  | 0 => Q0
  | t + 1 => if 0 < (pzS F5 F6 Q0 t).1.2.2.2 then psT F5 F6 (nI (t + 1)) (pzS F5 F6 Q0 t) else pzS F5 F6 Q0 t
noncomputable def pcS (F5 F6 : Nat → Int32) (Q0 : zS5) : Nat → zS5
  | 0 => Q0
  | t + 1 => psT F5 F6 (nI (t + 1)) (pcS F5 F6 Q0 t)
theorem pz_n {F5 F6 : Nat → Int32} {Q0 : zS5} {t : Nat} (h : 0 < (pzS F5 F6 Q0 t).1.2.2.2) : pzS F5 F6 Q0 (t + 1) = psT F5 F6 (nI (t + 1)) (pzS F5 F6 Q0 t) := if_pos h
theorem pz_stop {F5 F6 : Nat → Int32} {Q0 : zS5} {t : Nat} (h : ¬ 0 < (pzS F5 F6 Q0 t).1.2.2.2) : ∀ d, pzS F5 F6 Q0 (t + d) = pzS F5 F6 Q0 t
  | 0 => rfl
  | d + 1 => by
    have ih := pz_stop h d
    show pzS F5 F6 Q0 (t + d + 1) = _
    rw [pzS, ih, if_neg h]
theorem pz_0 {F5 F6 : Nat → Int32} {Q0 : zS5} : pzS F5 F6 Q0 0 = Q0 := rfl
theorem pc_0 {F5 F6 : Nat → Int32} {Q0 : zS5} : pcS F5 F6 Q0 0 = Q0 := rfl
theorem pc_n {F5 F6 : Nat → Int32} {Q0 : zS5} {t : Nat} : pcS F5 F6 Q0 (t + 1) = psT F5 F6 (nI (t + 1)) (pcS F5 F6 Q0 t) := rfl
noncomputable def bgQ (ce fi : Nat → Int32) (h : Int32) (F1 F2 F3 F4 : Nat → Int32) (liq : Int32) : zS5 := (bgS ce fi h (F1, F3, F4, liq) 108, F2)
theorem C_Fz_passQ (g : zG) (a a1 a2 a3 a4 a5 a6 : Nat) (F5 F6 : Nat → Int32) (st : Int32) (Q : zS5) : CT g M_Fz_pass [.ref a, .int st] [(a, .inr (2, [.ref a1, .ref a2, .ref a3, .ref a4, .ref a5, .ref a6, .int Q.1.2.2.2])), (a1, .inl (0, 108, .inl Q.1.1)), (a2, .inl (0, 108, .inl Q.2)), (a3, .inl (0, 108, .inl Q.1.2.1)), (a4, .inl (0, 108, .inl Q.1.2.2.1)), (a5, .inl (0, 108, .inl F5)), (a6, .inl (0, 108, .inl F6))] (fun o cs1 => o = .inl none ∧ cs1 = [(a, .inr (2, [.ref a1, .ref a2, .ref a3, .ref a4, .ref a5, .ref a6, .int ((psT F5 F6 st Q).1.2.2.2)])), (a1, .inl (0, 108, .inl ((psT F5 F6 st Q).1.1))), (a2, .inl (0, 108, .inl ((psT F5 F6 st Q).2))), (a3, .inl (0, 108, .inl ((psT F5 F6 st Q).1.2.1))), (a4, .inl (0, 108, .inl ((psT F5 F6 st Q).1.2.2.1))), (a5, .inl (0, 108, .inl F5)), (a6, .inl (0, 108, .inl F6))]) 0 0 := by
  obtain ⟨⟨F1, F3, F4, liq⟩, F2⟩ := Q
  have e : psT F5 F6 st ((F1, F3, F4, liq), F2) = (stS (gnS F1 F5 F6 (fa_fill (fun _ => 0) F2 108) 108) st (F1, F3, F4, liq) 108, gnS F1 F5 F6 (fa_fill (fun _ => 0) F2 108) 108) := by rw [psT, psG]
  rw [e]
  dsimp only
  exact C_Fz_pass g a a1 a2 a3 a4 a5 a6 F1 F2 F3 F4 F5 F6 liq st
theorem C_Fz_beginQ (g : zG) (a a1 a2 a3 a4 a5 a6 : Nat) (F1 F2 F3 F4 F5 F6 : Nat → Int32) (liq : Int32) (b c : Nat) (ce fi : Nat → Int32) (h : Int32) : CT g M_Fz_begin [.ref a, .ref b, .ref c, .int h] [(a, .inr (2, [.ref a1, .ref a2, .ref a3, .ref a4, .ref a5, .ref a6, .int liq])), (a1, .inl (0, 108, .inl F1)), (a2, .inl (0, 108, .inl F2)), (a3, .inl (0, 108, .inl F3)), (a4, .inl (0, 108, .inl F4)), (a5, .inl (0, 108, .inl F5)), (a6, .inl (0, 108, .inl F6)), (b, .inl (1, 108, .inl ce)), (c, .inl (0, 108, .inl fi))] (fun o cs1 => o = .inl none ∧ cs1 = [(a, .inr (2, [.ref a1, .ref a2, .ref a3, .ref a4, .ref a5, .ref a6, .int ((bgQ ce fi h F1 F2 F3 F4 liq).1.2.2.2)])), (a1, .inl (0, 108, .inl ((bgQ ce fi h F1 F2 F3 F4 liq).1.1))), (a2, .inl (0, 108, .inl ((bgQ ce fi h F1 F2 F3 F4 liq).2))), (a3, .inl (0, 108, .inl ((bgQ ce fi h F1 F2 F3 F4 liq).1.2.1))), (a4, .inl (0, 108, .inl ((bgQ ce fi h F1 F2 F3 F4 liq).1.2.2.1))), (a5, .inl (0, 108, .inl (toS ce fi 2 F5 108))), (a6, .inl (0, 108, .inl (toS ce fi 3 F6 108))), (b, .inl (1, 108, .inl ce)), (c, .inl (0, 108, .inl fi))]) 0 0 :=
  C_Fz_begin g a a1 a2 a3 a4 a5 a6 F1 F2 F3 F4 F5 F6 liq b c ce fi h
abbrev M_Tr_freeze : zM := (⟨"Ironpour$Trial", "freeze", "(I)V"⟩, prog_12_method_7_code, 3, (Option.none : Option FieldType), 5, 114, [])
theorem d_Tr_freeze_0 : decode prog_12_method_7_code 0 = .ok (.aload_n 0, 1) := zo_42 (zd_b zq_prog_12_method_7_code_0 0 rfl rfl rfl)
theorem d_Tr_freeze_1 : decode prog_12_method_7_code 1 = .ok (.getfield 46, 3) := zo_180 (d := 0) (e := 46) (zd_b zq_prog_12_method_7_code_0 1 rfl rfl rfl) (zd_b zq_prog_12_method_7_code_0 2 rfl rfl rfl) (zd_b zq_prog_12_method_7_code_0 3 rfl rfl rfl)
theorem fs_Tr_46 : z_fs "Ironpour$Trial" 46 10 7 := ⟨R_Tr, "Ironpour$Trial", F_Tr, 8, rfl, u_Tr, by decide, Or.inl ⟨z_mj1 (i := 120) rfl (by decide +kernel), Or.inl rfl⟩⟩
theorem d_Tr_freeze_4 : decode prog_12_method_7_code 4 = .ok (.iload_n 1, 1) := zo_27 (zd_b zq_prog_12_method_7_code_0 4 rfl rfl rfl)
theorem d_Tr_freeze_5 : decode prog_12_method_7_code 5 = .ok (.if_icmp .ne 4, 3) := zo_160 (d := 0) (e := 4) (zd_b zq_prog_12_method_7_code_0 5 rfl rfl rfl) (zd_b zq_prog_12_method_7_code_0 6 rfl rfl rfl) (zd_b zq_prog_12_method_7_code_0 7 rfl rfl rfl) (by decide +kernel)
theorem d_Tr_freeze_8 : decode prog_12_method_7_code 8 = .ok (.return_, 1) := zo_177 (zd_b zq_prog_12_method_7_code_0 8 rfl rfl rfl)
set_option maxHeartbeats 4000000 in
set_option maxRecDepth 100000 in
theorem C_Tr_freezeK (g : zG) (a a1 a2 az az1 az2 az3 az4 az5 az6 a4 a5 a6 : Nat) (run fo liq : Int32) (ce fi F1 F2 F3 F4 F5 F6 fed seen : Nat → Int32) (qn : Nat → Nat) (h : Int32) (hf : fo = h) : CT g M_Tr_freeze [.ref a, .int h] [(a, .inr (10, [.ref a1, .ref a2, .ref az, .ref a4, .ref a5, .ref a6, .int run, .int fo])), (a1, .inl (1, 108, .inl ce)), (a2, .inl (0, 108, .inl fi)), (az, .inr (2, [.ref az1, .ref az2, .ref az3, .ref az4, .ref az5, .ref az6, .int liq])), (az1, .inl (0, 108, .inl F1)), (az2, .inl (0, 108, .inl F2)), (az3, .inl (0, 108, .inl F3)), (az4, .inl (0, 108, .inl F4)), (az5, .inl (0, 108, .inl F5)), (az6, .inl (0, 108, .inl F6)), (a4, .inl (2, 108, .inl fed)), (a5, .inl (2, 108, .inl seen)), (a6, .inl (0, 108, .inl (fun k => nI (qn k))))] (fun o cs1 => o = .inl none ∧ cs1 = [(a, .inr (10, [.ref a1, .ref a2, .ref az, .ref a4, .ref a5, .ref a6, .int run, .int fo])), (a1, .inl (1, 108, .inl ce)), (a2, .inl (0, 108, .inl fi)), (az, .inr (2, [.ref az1, .ref az2, .ref az3, .ref az4, .ref az5, .ref az6, .int liq])), (az1, .inl (0, 108, .inl F1)), (az2, .inl (0, 108, .inl F2)), (az3, .inl (0, 108, .inl F3)), (az4, .inl (0, 108, .inl F4)), (az5, .inl (0, 108, .inl F5)), (az6, .inl (0, 108, .inl F6)), (a4, .inl (2, 108, .inl fed)), (a5, .inl (2, 108, .inl seen)), (a6, .inl (0, 108, .inl (fun k => nI (qn k))))]) 0 0 := by
  refine z_of (by decide) rfl (Nat.le_of_ble_eq_true rfl) (fun w0 => ?_)
  refine r_lvE (lv2 := [(0, .ref a), (1, .int h)]) rfl ?_
  refine r_aload_n d_Tr_freeze_0 rfl 0 rfl ?_
  refine r_get fs_Tr_46 d_Tr_freeze_1 (q0 := 0) rfl rfl ?_
  refine r_iload_n d_Tr_freeze_4 rfl 1 rfl ?_
  refine r_icmp_ne (tgt := 9) d_Tr_freeze_5 (by decide) (fun c_5 => ?_) (fun c_5 => ?_)
  · exact absurd hf c_5
  · refine r_vret d_Tr_freeze_8 rfl ?_
    exact ⟨rfl, rfl⟩
theorem d_Tr_freeze_31 : decode prog_12_method_7_code 31 = .ok (.iload_n 2, 1) := zo_28 (zd_b zq_prog_12_method_7_code_0 31 rfl rfl rfl)
theorem d_Tr_freeze_32 : decode prog_12_method_7_code 32 = .ok (.sipush 400, 3) := zo_17 (d := 1) (e := 144) (zd_b zq_prog_12_method_7_code_1 0 rfl rfl rfl) (zd_b zq_prog_12_method_7_code_1 1 rfl rfl rfl) (zd_b zq_prog_12_method_7_code_1 2 rfl rfl rfl) (by decide +kernel)
theorem d_Tr_freeze_35 : decode prog_12_method_7_code 35 = .ok (.if_icmp .gt 27, 3) := zo_163 (d := 0) (e := 27) (zd_b zq_prog_12_method_7_code_1 3 rfl rfl rfl) (zd_b zq_prog_12_method_7_code_1 4 rfl rfl rfl) (zd_b zq_prog_12_method_7_code_1 5 rfl rfl rfl) (by decide +kernel)
theorem d_Tr_freeze_62 : decode prog_12_method_7_code 62 = .ok (.aload_n 0, 1) := zo_42 (zd_b zq_prog_12_method_7_code_1 30 rfl rfl rfl)
theorem d_Tr_freeze_63 : decode prog_12_method_7_code 63 = .ok (.invokevirtual 88, 3) := zo_182 (d := 0) (e := 88) (zd_b zq_prog_12_method_7_code_1 31 rfl rfl rfl) (zd_b zq_prog_12_method_7_code_2 0 rfl rfl rfl) (zd_b zq_prog_12_method_7_code_2 1 rfl rfl rfl)
theorem ok_Tr_freeze_Tr_feed : z_ok M_Tr_freeze M_Tr_feed 0 := ⟨z_mj3 (i := 21) rfl (by decide +kernel), rfl, ⟨by decide +kernel, by decide +kernel, by decide +kernel⟩, ⟨by decide, by decide⟩, z_mj1 (i := 3) rfl (by decide +kernel), rfl⟩
theorem ln_Tr_88 : Cond.methodLink "Ironpour$Trial" 88 M_Tr_feed.1 ∈ z_gw := z_mj3 (i := 18) rfl (by decide +kernel)
theorem w_im_Tr_feed : Cond.instanceMethod M_Tr_feed.1 ∈ z_gw := z_mj3 (i := 20) rfl (by decide +kernel)
theorem w_se_Tr_feed : Cond.selects M_Tr_feed.1.cls M_Tr_feed.1 M_Tr_feed.1 ∈ z_gw := z_mem (i := 12) (by decide +kernel) (by decide +kernel)
theorem d_Tr_freeze_66 : decode prog_12_method_7_code 66 = .ok (.aload_n 0, 1) := zo_42 (zd_b zq_prog_12_method_7_code_2 2 rfl rfl rfl)
theorem d_Tr_freeze_67 : decode prog_12_method_7_code 67 = .ok (.iload_n 1, 1) := zo_27 (zd_b zq_prog_12_method_7_code_2 3 rfl rfl rfl)
theorem d_Tr_freeze_68 : decode prog_12_method_7_code 68 = .ok (.putfield 46, 3) := zo_181 (d := 0) (e := 46) (zd_b zq_prog_12_method_7_code_2 4 rfl rfl rfl) (zd_b zq_prog_12_method_7_code_2 5 rfl rfl rfl) (zd_b zq_prog_12_method_7_code_2 6 rfl rfl rfl)
theorem d_Tr_freeze_71 : decode prog_12_method_7_code 71 = .ok (.return_, 1) := zo_177 (zd_b zq_prog_12_method_7_code_2 7 rfl rfl rfl)
theorem d_Tr_freeze_38 : decode prog_12_method_7_code 38 = .ok (.aload_n 0, 1) := zo_42 (zd_b zq_prog_12_method_7_code_1 6 rfl rfl rfl)
theorem d_Tr_freeze_39 : decode prog_12_method_7_code 39 = .ok (.getfield 22, 3) := zo_180 (d := 0) (e := 22) (zd_b zq_prog_12_method_7_code_1 7 rfl rfl rfl) (zd_b zq_prog_12_method_7_code_1 8 rfl rfl rfl) (zd_b zq_prog_12_method_7_code_1 9 rfl rfl rfl)
theorem d_Tr_freeze_42 : decode prog_12_method_7_code 42 = .ok (.getfield 81, 3) := zo_180 (d := 0) (e := 81) (zd_b zq_prog_12_method_7_code_1 10 rfl rfl rfl) (zd_b zq_prog_12_method_7_code_1 11 rfl rfl rfl) (zd_b zq_prog_12_method_7_code_1 12 rfl rfl rfl)
theorem fs_Tr_81 : z_fs "Ironpour$Trial" 81 2 6 := ⟨R_Fz, "Ironpour$Freezing", F_Fz, 7, rfl, u_Fz, by decide, Or.inr ⟨"Ironpour", z_mk1 (i := 93) rfl (by decide +kernel), rfl⟩⟩
theorem d_Tr_freeze_45 : decode prog_12_method_7_code 45 = .ok (.ifCond .le 17, 3) := zo_158 (d := 0) (e := 17) (zd_b zq_prog_12_method_7_code_1 13 rfl rfl rfl) (zd_b zq_prog_12_method_7_code_1 14 rfl rfl rfl) (zd_b zq_prog_12_method_7_code_1 15 rfl rfl rfl) (by decide +kernel)
theorem d_Tr_freeze_48 : decode prog_12_method_7_code 48 = .ok (.aload_n 0, 1) := zo_42 (zd_b zq_prog_12_method_7_code_1 16 rfl rfl rfl)
theorem d_Tr_freeze_49 : decode prog_12_method_7_code 49 = .ok (.getfield 22, 3) := zo_180 (d := 0) (e := 22) (zd_b zq_prog_12_method_7_code_1 17 rfl rfl rfl) (zd_b zq_prog_12_method_7_code_1 18 rfl rfl rfl) (zd_b zq_prog_12_method_7_code_1 19 rfl rfl rfl)
theorem d_Tr_freeze_52 : decode prog_12_method_7_code 52 = .ok (.iload_n 2, 1) := zo_28 (zd_b zq_prog_12_method_7_code_1 20 rfl rfl rfl)
theorem d_Tr_freeze_53 : decode prog_12_method_7_code 53 = .ok (.invokevirtual 84, 3) := zo_182 (d := 0) (e := 84) (zd_b zq_prog_12_method_7_code_1 21 rfl rfl rfl) (zd_b zq_prog_12_method_7_code_1 22 rfl rfl rfl) (zd_b zq_prog_12_method_7_code_1 23 rfl rfl rfl)
theorem ok_Tr_freeze_Fz_pass : z_ok M_Tr_freeze M_Fz_pass 1 := ⟨z_mj3 (i := 8) rfl (by decide +kernel), rfl, ⟨by decide +kernel, by decide +kernel, by decide +kernel⟩, ⟨by decide, by decide⟩, z_mj1 (i := 4) rfl (by decide +kernel), rfl⟩
theorem ln_Tr_84 : Cond.methodLink "Ironpour$Trial" 84 M_Fz_pass.1 ∈ z_gw := z_mj3 (i := 5) rfl (by decide +kernel)
theorem w_im_Fz_pass : Cond.instanceMethod M_Fz_pass.1 ∈ z_gw := z_mj3 (i := 6) rfl (by decide +kernel)
theorem w_se_Fz_pass : Cond.selects M_Fz_pass.1.cls M_Fz_pass.1 M_Fz_pass.1 ∈ z_gw := z_mj3 (i := 7) rfl (by decide +kernel)
theorem d_Tr_freeze_56 : decode prog_12_method_7_code 56 = .ok (.iinc 2 1, 3) := by decide +kernel
theorem d_Tr_freeze_59 : decode prog_12_method_7_code 59 = .ok (.goto (-28), 3) := zo_167 (d := 255) (e := 228) (zd_b zq_prog_12_method_7_code_1 27 rfl rfl rfl) (zd_b zq_prog_12_method_7_code_1 28 rfl rfl rfl) (zd_b zq_prog_12_method_7_code_1 29 rfl rfl rfl) (by decide +kernel)
theorem d_Tr_freeze_9 : decode prog_12_method_7_code 9 = .ok (.aload_n 0, 1) := zo_42 (zd_b zq_prog_12_method_7_code_0 9 rfl rfl rfl)
theorem d_Tr_freeze_10 : decode prog_12_method_7_code 10 = .ok (.invokevirtual 75, 3) := zo_182 (d := 0) (e := 75) (zd_b zq_prog_12_method_7_code_0 10 rfl rfl rfl) (zd_b zq_prog_12_method_7_code_0 11 rfl rfl rfl) (zd_b zq_prog_12_method_7_code_0 12 rfl rfl rfl)
theorem ok_Tr_freeze_Tr_fill : z_ok M_Tr_freeze M_Tr_fill 0 := ⟨z_mj2 (i := 212) rfl (by decide +kernel), rfl, ⟨by decide +kernel, by decide +kernel, by decide +kernel⟩, ⟨by decide, by decide⟩, z_mj1 (i := 3) rfl (by decide +kernel), rfl⟩
theorem ln_Tr_75 : Cond.methodLink "Ironpour$Trial" 75 M_Tr_fill.1 ∈ z_gw := z_mj2 (i := 209) rfl (by decide +kernel)
theorem w_im_Tr_fill : Cond.instanceMethod M_Tr_fill.1 ∈ z_gw := z_mj2 (i := 210) rfl (by decide +kernel)
theorem w_se_Tr_fill : Cond.selects M_Tr_fill.1.cls M_Tr_fill.1 M_Tr_fill.1 ∈ z_gw := z_mj2 (i := 211) rfl (by decide +kernel)
theorem d_Tr_freeze_13 : decode prog_12_method_7_code 13 = .ok (.aload_n 0, 1) := zo_42 (zd_b zq_prog_12_method_7_code_0 13 rfl rfl rfl)
theorem d_Tr_freeze_14 : decode prog_12_method_7_code 14 = .ok (.getfield 22, 3) := zo_180 (d := 0) (e := 22) (zd_b zq_prog_12_method_7_code_0 14 rfl rfl rfl) (zd_b zq_prog_12_method_7_code_0 15 rfl rfl rfl) (zd_b zq_prog_12_method_7_code_0 16 rfl rfl rfl)
theorem d_Tr_freeze_17 : decode prog_12_method_7_code 17 = .ok (.aload_n 0, 1) := zo_42 (zd_b zq_prog_12_method_7_code_0 17 rfl rfl rfl)
theorem d_Tr_freeze_18 : decode prog_12_method_7_code 18 = .ok (.getfield 9, 3) := zo_180 (d := 0) (e := 9) (zd_b zq_prog_12_method_7_code_0 18 rfl rfl rfl) (zd_b zq_prog_12_method_7_code_0 19 rfl rfl rfl) (zd_b zq_prog_12_method_7_code_0 20 rfl rfl rfl)
theorem d_Tr_freeze_21 : decode prog_12_method_7_code 21 = .ok (.aload_n 0, 1) := zo_42 (zd_b zq_prog_12_method_7_code_0 21 rfl rfl rfl)
theorem d_Tr_freeze_22 : decode prog_12_method_7_code 22 = .ok (.getfield 15, 3) := zo_180 (d := 0) (e := 15) (zd_b zq_prog_12_method_7_code_0 22 rfl rfl rfl) (zd_b zq_prog_12_method_7_code_0 23 rfl rfl rfl) (zd_b zq_prog_12_method_7_code_0 24 rfl rfl rfl)
theorem d_Tr_freeze_25 : decode prog_12_method_7_code 25 = .ok (.iload_n 1, 1) := zo_27 (zd_b zq_prog_12_method_7_code_0 25 rfl rfl rfl)
theorem d_Tr_freeze_26 : decode prog_12_method_7_code 26 = .ok (.invokevirtual 77, 3) := zo_182 (d := 0) (e := 77) (zd_b zq_prog_12_method_7_code_0 26 rfl rfl rfl) (zd_b zq_prog_12_method_7_code_0 27 rfl rfl rfl) (zd_b zq_prog_12_method_7_code_0 28 rfl rfl rfl)
theorem ok_Tr_freeze_Fz_begin : z_ok M_Tr_freeze M_Fz_begin 3 := ⟨z_mj2 (i := 233) rfl (by decide +kernel), rfl, ⟨by decide +kernel, by decide +kernel, by decide +kernel⟩, ⟨by decide, by decide⟩, z_mj1 (i := 4) rfl (by decide +kernel), rfl⟩
theorem ln_Tr_77 : Cond.methodLink "Ironpour$Trial" 77 M_Fz_begin.1 ∈ z_gw := z_mj2 (i := 230) rfl (by decide +kernel)
theorem w_im_Fz_begin : Cond.instanceMethod M_Fz_begin.1 ∈ z_gw := z_mj2 (i := 231) rfl (by decide +kernel)
theorem w_se_Fz_begin : Cond.selects M_Fz_begin.1.cls M_Fz_begin.1 M_Fz_begin.1 ∈ z_gw := z_mj2 (i := 232) rfl (by decide +kernel)
theorem d_Tr_freeze_29 : decode prog_12_method_7_code 29 = .ok (.iconst 1, 1) := zo_4 (zd_b zq_prog_12_method_7_code_0 29 rfl rfl rfl)
theorem d_Tr_freeze_30 : decode prog_12_method_7_code 30 = .ok (.istore_n 2, 1) := zo_61 (zd_b zq_prog_12_method_7_code_0 30 rfl rfl rfl)
set_option maxHeartbeats 4000000 in
set_option maxRecDepth 100000 in
theorem L_Tr_freezeN_31 (g : zG) (a a1 a2 az az1 az2 az3 az4 az5 az6 a4 a5 a6 : Nat) (run fo liq : Int32) (ce fi F1 F2 F3 F4 F5 F6 fed seen : Nat → Int32) (qn : Nat → Nat) (h : Int32) (hf : ¬ fo = h) (w0 : zW) (n : Nat) : ∀ (d i : Nat), i ≤ 400 → 400 < i + d → DV g M_Tr_freeze (fun o cs1 => o = .inl none ∧ cs1 = [(a, .inr (10, [.ref a1, .ref a2, .ref az, .ref a4, .ref a5, .ref a6, .int (flR run), .int h])), (a1, .inl (1, 108, .inl ce)), (a2, .inl (0, 108, .inl (flP ce fi run))), (az, .inr (2, [.ref az1, .ref az2, .ref az3, .ref az4, .ref az5, .ref az6, .int ((pzS (toS ce (flP ce fi run) 2 F5 108) (toS ce (flP ce fi run) 3 F6 108) (bgQ ce (flP ce fi run) h F1 F2 F3 F4 liq) 400).1.2.2.2)])), (az1, .inl (0, 108, .inl ((pzS (toS ce (flP ce fi run) 2 F5 108) (toS ce (flP ce fi run) 3 F6 108) (bgQ ce (flP ce fi run) h F1 F2 F3 F4 liq) 400).1.1))), (az2, .inl (0, 108, .inl ((pzS (toS ce (flP ce fi run) 2 F5 108) (toS ce (flP ce fi run) 3 F6 108) (bgQ ce (flP ce fi run) h F1 F2 F3 F4 liq) 400).2))), (az3, .inl (0, 108, .inl ((pzS (toS ce (flP ce fi run) 2 F5 108) (toS ce (flP ce fi run) 3 F6 108) (bgQ ce (flP ce fi run) h F1 F2 F3 F4 liq) 400).1.2.1))), (az4, .inl (0, 108, .inl ((pzS (toS ce (flP ce fi run) 2 F5 108) (toS ce (flP ce fi run) 3 F6 108) (bgQ ce (flP ce fi run) h F1 F2 F3 F4 liq) 400).1.2.2.1))), (az5, .inl (0, 108, .inl (toS ce (flP ce fi run) 2 F5 108))), (az6, .inl (0, 108, .inl (toS ce (flP ce fi run) 3 F6 108))), (a4, .inl (2, 108, .inl ((fdB ce (flP ce fi run) (pzS (toS ce (flP ce fi run) 2 F5 108) (toS ce (flP ce fi run) 3 F6 108) (bgQ ce (flP ce fi run) h F1 F2 F3 F4 liq) 400).1.2.2.1 (fdA ce (flP ce fi run) (fed, qn, 0, 0) 108) 108).1))), (a5, .inl (2, 108, .inl seen)), (a6, .inl (0, 108, .inl (fun k => nI ((fdB ce (flP ce fi run) (pzS (toS ce (flP ce fi run) 2 F5 108) (toS ce (flP ce fi run) 3 F6 108) (bgQ ce (flP ce fi run) h F1 F2 F3 F4 liq) 400).1.2.2.1 (fdA ce (flP ce fi run) (fed, qn, 0, 0) 108) 108).2.1 k))))]) w0 n 31 [(2, .int (nI (i + 1))), (0, .ref a), (1, .int h)] [] [(a, .inr (10, [.ref a1, .ref a2, .ref az, .ref a4, .ref a5, .ref a6, .int (flR run), .int fo])), (a1, .inl (1, 108, .inl ce)), (a2, .inl (0, 108, .inl (flP ce fi run))), (az, .inr (2, [.ref az1, .ref az2, .ref az3, .ref az4, .ref az5, .ref az6, .int ((pzS (toS ce (flP ce fi run) 2 F5 108) (toS ce (flP ce fi run) 3 F6 108) (bgQ ce (flP ce fi run) h F1 F2 F3 F4 liq) i).1.2.2.2)])), (az1, .inl (0, 108, .inl ((pzS (toS ce (flP ce fi run) 2 F5 108) (toS ce (flP ce fi run) 3 F6 108) (bgQ ce (flP ce fi run) h F1 F2 F3 F4 liq) i).1.1))), (az2, .inl (0, 108, .inl ((pzS (toS ce (flP ce fi run) 2 F5 108) (toS ce (flP ce fi run) 3 F6 108) (bgQ ce (flP ce fi run) h F1 F2 F3 F4 liq) i).2))), (az3, .inl (0, 108, .inl ((pzS (toS ce (flP ce fi run) 2 F5 108) (toS ce (flP ce fi run) 3 F6 108) (bgQ ce (flP ce fi run) h F1 F2 F3 F4 liq) i).1.2.1))), (az4, .inl (0, 108, .inl ((pzS (toS ce (flP ce fi run) 2 F5 108) (toS ce (flP ce fi run) 3 F6 108) (bgQ ce (flP ce fi run) h F1 F2 F3 F4 liq) i).1.2.2.1))), (az5, .inl (0, 108, .inl (toS ce (flP ce fi run) 2 F5 108))), (az6, .inl (0, 108, .inl (toS ce (flP ce fi run) 3 F6 108))), (a4, .inl (2, 108, .inl fed)), (a5, .inl (2, 108, .inl seen)), (a6, .inl (0, 108, .inl (fun k => nI (qn k))))] 0 0 := by
  intro d
  induction d with
  | zero => intro i h1 h2 ; exact absurd h2 (by omega)
  | succ d ih =>
    intro i h1 h2 
    refine r_iload_n d_Tr_freeze_31 rfl 0 rfl ?_
    refine r_sipush d_Tr_freeze_32 (v := 400) (by decide) ?_
    refine r_icmp_gt (tgt := 62) d_Tr_freeze_35 (by decide) (fun c_35 => ?_) (fun c_35 => ?_)
    · have hn := z_lt (a := 400) (by omega) (by decide) c_35
      have hx : (pzS (toS ce (flP ce fi run) 2 F5 108) (toS ce (flP ce fi run) 3 F6 108) (bgQ ce (flP ce fi run) h F1 F2 F3 F4 liq) 400) = (pzS (toS ce (flP ce fi run) 2 F5 108) (toS ce (flP ce fi run) 3 F6 108) (bgQ ce (flP ce fi run) h F1 F2 F3 F4 liq) i) := by rw [show i = 400 by omega]
      refine r_aload_n d_Tr_freeze_62 rfl 1 rfl ?_
      refine r_callV (As := []) (rest := []) (csC := [(a, .inr (10, [.ref a1, .ref a2, .ref az, .ref a4, .ref a5, .ref a6, .int (flR run), .int fo])), (a1, .inl (1, 108, .inl ce)), (a2, .inl (0, 108, .inl (flP ce fi run))), (az, .inr (2, [.ref az1, .ref az2, .ref az3, .ref az4, .ref az5, .ref az6, .int ((pzS (toS ce (flP ce fi run) 2 F5 108) (toS ce (flP ce fi run) 3 F6 108) (bgQ ce (flP ce fi run) h F1 F2 F3 F4 liq) i).1.2.2.2)])), (az4, .inl (0, 108, .inl ((pzS (toS ce (flP ce fi run) 2 F5 108) (toS ce (flP ce fi run) 3 F6 108) (bgQ ce (flP ce fi run) h F1 F2 F3 F4 liq) i).1.2.2.1))), (a4, .inl (2, 108, .inl fed)), (a5, .inl (2, 108, .inl seen)), (a6, .inl (0, 108, .inl (fun k => nI (qn k))))]) (is := [0, 1, 2, 3, 7, 10, 11, 12]) (q0 := 0) rfl rfl ln_Tr_88 w_im_Tr_feed w_se_Tr_feed ok_Tr_freeze_Tr_feed d_Tr_freeze_63 (C_Tr_feed g a a1 a2 az az1 az2 az3 az4 az5 az6 a4 a5 a6 (flR run) fo (pzS (toS ce (flP ce fi run) 2 F5 108) (toS ce (flP ce fi run) 3 F6 108) (bgQ ce (flP ce fi run) h F1 F2 F3 F4 liq) i).1.2.2.2 ce (flP ce fi run) (pzS (toS ce (flP ce fi run) 2 F5 108) (toS ce (flP ce fi run) 3 F6 108) (bgQ ce (flP ce fi run) h F1 F2 F3 F4 liq) i).1.2.2.1 fed seen qn) rfl rfl (Nat.le_of_ble_eq_true rfl) rfl (by decide) (by omega) (by omega) (fun E cs1 hx => ?_) (fun v cs1 hx => ?_)
      · exact absurd hx.1 (by simp)
      · obtain ⟨e1, rfl⟩ := hx
        cases e1
        refine ⟨rfl, ?_⟩
        refine r_st (st2 := []) rfl ?_
        refine r_cs (cs2 := [(a, .inr (10, [.ref a1, .ref a2, .ref az, .ref a4, .ref a5, .ref a6, .int (flR run), .int fo])), (a1, .inl (1, 108, .inl ce)), (a2, .inl (0, 108, .inl (flP ce fi run))), (az, .inr (2, [.ref az1, .ref az2, .ref az3, .ref az4, .ref az5, .ref az6, .int ((pzS (toS ce (flP ce fi run) 2 F5 108) (toS ce (flP ce fi run) 3 F6 108) (bgQ ce (flP ce fi run) h F1 F2 F3 F4 liq) i).1.2.2.2)])), (az1, .inl (0, 108, .inl ((pzS (toS ce (flP ce fi run) 2 F5 108) (toS ce (flP ce fi run) 3 F6 108) (bgQ ce (flP ce fi run) h F1 F2 F3 F4 liq) i).1.1))), (az2, .inl (0, 108, .inl ((pzS (toS ce (flP ce fi run) 2 F5 108) (toS ce (flP ce fi run) 3 F6 108) (bgQ ce (flP ce fi run) h F1 F2 F3 F4 liq) i).2))), (az3, .inl (0, 108, .inl ((pzS (toS ce (flP ce fi run) 2 F5 108) (toS ce (flP ce fi run) 3 F6 108) (bgQ ce (flP ce fi run) h F1 F2 F3 F4 liq) i).1.2.1))), (az4, .inl (0, 108, .inl ((pzS (toS ce (flP ce fi run) 2 F5 108) (toS ce (flP ce fi run) 3 F6 108) (bgQ ce (flP ce fi run) h F1 F2 F3 F4 liq) i).1.2.2.1))), (az5, .inl (0, 108, .inl (toS ce (flP ce fi run) 2 F5 108))), (az6, .inl (0, 108, .inl (toS ce (flP ce fi run) 3 F6 108))), (a4, .inl (2, 108, .inl ((fdB ce (flP ce fi run) (pzS (toS ce (flP ce fi run) 2 F5 108) (toS ce (flP ce fi run) 3 F6 108) (bgQ ce (flP ce fi run) h F1 F2 F3 F4 liq) i).1.2.2.1 (fdA ce (flP ce fi run) (fed, qn, 0, 0) 108) 108).1))), (a5, .inl (2, 108, .inl seen)), (a6, .inl (0, 108, .inl (fun k => nI ((fdB ce (flP ce fi run) (pzS (toS ce (flP ce fi run) 2 F5 108) (toS ce (flP ce fi run) 3 F6 108) (bgQ ce (flP ce fi run) h F1 F2 F3 F4 liq) i).1.2.2.1 (fdA ce (flP ce fi run) (fed, qn, 0, 0) 108) 108).2.1 k))))]) rfl ?_
        refine r_aload_n d_Tr_freeze_66 rfl 1 rfl ?_
        refine r_iload_n d_Tr_freeze_67 rfl 2 rfl ?_
        refine r_put fp_Tr_46 d_Tr_freeze_68 (fun h => nomatch h) rfl rfl (q0 := 0) rfl (Nat.le_of_ble_eq_true rfl) (cs' := [(a, .inr (10, [.ref a1, .ref a2, .ref az, .ref a4, .ref a5, .ref a6, .int (flR run), .int h])), (a1, .inl (1, 108, .inl ce)), (a2, .inl (0, 108, .inl (flP ce fi run))), (az, .inr (2, [.ref az1, .ref az2, .ref az3, .ref az4, .ref az5, .ref az6, .int ((pzS (toS ce (flP ce fi run) 2 F5 108) (toS ce (flP ce fi run) 3 F6 108) (bgQ ce (flP ce fi run) h F1 F2 F3 F4 liq) i).1.2.2.2)])), (az1, .inl (0, 108, .inl ((pzS (toS ce (flP ce fi run) 2 F5 108) (toS ce (flP ce fi run) 3 F6 108) (bgQ ce (flP ce fi run) h F1 F2 F3 F4 liq) i).1.1))), (az2, .inl (0, 108, .inl ((pzS (toS ce (flP ce fi run) 2 F5 108) (toS ce (flP ce fi run) 3 F6 108) (bgQ ce (flP ce fi run) h F1 F2 F3 F4 liq) i).2))), (az3, .inl (0, 108, .inl ((pzS (toS ce (flP ce fi run) 2 F5 108) (toS ce (flP ce fi run) 3 F6 108) (bgQ ce (flP ce fi run) h F1 F2 F3 F4 liq) i).1.2.1))), (az4, .inl (0, 108, .inl ((pzS (toS ce (flP ce fi run) 2 F5 108) (toS ce (flP ce fi run) 3 F6 108) (bgQ ce (flP ce fi run) h F1 F2 F3 F4 liq) i).1.2.2.1))), (az5, .inl (0, 108, .inl (toS ce (flP ce fi run) 2 F5 108))), (az6, .inl (0, 108, .inl (toS ce (flP ce fi run) 3 F6 108))), (a4, .inl (2, 108, .inl ((fdB ce (flP ce fi run) (pzS (toS ce (flP ce fi run) 2 F5 108) (toS ce (flP ce fi run) 3 F6 108) (bgQ ce (flP ce fi run) h F1 F2 F3 F4 liq) i).1.2.2.1 (fdA ce (flP ce fi run) (fed, qn, 0, 0) 108) 108).1))), (a5, .inl (2, 108, .inl seen)), (a6, .inl (0, 108, .inl (fun k => nI ((fdB ce (flP ce fi run) (pzS (toS ce (flP ce fi run) 2 F5 108) (toS ce (flP ce fi run) 3 F6 108) (bgQ ce (flP ce fi run) h F1 F2 F3 F4 liq) i).1.2.2.1 (fdA ce (flP ce fi run) (fed, qn, 0, 0) 108) 108).2.1 k))))]) rfl ?_
        refine r_vret d_Tr_freeze_71 rfl ?_
        exact ⟨rfl, by rw [hx]⟩
    · have hn := z_nlt (a := 400) (by omega) (by decide) c_35
      refine r_aload_n d_Tr_freeze_38 rfl 1 rfl ?_
      refine r_get fs_Tr_22 d_Tr_freeze_39 (q0 := 0) rfl rfl ?_
      refine r_get fs_Tr_81 d_Tr_freeze_42 (q0 := 3) rfl rfl ?_
      refine r_if_le (tgt := 62) d_Tr_freeze_45 (by decide) (fun c_45 => ?_) (fun c_45 => ?_)
      · have hx : (pzS (toS ce (flP ce fi run) 2 F5 108) (toS ce (flP ce fi run) 3 F6 108) (bgQ ce (flP ce fi run) h F1 F2 F3 F4 liq) 400) = (pzS (toS ce (flP ce fi run) 2 F5 108) (toS ce (flP ce fi run) 3 F6 108) (bgQ ce (flP ce fi run) h F1 F2 F3 F4 liq) i) := by have := pz_stop (Int32.not_lt.mpr c_45) (400 - i); rw [show i + (400 - i) = 400 by omega] at this; exact this
        refine r_aload_n d_Tr_freeze_62 rfl 1 rfl ?_
        refine r_callV (As := []) (rest := []) (csC := [(a, .inr (10, [.ref a1, .ref a2, .ref az, .ref a4, .ref a5, .ref a6, .int (flR run), .int fo])), (a1, .inl (1, 108, .inl ce)), (a2, .inl (0, 108, .inl (flP ce fi run))), (az, .inr (2, [.ref az1, .ref az2, .ref az3, .ref az4, .ref az5, .ref az6, .int ((pzS (toS ce (flP ce fi run) 2 F5 108) (toS ce (flP ce fi run) 3 F6 108) (bgQ ce (flP ce fi run) h F1 F2 F3 F4 liq) i).1.2.2.2)])), (az4, .inl (0, 108, .inl ((pzS (toS ce (flP ce fi run) 2 F5 108) (toS ce (flP ce fi run) 3 F6 108) (bgQ ce (flP ce fi run) h F1 F2 F3 F4 liq) i).1.2.2.1))), (a4, .inl (2, 108, .inl fed)), (a5, .inl (2, 108, .inl seen)), (a6, .inl (0, 108, .inl (fun k => nI (qn k))))]) (is := [0, 1, 2, 3, 7, 10, 11, 12]) (q0 := 0) rfl rfl ln_Tr_88 w_im_Tr_feed w_se_Tr_feed ok_Tr_freeze_Tr_feed d_Tr_freeze_63 (C_Tr_feed g a a1 a2 az az1 az2 az3 az4 az5 az6 a4 a5 a6 (flR run) fo (pzS (toS ce (flP ce fi run) 2 F5 108) (toS ce (flP ce fi run) 3 F6 108) (bgQ ce (flP ce fi run) h F1 F2 F3 F4 liq) i).1.2.2.2 ce (flP ce fi run) (pzS (toS ce (flP ce fi run) 2 F5 108) (toS ce (flP ce fi run) 3 F6 108) (bgQ ce (flP ce fi run) h F1 F2 F3 F4 liq) i).1.2.2.1 fed seen qn) rfl rfl (Nat.le_of_ble_eq_true rfl) rfl (by decide) (by omega) (by omega) (fun E cs1 hx => ?_) (fun v cs1 hx => ?_)
        · exact absurd hx.1 (by simp)
        · obtain ⟨e1, rfl⟩ := hx
          cases e1
          refine ⟨rfl, ?_⟩
          refine r_st (st2 := []) rfl ?_
          refine r_cs (cs2 := [(a, .inr (10, [.ref a1, .ref a2, .ref az, .ref a4, .ref a5, .ref a6, .int (flR run), .int fo])), (a1, .inl (1, 108, .inl ce)), (a2, .inl (0, 108, .inl (flP ce fi run))), (az, .inr (2, [.ref az1, .ref az2, .ref az3, .ref az4, .ref az5, .ref az6, .int ((pzS (toS ce (flP ce fi run) 2 F5 108) (toS ce (flP ce fi run) 3 F6 108) (bgQ ce (flP ce fi run) h F1 F2 F3 F4 liq) i).1.2.2.2)])), (az1, .inl (0, 108, .inl ((pzS (toS ce (flP ce fi run) 2 F5 108) (toS ce (flP ce fi run) 3 F6 108) (bgQ ce (flP ce fi run) h F1 F2 F3 F4 liq) i).1.1))), (az2, .inl (0, 108, .inl ((pzS (toS ce (flP ce fi run) 2 F5 108) (toS ce (flP ce fi run) 3 F6 108) (bgQ ce (flP ce fi run) h F1 F2 F3 F4 liq) i).2))), (az3, .inl (0, 108, .inl ((pzS (toS ce (flP ce fi run) 2 F5 108) (toS ce (flP ce fi run) 3 F6 108) (bgQ ce (flP ce fi run) h F1 F2 F3 F4 liq) i).1.2.1))), (az4, .inl (0, 108, .inl ((pzS (toS ce (flP ce fi run) 2 F5 108) (toS ce (flP ce fi run) 3 F6 108) (bgQ ce (flP ce fi run) h F1 F2 F3 F4 liq) i).1.2.2.1))), (az5, .inl (0, 108, .inl (toS ce (flP ce fi run) 2 F5 108))), (az6, .inl (0, 108, .inl (toS ce (flP ce fi run) 3 F6 108))), (a4, .inl (2, 108, .inl ((fdB ce (flP ce fi run) (pzS (toS ce (flP ce fi run) 2 F5 108) (toS ce (flP ce fi run) 3 F6 108) (bgQ ce (flP ce fi run) h F1 F2 F3 F4 liq) i).1.2.2.1 (fdA ce (flP ce fi run) (fed, qn, 0, 0) 108) 108).1))), (a5, .inl (2, 108, .inl seen)), (a6, .inl (0, 108, .inl (fun k => nI ((fdB ce (flP ce fi run) (pzS (toS ce (flP ce fi run) 2 F5 108) (toS ce (flP ce fi run) 3 F6 108) (bgQ ce (flP ce fi run) h F1 F2 F3 F4 liq) i).1.2.2.1 (fdA ce (flP ce fi run) (fed, qn, 0, 0) 108) 108).2.1 k))))]) rfl ?_
          refine r_aload_n d_Tr_freeze_66 rfl 1 rfl ?_
          refine r_iload_n d_Tr_freeze_67 rfl 2 rfl ?_
          refine r_put fp_Tr_46 d_Tr_freeze_68 (fun h => nomatch h) rfl rfl (q0 := 0) rfl (Nat.le_of_ble_eq_true rfl) (cs' := [(a, .inr (10, [.ref a1, .ref a2, .ref az, .ref a4, .ref a5, .ref a6, .int (flR run), .int h])), (a1, .inl (1, 108, .inl ce)), (a2, .inl (0, 108, .inl (flP ce fi run))), (az, .inr (2, [.ref az1, .ref az2, .ref az3, .ref az4, .ref az5, .ref az6, .int ((pzS (toS ce (flP ce fi run) 2 F5 108) (toS ce (flP ce fi run) 3 F6 108) (bgQ ce (flP ce fi run) h F1 F2 F3 F4 liq) i).1.2.2.2)])), (az1, .inl (0, 108, .inl ((pzS (toS ce (flP ce fi run) 2 F5 108) (toS ce (flP ce fi run) 3 F6 108) (bgQ ce (flP ce fi run) h F1 F2 F3 F4 liq) i).1.1))), (az2, .inl (0, 108, .inl ((pzS (toS ce (flP ce fi run) 2 F5 108) (toS ce (flP ce fi run) 3 F6 108) (bgQ ce (flP ce fi run) h F1 F2 F3 F4 liq) i).2))), (az3, .inl (0, 108, .inl ((pzS (toS ce (flP ce fi run) 2 F5 108) (toS ce (flP ce fi run) 3 F6 108) (bgQ ce (flP ce fi run) h F1 F2 F3 F4 liq) i).1.2.1))), (az4, .inl (0, 108, .inl ((pzS (toS ce (flP ce fi run) 2 F5 108) (toS ce (flP ce fi run) 3 F6 108) (bgQ ce (flP ce fi run) h F1 F2 F3 F4 liq) i).1.2.2.1))), (az5, .inl (0, 108, .inl (toS ce (flP ce fi run) 2 F5 108))), (az6, .inl (0, 108, .inl (toS ce (flP ce fi run) 3 F6 108))), (a4, .inl (2, 108, .inl ((fdB ce (flP ce fi run) (pzS (toS ce (flP ce fi run) 2 F5 108) (toS ce (flP ce fi run) 3 F6 108) (bgQ ce (flP ce fi run) h F1 F2 F3 F4 liq) i).1.2.2.1 (fdA ce (flP ce fi run) (fed, qn, 0, 0) 108) 108).1))), (a5, .inl (2, 108, .inl seen)), (a6, .inl (0, 108, .inl (fun k => nI ((fdB ce (flP ce fi run) (pzS (toS ce (flP ce fi run) 2 F5 108) (toS ce (flP ce fi run) 3 F6 108) (bgQ ce (flP ce fi run) h F1 F2 F3 F4 liq) i).1.2.2.1 (fdA ce (flP ce fi run) (fed, qn, 0, 0) 108) 108).2.1 k))))]) rfl ?_
          refine r_vret d_Tr_freeze_71 rfl ?_
          exact ⟨rfl, by rw [hx]⟩
      · have hz := Int32.not_le.mp c_45
        refine r_aload_n d_Tr_freeze_48 rfl 1 rfl ?_
        refine r_get fs_Tr_22 d_Tr_freeze_49 (q0 := 0) rfl rfl ?_
        refine r_iload_n d_Tr_freeze_52 rfl 0 rfl ?_
        refine r_callV (As := [.int (nI (i + 1))]) (rest := []) (csC := [(az, .inr (2, [.ref az1, .ref az2, .ref az3, .ref az4, .ref az5, .ref az6, .int ((pzS (toS ce (flP ce fi run) 2 F5 108) (toS ce (flP ce fi run) 3 F6 108) (bgQ ce (flP ce fi run) h F1 F2 F3 F4 liq) i).1.2.2.2)])), (az1, .inl (0, 108, .inl ((pzS (toS ce (flP ce fi run) 2 F5 108) (toS ce (flP ce fi run) 3 F6 108) (bgQ ce (flP ce fi run) h F1 F2 F3 F4 liq) i).1.1))), (az2, .inl (0, 108, .inl ((pzS (toS ce (flP ce fi run) 2 F5 108) (toS ce (flP ce fi run) 3 F6 108) (bgQ ce (flP ce fi run) h F1 F2 F3 F4 liq) i).2))), (az3, .inl (0, 108, .inl ((pzS (toS ce (flP ce fi run) 2 F5 108) (toS ce (flP ce fi run) 3 F6 108) (bgQ ce (flP ce fi run) h F1 F2 F3 F4 liq) i).1.2.1))), (az4, .inl (0, 108, .inl ((pzS (toS ce (flP ce fi run) 2 F5 108) (toS ce (flP ce fi run) 3 F6 108) (bgQ ce (flP ce fi run) h F1 F2 F3 F4 liq) i).1.2.2.1))), (az5, .inl (0, 108, .inl (toS ce (flP ce fi run) 2 F5 108))), (az6, .inl (0, 108, .inl (toS ce (flP ce fi run) 3 F6 108)))]) (is := [3, 4, 5, 6, 7, 8, 9]) (q0 := 3) rfl rfl ln_Tr_84 w_im_Fz_pass w_se_Fz_pass ok_Tr_freeze_Fz_pass d_Tr_freeze_53 (C_Fz_passQ g az az1 az2 az3 az4 az5 az6 (toS ce (flP ce fi run) 2 F5 108) (toS ce (flP ce fi run) 3 F6 108) (nI (i + 1)) (pzS (toS ce (flP ce fi run) 2 F5 108) (toS ce (flP ce fi run) 3 F6 108) (bgQ ce (flP ce fi run) h F1 F2 F3 F4 liq) i)) rfl rfl (Nat.le_of_ble_eq_true rfl) rfl (by decide) (by omega) (by omega) (fun E cs1 hx => ?_) (fun v cs1 hx => ?_)
        · exact absurd hx.1 (by simp)
        · obtain ⟨e1, rfl⟩ := hx
          cases e1
          refine ⟨rfl, ?_⟩
          refine r_st (st2 := []) rfl ?_
          refine r_cs (cs2 := [(a, .inr (10, [.ref a1, .ref a2, .ref az, .ref a4, .ref a5, .ref a6, .int (flR run), .int fo])), (a1, .inl (1, 108, .inl ce)), (a2, .inl (0, 108, .inl (flP ce fi run))), (az, .inr (2, [.ref az1, .ref az2, .ref az3, .ref az4, .ref az5, .ref az6, .int ((psT (toS ce (flP ce fi run) 2 F5 108) (toS ce (flP ce fi run) 3 F6 108) (nI (i + 1)) (pzS (toS ce (flP ce fi run) 2 F5 108) (toS ce (flP ce fi run) 3 F6 108) (bgQ ce (flP ce fi run) h F1 F2 F3 F4 liq) i)).1.2.2.2)])), (az1, .inl (0, 108, .inl ((psT (toS ce (flP ce fi run) 2 F5 108) (toS ce (flP ce fi run) 3 F6 108) (nI (i + 1)) (pzS (toS ce (flP ce fi run) 2 F5 108) (toS ce (flP ce fi run) 3 F6 108) (bgQ ce (flP ce fi run) h F1 F2 F3 F4 liq) i)).1.1))), (az2, .inl (0, 108, .inl ((psT (toS ce (flP ce fi run) 2 F5 108) (toS ce (flP ce fi run) 3 F6 108) (nI (i + 1)) (pzS (toS ce (flP ce fi run) 2 F5 108) (toS ce (flP ce fi run) 3 F6 108) (bgQ ce (flP ce fi run) h F1 F2 F3 F4 liq) i)).2))), (az3, .inl (0, 108, .inl ((psT (toS ce (flP ce fi run) 2 F5 108) (toS ce (flP ce fi run) 3 F6 108) (nI (i + 1)) (pzS (toS ce (flP ce fi run) 2 F5 108) (toS ce (flP ce fi run) 3 F6 108) (bgQ ce (flP ce fi run) h F1 F2 F3 F4 liq) i)).1.2.1))), (az4, .inl (0, 108, .inl ((psT (toS ce (flP ce fi run) 2 F5 108) (toS ce (flP ce fi run) 3 F6 108) (nI (i + 1)) (pzS (toS ce (flP ce fi run) 2 F5 108) (toS ce (flP ce fi run) 3 F6 108) (bgQ ce (flP ce fi run) h F1 F2 F3 F4 liq) i)).1.2.2.1))), (az5, .inl (0, 108, .inl (toS ce (flP ce fi run) 2 F5 108))), (az6, .inl (0, 108, .inl (toS ce (flP ce fi run) 3 F6 108))), (a4, .inl (2, 108, .inl fed)), (a5, .inl (2, 108, .inl seen)), (a6, .inl (0, 108, .inl (fun k => nI (qn k))))]) rfl ?_
          refine r_iinc (lv' := [(2, .int (nI ((i + 1) + 1))), (0, .ref a), (1, .int h)]) (v := nI ((i + 1) + 1)) d_Tr_freeze_56 (j := 0) rfl (nI_add _ _) (by decide) rfl ?_
          refine r_goto (tgt := 31) d_Tr_freeze_59 (by decide) ?_
          refine r_lvE (lv2 := [(2, .int (nI ((i + 1) + 1))), (0, .ref a), (1, .int h)]) (rfl) ?_
          refine r_cs (cs2 := [(a, .inr (10, [.ref a1, .ref a2, .ref az, .ref a4, .ref a5, .ref a6, .int (flR run), .int fo])), (a1, .inl (1, 108, .inl ce)), (a2, .inl (0, 108, .inl (flP ce fi run))), (az, .inr (2, [.ref az1, .ref az2, .ref az3, .ref az4, .ref az5, .ref az6, .int ((pzS (toS ce (flP ce fi run) 2 F5 108) (toS ce (flP ce fi run) 3 F6 108) (bgQ ce (flP ce fi run) h F1 F2 F3 F4 liq) (i + 1)).1.2.2.2)])), (az1, .inl (0, 108, .inl ((pzS (toS ce (flP ce fi run) 2 F5 108) (toS ce (flP ce fi run) 3 F6 108) (bgQ ce (flP ce fi run) h F1 F2 F3 F4 liq) (i + 1)).1.1))), (az2, .inl (0, 108, .inl ((pzS (toS ce (flP ce fi run) 2 F5 108) (toS ce (flP ce fi run) 3 F6 108) (bgQ ce (flP ce fi run) h F1 F2 F3 F4 liq) (i + 1)).2))), (az3, .inl (0, 108, .inl ((pzS (toS ce (flP ce fi run) 2 F5 108) (toS ce (flP ce fi run) 3 F6 108) (bgQ ce (flP ce fi run) h F1 F2 F3 F4 liq) (i + 1)).1.2.1))), (az4, .inl (0, 108, .inl ((pzS (toS ce (flP ce fi run) 2 F5 108) (toS ce (flP ce fi run) 3 F6 108) (bgQ ce (flP ce fi run) h F1 F2 F3 F4 liq) (i + 1)).1.2.2.1))), (az5, .inl (0, 108, .inl (toS ce (flP ce fi run) 2 F5 108))), (az6, .inl (0, 108, .inl (toS ce (flP ce fi run) 3 F6 108))), (a4, .inl (2, 108, .inl fed)), (a5, .inl (2, 108, .inl seen)), (a6, .inl (0, 108, .inl (fun k => nI (qn k))))]) (by rw [pz_n hz]) ?_
          exact ih (i + 1) (by omega) (by omega)
set_option maxHeartbeats 4000000 in
set_option maxRecDepth 100000 in
theorem C_Tr_freezeN (g : zG) (a a1 a2 az az1 az2 az3 az4 az5 az6 a4 a5 a6 : Nat) (run fo liq : Int32) (ce fi F1 F2 F3 F4 F5 F6 fed seen : Nat → Int32) (qn : Nat → Nat) (h : Int32) (hf : ¬ fo = h) : CT g M_Tr_freeze [.ref a, .int h] [(a, .inr (10, [.ref a1, .ref a2, .ref az, .ref a4, .ref a5, .ref a6, .int run, .int fo])), (a1, .inl (1, 108, .inl ce)), (a2, .inl (0, 108, .inl fi)), (az, .inr (2, [.ref az1, .ref az2, .ref az3, .ref az4, .ref az5, .ref az6, .int liq])), (az1, .inl (0, 108, .inl F1)), (az2, .inl (0, 108, .inl F2)), (az3, .inl (0, 108, .inl F3)), (az4, .inl (0, 108, .inl F4)), (az5, .inl (0, 108, .inl F5)), (az6, .inl (0, 108, .inl F6)), (a4, .inl (2, 108, .inl fed)), (a5, .inl (2, 108, .inl seen)), (a6, .inl (0, 108, .inl (fun k => nI (qn k))))] (fun o cs1 => o = .inl none ∧ cs1 = [(a, .inr (10, [.ref a1, .ref a2, .ref az, .ref a4, .ref a5, .ref a6, .int (flR run), .int h])), (a1, .inl (1, 108, .inl ce)), (a2, .inl (0, 108, .inl (flP ce fi run))), (az, .inr (2, [.ref az1, .ref az2, .ref az3, .ref az4, .ref az5, .ref az6, .int ((pzS (toS ce (flP ce fi run) 2 F5 108) (toS ce (flP ce fi run) 3 F6 108) (bgQ ce (flP ce fi run) h F1 F2 F3 F4 liq) 400).1.2.2.2)])), (az1, .inl (0, 108, .inl ((pzS (toS ce (flP ce fi run) 2 F5 108) (toS ce (flP ce fi run) 3 F6 108) (bgQ ce (flP ce fi run) h F1 F2 F3 F4 liq) 400).1.1))), (az2, .inl (0, 108, .inl ((pzS (toS ce (flP ce fi run) 2 F5 108) (toS ce (flP ce fi run) 3 F6 108) (bgQ ce (flP ce fi run) h F1 F2 F3 F4 liq) 400).2))), (az3, .inl (0, 108, .inl ((pzS (toS ce (flP ce fi run) 2 F5 108) (toS ce (flP ce fi run) 3 F6 108) (bgQ ce (flP ce fi run) h F1 F2 F3 F4 liq) 400).1.2.1))), (az4, .inl (0, 108, .inl ((pzS (toS ce (flP ce fi run) 2 F5 108) (toS ce (flP ce fi run) 3 F6 108) (bgQ ce (flP ce fi run) h F1 F2 F3 F4 liq) 400).1.2.2.1))), (az5, .inl (0, 108, .inl (toS ce (flP ce fi run) 2 F5 108))), (az6, .inl (0, 108, .inl (toS ce (flP ce fi run) 3 F6 108))), (a4, .inl (2, 108, .inl ((fdB ce (flP ce fi run) (pzS (toS ce (flP ce fi run) 2 F5 108) (toS ce (flP ce fi run) 3 F6 108) (bgQ ce (flP ce fi run) h F1 F2 F3 F4 liq) 400).1.2.2.1 (fdA ce (flP ce fi run) (fed, qn, 0, 0) 108) 108).1))), (a5, .inl (2, 108, .inl seen)), (a6, .inl (0, 108, .inl (fun k => nI ((fdB ce (flP ce fi run) (pzS (toS ce (flP ce fi run) 2 F5 108) (toS ce (flP ce fi run) 3 F6 108) (bgQ ce (flP ce fi run) h F1 F2 F3 F4 liq) 400).1.2.2.1 (fdA ce (flP ce fi run) (fed, qn, 0, 0) 108) 108).2.1 k))))]) 0 0 := by
  refine z_of (by decide) rfl (Nat.le_of_ble_eq_true rfl) (fun w0 => ?_)
  refine r_lvE (lv2 := [(0, .ref a), (1, .int h)]) rfl ?_
  refine r_aload_n d_Tr_freeze_0 rfl 0 rfl ?_
  refine r_get fs_Tr_46 d_Tr_freeze_1 (q0 := 0) rfl rfl ?_
  refine r_iload_n d_Tr_freeze_4 rfl 1 rfl ?_
  refine r_icmp_ne (tgt := 9) d_Tr_freeze_5 (by decide) (fun c_5 => ?_) (fun c_5 => ?_)
  · refine r_aload_n d_Tr_freeze_9 rfl 0 rfl ?_
    refine r_callV (As := []) (rest := []) (csC := [(a, .inr (10, [.ref a1, .ref a2, .ref az, .ref a4, .ref a5, .ref a6, .int run, .int fo])), (a1, .inl (1, 108, .inl ce)), (a2, .inl (0, 108, .inl fi))]) (is := [0, 1, 2]) (q0 := 0) rfl rfl ln_Tr_75 w_im_Tr_fill w_se_Tr_fill ok_Tr_freeze_Tr_fill d_Tr_freeze_10 (C_Tr_fillU g a a1 a2 az a4 a5 a6 run fo ce fi) rfl rfl (Nat.le_of_ble_eq_true rfl) rfl (by decide) (by omega) (by omega) (fun E cs1 hx => ?_) (fun v cs1 hx => ?_)
    · exact absurd hx.1 (by simp)
    · obtain ⟨e1, rfl⟩ := hx
      cases e1
      refine ⟨rfl, ?_⟩
      refine r_st (st2 := []) rfl ?_
      refine r_cs (cs2 := [(a, .inr (10, [.ref a1, .ref a2, .ref az, .ref a4, .ref a5, .ref a6, .int (flR run), .int fo])), (a1, .inl (1, 108, .inl ce)), (a2, .inl (0, 108, .inl (flP ce fi run))), (az, .inr (2, [.ref az1, .ref az2, .ref az3, .ref az4, .ref az5, .ref az6, .int liq])), (az1, .inl (0, 108, .inl F1)), (az2, .inl (0, 108, .inl F2)), (az3, .inl (0, 108, .inl F3)), (az4, .inl (0, 108, .inl F4)), (az5, .inl (0, 108, .inl F5)), (az6, .inl (0, 108, .inl F6)), (a4, .inl (2, 108, .inl fed)), (a5, .inl (2, 108, .inl seen)), (a6, .inl (0, 108, .inl (fun k => nI (qn k))))]) rfl ?_
      refine r_aload_n d_Tr_freeze_13 rfl 0 rfl ?_
      refine r_get fs_Tr_22 d_Tr_freeze_14 (q0 := 0) rfl rfl ?_
      refine r_aload_n d_Tr_freeze_17 rfl 0 rfl ?_
      refine r_get fs_Tr_9 d_Tr_freeze_18 (q0 := 0) rfl rfl ?_
      refine r_aload_n d_Tr_freeze_21 rfl 0 rfl ?_
      refine r_get fs_Tr_15 d_Tr_freeze_22 (q0 := 0) rfl rfl ?_
      refine r_iload_n d_Tr_freeze_25 rfl 1 rfl ?_
      refine r_callV (As := [.ref a1, .ref a2, .int h]) (rest := []) (csC := [(az, .inr (2, [.ref az1, .ref az2, .ref az3, .ref az4, .ref az5, .ref az6, .int liq])), (az1, .inl (0, 108, .inl F1)), (az2, .inl (0, 108, .inl F2)), (az3, .inl (0, 108, .inl F3)), (az4, .inl (0, 108, .inl F4)), (az5, .inl (0, 108, .inl F5)), (az6, .inl (0, 108, .inl F6)), (a1, .inl (1, 108, .inl ce)), (a2, .inl (0, 108, .inl (flP ce fi run)))]) (is := [3, 4, 5, 6, 7, 8, 9, 1, 2]) (q0 := 3) rfl rfl ln_Tr_77 w_im_Fz_begin w_se_Fz_begin ok_Tr_freeze_Fz_begin d_Tr_freeze_26 (C_Fz_beginQ g az az1 az2 az3 az4 az5 az6 F1 F2 F3 F4 F5 F6 liq a1 a2 ce (flP ce fi run) h) rfl rfl (Nat.le_of_ble_eq_true rfl) rfl (by decide) (by omega) (by omega) (fun E cs1 hx => ?_) (fun v cs1 hx => ?_)
      · exact absurd hx.1 (by simp)
      · obtain ⟨e1, rfl⟩ := hx
        cases e1
        refine ⟨rfl, ?_⟩
        refine r_st (st2 := []) rfl ?_
        refine r_cs (cs2 := [(a, .inr (10, [.ref a1, .ref a2, .ref az, .ref a4, .ref a5, .ref a6, .int (flR run), .int fo])), (a1, .inl (1, 108, .inl ce)), (a2, .inl (0, 108, .inl (flP ce fi run))), (az, .inr (2, [.ref az1, .ref az2, .ref az3, .ref az4, .ref az5, .ref az6, .int ((bgQ ce (flP ce fi run) h F1 F2 F3 F4 liq).1.2.2.2)])), (az1, .inl (0, 108, .inl ((bgQ ce (flP ce fi run) h F1 F2 F3 F4 liq).1.1))), (az2, .inl (0, 108, .inl ((bgQ ce (flP ce fi run) h F1 F2 F3 F4 liq).2))), (az3, .inl (0, 108, .inl ((bgQ ce (flP ce fi run) h F1 F2 F3 F4 liq).1.2.1))), (az4, .inl (0, 108, .inl ((bgQ ce (flP ce fi run) h F1 F2 F3 F4 liq).1.2.2.1))), (az5, .inl (0, 108, .inl (toS ce (flP ce fi run) 2 F5 108))), (az6, .inl (0, 108, .inl (toS ce (flP ce fi run) 3 F6 108))), (a4, .inl (2, 108, .inl fed)), (a5, .inl (2, 108, .inl seen)), (a6, .inl (0, 108, .inl (fun k => nI (qn k))))]) rfl ?_
        refine r_iconst d_Tr_freeze_29 (v := 1) (by decide) ?_
        refine r_istore_n (lv' := [(2, .int 1), (0, .ref a), (1, .int h)]) d_Tr_freeze_30 rfl (by decide) rfl ?_
        refine r_lvE (lv2 := [(2, .int (nI (0 + 1))), (0, .ref a), (1, .int h)]) (rfl) ?_
        refine r_cs (cs2 := [(a, .inr (10, [.ref a1, .ref a2, .ref az, .ref a4, .ref a5, .ref a6, .int (flR run), .int fo])), (a1, .inl (1, 108, .inl ce)), (a2, .inl (0, 108, .inl (flP ce fi run))), (az, .inr (2, [.ref az1, .ref az2, .ref az3, .ref az4, .ref az5, .ref az6, .int ((pzS (toS ce (flP ce fi run) 2 F5 108) (toS ce (flP ce fi run) 3 F6 108) (bgQ ce (flP ce fi run) h F1 F2 F3 F4 liq) 0).1.2.2.2)])), (az1, .inl (0, 108, .inl ((pzS (toS ce (flP ce fi run) 2 F5 108) (toS ce (flP ce fi run) 3 F6 108) (bgQ ce (flP ce fi run) h F1 F2 F3 F4 liq) 0).1.1))), (az2, .inl (0, 108, .inl ((pzS (toS ce (flP ce fi run) 2 F5 108) (toS ce (flP ce fi run) 3 F6 108) (bgQ ce (flP ce fi run) h F1 F2 F3 F4 liq) 0).2))), (az3, .inl (0, 108, .inl ((pzS (toS ce (flP ce fi run) 2 F5 108) (toS ce (flP ce fi run) 3 F6 108) (bgQ ce (flP ce fi run) h F1 F2 F3 F4 liq) 0).1.2.1))), (az4, .inl (0, 108, .inl ((pzS (toS ce (flP ce fi run) 2 F5 108) (toS ce (flP ce fi run) 3 F6 108) (bgQ ce (flP ce fi run) h F1 F2 F3 F4 liq) 0).1.2.2.1))), (az5, .inl (0, 108, .inl (toS ce (flP ce fi run) 2 F5 108))), (az6, .inl (0, 108, .inl (toS ce (flP ce fi run) 3 F6 108))), (a4, .inl (2, 108, .inl fed)), (a5, .inl (2, 108, .inl seen)), (a6, .inl (0, 108, .inl (fun k => nI (qn k))))]) (by rw [pz_0]) ?_
        exact L_Tr_freezeN_31 g a a1 a2 az az1 az2 az3 az4 az5 az6 a4 a5 a6 run fo liq ce fi F1 F2 F3 F4 F5 F6 fed seen qn h hf w0 _  (400 + 1) 0 (Nat.zero_le _) (by omega)
  · exact absurd c_5 hf
abbrev M_Tr_cool : zM := (⟨"Ironpour$Trial", "cool", "(II)V"⟩, prog_12_method_8_code, 4, (Option.none : Option FieldType), 5, 114, [])
theorem d_Tr_cool_27 : decode prog_12_method_8_code 27 = .ok (.iload_n 3, 1) := zo_29 (zd_b zq_prog_12_method_8_code_0 27 rfl rfl rfl)
theorem d_Tr_cool_28 : decode prog_12_method_8_code 28 = .ok (.iload_n 2, 1) := zo_28 (zd_b zq_prog_12_method_8_code_0 28 rfl rfl rfl)
theorem d_Tr_cool_29 : decode prog_12_method_8_code 29 = .ok (.if_icmp .gt 24, 3) := zo_163 (d := 0) (e := 24) (zd_b zq_prog_12_method_8_code_0 29 rfl rfl rfl) (zd_b zq_prog_12_method_8_code_0 30 rfl rfl rfl) (zd_b zq_prog_12_method_8_code_0 31 rfl rfl rfl) (by decide +kernel)
theorem d_Tr_cool_53 : decode prog_12_method_8_code 53 = .ok (.return_, 1) := zo_177 (zd_b zq_prog_12_method_8_code_1 21 rfl rfl rfl)
theorem d_Tr_cool_32 : decode prog_12_method_8_code 32 = .ok (.iload_n 3, 1) := zo_29 (zd_b zq_prog_12_method_8_code_1 0 rfl rfl rfl)
theorem d_Tr_cool_33 : decode prog_12_method_8_code 33 = .ok (.sipush 400, 3) := zo_17 (d := 1) (e := 144) (zd_b zq_prog_12_method_8_code_1 1 rfl rfl rfl) (zd_b zq_prog_12_method_8_code_1 2 rfl rfl rfl) (zd_b zq_prog_12_method_8_code_1 3 rfl rfl rfl) (by decide +kernel)
theorem d_Tr_cool_36 : decode prog_12_method_8_code 36 = .ok (.if_icmp .gt 17, 3) := zo_163 (d := 0) (e := 17) (zd_b zq_prog_12_method_8_code_1 4 rfl rfl rfl) (zd_b zq_prog_12_method_8_code_1 5 rfl rfl rfl) (zd_b zq_prog_12_method_8_code_1 6 rfl rfl rfl) (by decide +kernel)
theorem d_Tr_cool_39 : decode prog_12_method_8_code 39 = .ok (.aload_n 0, 1) := zo_42 (zd_b zq_prog_12_method_8_code_1 7 rfl rfl rfl)
theorem d_Tr_cool_40 : decode prog_12_method_8_code 40 = .ok (.getfield 22, 3) := zo_180 (d := 0) (e := 22) (zd_b zq_prog_12_method_8_code_1 8 rfl rfl rfl) (zd_b zq_prog_12_method_8_code_1 9 rfl rfl rfl) (zd_b zq_prog_12_method_8_code_1 10 rfl rfl rfl)
theorem d_Tr_cool_43 : decode prog_12_method_8_code 43 = .ok (.iload_n 3, 1) := zo_29 (zd_b zq_prog_12_method_8_code_1 11 rfl rfl rfl)
theorem d_Tr_cool_44 : decode prog_12_method_8_code 44 = .ok (.invokevirtual 84, 3) := zo_182 (d := 0) (e := 84) (zd_b zq_prog_12_method_8_code_1 12 rfl rfl rfl) (zd_b zq_prog_12_method_8_code_1 13 rfl rfl rfl) (zd_b zq_prog_12_method_8_code_1 14 rfl rfl rfl)
theorem ok_Tr_cool_Fz_pass : z_ok M_Tr_cool M_Fz_pass 1 := ⟨z_mj3 (i := 8) rfl (by decide +kernel), rfl, ⟨by decide +kernel, by decide +kernel, by decide +kernel⟩, ⟨by decide, by decide⟩, z_mj1 (i := 4) rfl (by decide +kernel), rfl⟩
theorem d_Tr_cool_47 : decode prog_12_method_8_code 47 = .ok (.iinc 3 1, 3) := by decide +kernel
theorem d_Tr_cool_50 : decode prog_12_method_8_code 50 = .ok (.goto (-23), 3) := zo_167 (d := 255) (e := 233) (zd_b zq_prog_12_method_8_code_1 18 rfl rfl rfl) (zd_b zq_prog_12_method_8_code_1 19 rfl rfl rfl) (zd_b zq_prog_12_method_8_code_1 20 rfl rfl rfl) (by decide +kernel)
theorem d_Tr_cool_0 : decode prog_12_method_8_code 0 = .ok (.aload_n 0, 1) := zo_42 (zd_b zq_prog_12_method_8_code_0 0 rfl rfl rfl)
theorem d_Tr_cool_1 : decode prog_12_method_8_code 1 = .ok (.iconst 0, 1) := zo_3 (zd_b zq_prog_12_method_8_code_0 1 rfl rfl rfl)
theorem d_Tr_cool_2 : decode prog_12_method_8_code 2 = .ok (.putfield 46, 3) := zo_181 (d := 0) (e := 46) (zd_b zq_prog_12_method_8_code_0 2 rfl rfl rfl) (zd_b zq_prog_12_method_8_code_0 3 rfl rfl rfl) (zd_b zq_prog_12_method_8_code_0 4 rfl rfl rfl)
theorem d_Tr_cool_5 : decode prog_12_method_8_code 5 = .ok (.aload_n 0, 1) := zo_42 (zd_b zq_prog_12_method_8_code_0 5 rfl rfl rfl)
theorem d_Tr_cool_6 : decode prog_12_method_8_code 6 = .ok (.invokevirtual 75, 3) := zo_182 (d := 0) (e := 75) (zd_b zq_prog_12_method_8_code_0 6 rfl rfl rfl) (zd_b zq_prog_12_method_8_code_0 7 rfl rfl rfl) (zd_b zq_prog_12_method_8_code_0 8 rfl rfl rfl)
theorem ok_Tr_cool_Tr_fill : z_ok M_Tr_cool M_Tr_fill 0 := ⟨z_mj2 (i := 212) rfl (by decide +kernel), rfl, ⟨by decide +kernel, by decide +kernel, by decide +kernel⟩, ⟨by decide, by decide⟩, z_mj1 (i := 3) rfl (by decide +kernel), rfl⟩
theorem d_Tr_cool_9 : decode prog_12_method_8_code 9 = .ok (.aload_n 0, 1) := zo_42 (zd_b zq_prog_12_method_8_code_0 9 rfl rfl rfl)
theorem d_Tr_cool_10 : decode prog_12_method_8_code 10 = .ok (.getfield 22, 3) := zo_180 (d := 0) (e := 22) (zd_b zq_prog_12_method_8_code_0 10 rfl rfl rfl) (zd_b zq_prog_12_method_8_code_0 11 rfl rfl rfl) (zd_b zq_prog_12_method_8_code_0 12 rfl rfl rfl)
theorem d_Tr_cool_13 : decode prog_12_method_8_code 13 = .ok (.aload_n 0, 1) := zo_42 (zd_b zq_prog_12_method_8_code_0 13 rfl rfl rfl)
theorem d_Tr_cool_14 : decode prog_12_method_8_code 14 = .ok (.getfield 9, 3) := zo_180 (d := 0) (e := 9) (zd_b zq_prog_12_method_8_code_0 14 rfl rfl rfl) (zd_b zq_prog_12_method_8_code_0 15 rfl rfl rfl) (zd_b zq_prog_12_method_8_code_0 16 rfl rfl rfl)
theorem d_Tr_cool_17 : decode prog_12_method_8_code 17 = .ok (.aload_n 0, 1) := zo_42 (zd_b zq_prog_12_method_8_code_0 17 rfl rfl rfl)
theorem d_Tr_cool_18 : decode prog_12_method_8_code 18 = .ok (.getfield 15, 3) := zo_180 (d := 0) (e := 15) (zd_b zq_prog_12_method_8_code_0 18 rfl rfl rfl) (zd_b zq_prog_12_method_8_code_0 19 rfl rfl rfl) (zd_b zq_prog_12_method_8_code_0 20 rfl rfl rfl)
theorem d_Tr_cool_21 : decode prog_12_method_8_code 21 = .ok (.iload_n 1, 1) := zo_27 (zd_b zq_prog_12_method_8_code_0 21 rfl rfl rfl)
theorem d_Tr_cool_22 : decode prog_12_method_8_code 22 = .ok (.invokevirtual 77, 3) := zo_182 (d := 0) (e := 77) (zd_b zq_prog_12_method_8_code_0 22 rfl rfl rfl) (zd_b zq_prog_12_method_8_code_0 23 rfl rfl rfl) (zd_b zq_prog_12_method_8_code_0 24 rfl rfl rfl)
theorem ok_Tr_cool_Fz_begin : z_ok M_Tr_cool M_Fz_begin 3 := ⟨z_mj2 (i := 233) rfl (by decide +kernel), rfl, ⟨by decide +kernel, by decide +kernel, by decide +kernel⟩, ⟨by decide, by decide⟩, z_mj1 (i := 4) rfl (by decide +kernel), rfl⟩
theorem d_Tr_cool_25 : decode prog_12_method_8_code 25 = .ok (.iconst 1, 1) := zo_4 (zd_b zq_prog_12_method_8_code_0 25 rfl rfl rfl)
theorem d_Tr_cool_26 : decode prog_12_method_8_code 26 = .ok (.istore_n 3, 1) := zo_62 (zd_b zq_prog_12_method_8_code_0 26 rfl rfl rfl)
set_option maxHeartbeats 4000000 in
set_option maxRecDepth 100000 in
theorem L_Tr_cool_27 (g : zG) (a a1 a2 az az1 az2 az3 az4 az5 az6 a4 a5 a6 : Nat) (run fo liq : Int32) (ce fi F1 F2 F3 F4 F5 F6 fed seen : Nat → Int32) (qn : Nat → Nat) (h : Int32) (k : Nat) (hk : k ≤ 400) (w0 : zW) (n : Nat) : ∀ (d i : Nat), i ≤ k → k < i + d → DV g M_Tr_cool (fun o cs1 => o = .inl none ∧ cs1 = [(a, .inr (10, [.ref a1, .ref a2, .ref az, .ref a4, .ref a5, .ref a6, .int (flR run), .int 0])), (a1, .inl (1, 108, .inl ce)), (a2, .inl (0, 108, .inl (flP ce fi run))), (az, .inr (2, [.ref az1, .ref az2, .ref az3, .ref az4, .ref az5, .ref az6, .int ((pcS (toS ce (flP ce fi run) 2 F5 108) (toS ce (flP ce fi run) 3 F6 108) (bgQ ce (flP ce fi run) h F1 F2 F3 F4 liq) k).1.2.2.2)])), (az1, .inl (0, 108, .inl ((pcS (toS ce (flP ce fi run) 2 F5 108) (toS ce (flP ce fi run) 3 F6 108) (bgQ ce (flP ce fi run) h F1 F2 F3 F4 liq) k).1.1))), (az2, .inl (0, 108, .inl ((pcS (toS ce (flP ce fi run) 2 F5 108) (toS ce (flP ce fi run) 3 F6 108) (bgQ ce (flP ce fi run) h F1 F2 F3 F4 liq) k).2))), (az3, .inl (0, 108, .inl ((pcS (toS ce (flP ce fi run) 2 F5 108) (toS ce (flP ce fi run) 3 F6 108) (bgQ ce (flP ce fi run) h F1 F2 F3 F4 liq) k).1.2.1))), (az4, .inl (0, 108, .inl ((pcS (toS ce (flP ce fi run) 2 F5 108) (toS ce (flP ce fi run) 3 F6 108) (bgQ ce (flP ce fi run) h F1 F2 F3 F4 liq) k).1.2.2.1))), (az5, .inl (0, 108, .inl (toS ce (flP ce fi run) 2 F5 108))), (az6, .inl (0, 108, .inl (toS ce (flP ce fi run) 3 F6 108))), (a4, .inl (2, 108, .inl fed)), (a5, .inl (2, 108, .inl seen)), (a6, .inl (0, 108, .inl (fun k => nI (qn k))))]) w0 n 27 [(3, .int (nI (i + 1))), (0, .ref a), (1, .int h), (2, .int (nI k))] [] [(a, .inr (10, [.ref a1, .ref a2, .ref az, .ref a4, .ref a5, .ref a6, .int (flR run), .int 0])), (a1, .inl (1, 108, .inl ce)), (a2, .inl (0, 108, .inl (flP ce fi run))), (az, .inr (2, [.ref az1, .ref az2, .ref az3, .ref az4, .ref az5, .ref az6, .int ((pcS (toS ce (flP ce fi run) 2 F5 108) (toS ce (flP ce fi run) 3 F6 108) (bgQ ce (flP ce fi run) h F1 F2 F3 F4 liq) i).1.2.2.2)])), (az1, .inl (0, 108, .inl ((pcS (toS ce (flP ce fi run) 2 F5 108) (toS ce (flP ce fi run) 3 F6 108) (bgQ ce (flP ce fi run) h F1 F2 F3 F4 liq) i).1.1))), (az2, .inl (0, 108, .inl ((pcS (toS ce (flP ce fi run) 2 F5 108) (toS ce (flP ce fi run) 3 F6 108) (bgQ ce (flP ce fi run) h F1 F2 F3 F4 liq) i).2))), (az3, .inl (0, 108, .inl ((pcS (toS ce (flP ce fi run) 2 F5 108) (toS ce (flP ce fi run) 3 F6 108) (bgQ ce (flP ce fi run) h F1 F2 F3 F4 liq) i).1.2.1))), (az4, .inl (0, 108, .inl ((pcS (toS ce (flP ce fi run) 2 F5 108) (toS ce (flP ce fi run) 3 F6 108) (bgQ ce (flP ce fi run) h F1 F2 F3 F4 liq) i).1.2.2.1))), (az5, .inl (0, 108, .inl (toS ce (flP ce fi run) 2 F5 108))), (az6, .inl (0, 108, .inl (toS ce (flP ce fi run) 3 F6 108))), (a4, .inl (2, 108, .inl fed)), (a5, .inl (2, 108, .inl seen)), (a6, .inl (0, 108, .inl (fun k => nI (qn k))))] 0 0 := by
  intro d
  induction d with
  | zero => intro i h1 h2 ; exact absurd h2 (by omega)
  | succ d ih =>
    intro i h1 h2 
    refine r_iload_n d_Tr_cool_27 rfl 0 rfl ?_
    refine r_iload_n d_Tr_cool_28 rfl 3 rfl ?_
    refine r_icmp_gt (tgt := 53) d_Tr_cool_29 (by decide) (fun c_29 => ?_) (fun c_29 => ?_)
    · have hn := z_lt (by omega) (by omega) c_29
      obtain rfl : i = k := by omega
      refine r_vret d_Tr_cool_53 rfl ?_
      exact ⟨rfl, rfl⟩
    · have hn := z_nlt (by omega) (by omega) c_29
      refine r_iload_n d_Tr_cool_32 rfl 0 rfl ?_
      refine r_sipush d_Tr_cool_33 (v := 400) (by decide) ?_
      refine r_icmp_gt (tgt := 53) d_Tr_cool_36 (by decide) (fun c_36 => ?_) (fun c_36 => ?_)
      · exact absurd (z_lt (a := 400) (by omega) (by decide) c_36) (by omega)
      · refine r_aload_n d_Tr_cool_39 rfl 1 rfl ?_
        refine r_get fs_Tr_22 d_Tr_cool_40 (q0 := 0) rfl rfl ?_
        refine r_iload_n d_Tr_cool_43 rfl 0 rfl ?_
        refine r_callV (As := [.int (nI (i + 1))]) (rest := []) (csC := [(az, .inr (2, [.ref az1, .ref az2, .ref az3, .ref az4, .ref az5, .ref az6, .int ((pcS (toS ce (flP ce fi run) 2 F5 108) (toS ce (flP ce fi run) 3 F6 108) (bgQ ce (flP ce fi run) h F1 F2 F3 F4 liq) i).1.2.2.2)])), (az1, .inl (0, 108, .inl ((pcS (toS ce (flP ce fi run) 2 F5 108) (toS ce (flP ce fi run) 3 F6 108) (bgQ ce (flP ce fi run) h F1 F2 F3 F4 liq) i).1.1))), (az2, .inl (0, 108, .inl ((pcS (toS ce (flP ce fi run) 2 F5 108) (toS ce (flP ce fi run) 3 F6 108) (bgQ ce (flP ce fi run) h F1 F2 F3 F4 liq) i).2))), (az3, .inl (0, 108, .inl ((pcS (toS ce (flP ce fi run) 2 F5 108) (toS ce (flP ce fi run) 3 F6 108) (bgQ ce (flP ce fi run) h F1 F2 F3 F4 liq) i).1.2.1))), (az4, .inl (0, 108, .inl ((pcS (toS ce (flP ce fi run) 2 F5 108) (toS ce (flP ce fi run) 3 F6 108) (bgQ ce (flP ce fi run) h F1 F2 F3 F4 liq) i).1.2.2.1))), (az5, .inl (0, 108, .inl (toS ce (flP ce fi run) 2 F5 108))), (az6, .inl (0, 108, .inl (toS ce (flP ce fi run) 3 F6 108)))]) (is := [3, 4, 5, 6, 7, 8, 9]) (q0 := 3) rfl rfl ln_Tr_84 w_im_Fz_pass w_se_Fz_pass ok_Tr_cool_Fz_pass d_Tr_cool_44 (C_Fz_passQ g az az1 az2 az3 az4 az5 az6 (toS ce (flP ce fi run) 2 F5 108) (toS ce (flP ce fi run) 3 F6 108) (nI (i + 1)) (pcS (toS ce (flP ce fi run) 2 F5 108) (toS ce (flP ce fi run) 3 F6 108) (bgQ ce (flP ce fi run) h F1 F2 F3 F4 liq) i)) rfl rfl (Nat.le_of_ble_eq_true rfl) rfl (by decide) (by omega) (by omega) (fun E cs1 hx => ?_) (fun v cs1 hx => ?_)
        · exact absurd hx.1 (by simp)
        · obtain ⟨e1, rfl⟩ := hx
          cases e1
          refine ⟨rfl, ?_⟩
          refine r_st (st2 := []) rfl ?_
          refine r_cs (cs2 := [(a, .inr (10, [.ref a1, .ref a2, .ref az, .ref a4, .ref a5, .ref a6, .int (flR run), .int 0])), (a1, .inl (1, 108, .inl ce)), (a2, .inl (0, 108, .inl (flP ce fi run))), (az, .inr (2, [.ref az1, .ref az2, .ref az3, .ref az4, .ref az5, .ref az6, .int ((psT (toS ce (flP ce fi run) 2 F5 108) (toS ce (flP ce fi run) 3 F6 108) (nI (i + 1)) (pcS (toS ce (flP ce fi run) 2 F5 108) (toS ce (flP ce fi run) 3 F6 108) (bgQ ce (flP ce fi run) h F1 F2 F3 F4 liq) i)).1.2.2.2)])), (az1, .inl (0, 108, .inl ((psT (toS ce (flP ce fi run) 2 F5 108) (toS ce (flP ce fi run) 3 F6 108) (nI (i + 1)) (pcS (toS ce (flP ce fi run) 2 F5 108) (toS ce (flP ce fi run) 3 F6 108) (bgQ ce (flP ce fi run) h F1 F2 F3 F4 liq) i)).1.1))), (az2, .inl (0, 108, .inl ((psT (toS ce (flP ce fi run) 2 F5 108) (toS ce (flP ce fi run) 3 F6 108) (nI (i + 1)) (pcS (toS ce (flP ce fi run) 2 F5 108) (toS ce (flP ce fi run) 3 F6 108) (bgQ ce (flP ce fi run) h F1 F2 F3 F4 liq) i)).2))), (az3, .inl (0, 108, .inl ((psT (toS ce (flP ce fi run) 2 F5 108) (toS ce (flP ce fi run) 3 F6 108) (nI (i + 1)) (pcS (toS ce (flP ce fi run) 2 F5 108) (toS ce (flP ce fi run) 3 F6 108) (bgQ ce (flP ce fi run) h F1 F2 F3 F4 liq) i)).1.2.1))), (az4, .inl (0, 108, .inl ((psT (toS ce (flP ce fi run) 2 F5 108) (toS ce (flP ce fi run) 3 F6 108) (nI (i + 1)) (pcS (toS ce (flP ce fi run) 2 F5 108) (toS ce (flP ce fi run) 3 F6 108) (bgQ ce (flP ce fi run) h F1 F2 F3 F4 liq) i)).1.2.2.1))), (az5, .inl (0, 108, .inl (toS ce (flP ce fi run) 2 F5 108))), (az6, .inl (0, 108, .inl (toS ce (flP ce fi run) 3 F6 108))), (a4, .inl (2, 108, .inl fed)), (a5, .inl (2, 108, .inl seen)), (a6, .inl (0, 108, .inl (fun k => nI (qn k))))]) rfl ?_
          refine r_iinc (lv' := [(3, .int (nI ((i + 1) + 1))), (0, .ref a), (1, .int h), (2, .int (nI k))]) (v := nI ((i + 1) + 1)) d_Tr_cool_47 (j := 0) rfl (nI_add _ _) (by decide) rfl ?_
          refine r_goto (tgt := 27) d_Tr_cool_50 (by decide) ?_
          refine r_lvE (lv2 := [(3, .int (nI ((i + 1) + 1))), (0, .ref a), (1, .int h), (2, .int (nI k))]) (rfl) ?_
          refine r_cs (cs2 := [(a, .inr (10, [.ref a1, .ref a2, .ref az, .ref a4, .ref a5, .ref a6, .int (flR run), .int 0])), (a1, .inl (1, 108, .inl ce)), (a2, .inl (0, 108, .inl (flP ce fi run))), (az, .inr (2, [.ref az1, .ref az2, .ref az3, .ref az4, .ref az5, .ref az6, .int ((pcS (toS ce (flP ce fi run) 2 F5 108) (toS ce (flP ce fi run) 3 F6 108) (bgQ ce (flP ce fi run) h F1 F2 F3 F4 liq) (i + 1)).1.2.2.2)])), (az1, .inl (0, 108, .inl ((pcS (toS ce (flP ce fi run) 2 F5 108) (toS ce (flP ce fi run) 3 F6 108) (bgQ ce (flP ce fi run) h F1 F2 F3 F4 liq) (i + 1)).1.1))), (az2, .inl (0, 108, .inl ((pcS (toS ce (flP ce fi run) 2 F5 108) (toS ce (flP ce fi run) 3 F6 108) (bgQ ce (flP ce fi run) h F1 F2 F3 F4 liq) (i + 1)).2))), (az3, .inl (0, 108, .inl ((pcS (toS ce (flP ce fi run) 2 F5 108) (toS ce (flP ce fi run) 3 F6 108) (bgQ ce (flP ce fi run) h F1 F2 F3 F4 liq) (i + 1)).1.2.1))), (az4, .inl (0, 108, .inl ((pcS (toS ce (flP ce fi run) 2 F5 108) (toS ce (flP ce fi run) 3 F6 108) (bgQ ce (flP ce fi run) h F1 F2 F3 F4 liq) (i + 1)).1.2.2.1))), (az5, .inl (0, 108, .inl (toS ce (flP ce fi run) 2 F5 108))), (az6, .inl (0, 108, .inl (toS ce (flP ce fi run) 3 F6 108))), (a4, .inl (2, 108, .inl fed)), (a5, .inl (2, 108, .inl seen)), (a6, .inl (0, 108, .inl (fun k => nI (qn k))))]) (by rw [pc_n]) ?_
          exact ih (i + 1) (by omega) (by omega)
set_option maxHeartbeats 4000000 in
set_option maxRecDepth 100000 in
theorem C_Tr_cool (g : zG) (a a1 a2 az az1 az2 az3 az4 az5 az6 a4 a5 a6 : Nat) (run fo liq : Int32) (ce fi F1 F2 F3 F4 F5 F6 fed seen : Nat → Int32) (qn : Nat → Nat) (h : Int32) (k : Nat) (hk : k ≤ 400) : CT g M_Tr_cool [.ref a, .int h, .int (nI k)] [(a, .inr (10, [.ref a1, .ref a2, .ref az, .ref a4, .ref a5, .ref a6, .int run, .int fo])), (a1, .inl (1, 108, .inl ce)), (a2, .inl (0, 108, .inl fi)), (az, .inr (2, [.ref az1, .ref az2, .ref az3, .ref az4, .ref az5, .ref az6, .int liq])), (az1, .inl (0, 108, .inl F1)), (az2, .inl (0, 108, .inl F2)), (az3, .inl (0, 108, .inl F3)), (az4, .inl (0, 108, .inl F4)), (az5, .inl (0, 108, .inl F5)), (az6, .inl (0, 108, .inl F6)), (a4, .inl (2, 108, .inl fed)), (a5, .inl (2, 108, .inl seen)), (a6, .inl (0, 108, .inl (fun k => nI (qn k))))] (fun o cs1 => o = .inl none ∧ cs1 = [(a, .inr (10, [.ref a1, .ref a2, .ref az, .ref a4, .ref a5, .ref a6, .int (flR run), .int 0])), (a1, .inl (1, 108, .inl ce)), (a2, .inl (0, 108, .inl (flP ce fi run))), (az, .inr (2, [.ref az1, .ref az2, .ref az3, .ref az4, .ref az5, .ref az6, .int ((pcS (toS ce (flP ce fi run) 2 F5 108) (toS ce (flP ce fi run) 3 F6 108) (bgQ ce (flP ce fi run) h F1 F2 F3 F4 liq) k).1.2.2.2)])), (az1, .inl (0, 108, .inl ((pcS (toS ce (flP ce fi run) 2 F5 108) (toS ce (flP ce fi run) 3 F6 108) (bgQ ce (flP ce fi run) h F1 F2 F3 F4 liq) k).1.1))), (az2, .inl (0, 108, .inl ((pcS (toS ce (flP ce fi run) 2 F5 108) (toS ce (flP ce fi run) 3 F6 108) (bgQ ce (flP ce fi run) h F1 F2 F3 F4 liq) k).2))), (az3, .inl (0, 108, .inl ((pcS (toS ce (flP ce fi run) 2 F5 108) (toS ce (flP ce fi run) 3 F6 108) (bgQ ce (flP ce fi run) h F1 F2 F3 F4 liq) k).1.2.1))), (az4, .inl (0, 108, .inl ((pcS (toS ce (flP ce fi run) 2 F5 108) (toS ce (flP ce fi run) 3 F6 108) (bgQ ce (flP ce fi run) h F1 F2 F3 F4 liq) k).1.2.2.1))), (az5, .inl (0, 108, .inl (toS ce (flP ce fi run) 2 F5 108))), (az6, .inl (0, 108, .inl (toS ce (flP ce fi run) 3 F6 108))), (a4, .inl (2, 108, .inl fed)), (a5, .inl (2, 108, .inl seen)), (a6, .inl (0, 108, .inl (fun k => nI (qn k))))]) 0 0 := by
  refine z_of (by decide) rfl (Nat.le_of_ble_eq_true rfl) (fun w0 => ?_)
  refine r_lvE (lv2 := [(0, .ref a), (1, .int h), (2, .int (nI k))]) rfl ?_
  refine r_aload_n d_Tr_cool_0 rfl 0 rfl ?_
  refine r_iconst d_Tr_cool_1 (v := 0) (by decide) ?_
  refine r_put fp_Tr_46 d_Tr_cool_2 (fun h => nomatch h) rfl rfl (q0 := 0) rfl (Nat.le_of_ble_eq_true rfl) (cs' := [(a, .inr (10, [.ref a1, .ref a2, .ref az, .ref a4, .ref a5, .ref a6, .int run, .int 0])), (a1, .inl (1, 108, .inl ce)), (a2, .inl (0, 108, .inl fi)), (az, .inr (2, [.ref az1, .ref az2, .ref az3, .ref az4, .ref az5, .ref az6, .int liq])), (az1, .inl (0, 108, .inl F1)), (az2, .inl (0, 108, .inl F2)), (az3, .inl (0, 108, .inl F3)), (az4, .inl (0, 108, .inl F4)), (az5, .inl (0, 108, .inl F5)), (az6, .inl (0, 108, .inl F6)), (a4, .inl (2, 108, .inl fed)), (a5, .inl (2, 108, .inl seen)), (a6, .inl (0, 108, .inl (fun k => nI (qn k))))]) rfl ?_
  refine r_aload_n d_Tr_cool_5 rfl 0 rfl ?_
  refine r_callV (As := []) (rest := []) (csC := [(a, .inr (10, [.ref a1, .ref a2, .ref az, .ref a4, .ref a5, .ref a6, .int run, .int 0])), (a1, .inl (1, 108, .inl ce)), (a2, .inl (0, 108, .inl fi))]) (is := [0, 1, 2]) (q0 := 0) rfl rfl ln_Tr_75 w_im_Tr_fill w_se_Tr_fill ok_Tr_cool_Tr_fill d_Tr_cool_6 (C_Tr_fillU g a a1 a2 az a4 a5 a6 run 0 ce fi) rfl rfl (Nat.le_of_ble_eq_true rfl) rfl (by decide) (by omega) (by omega) (fun E cs1 hx => ?_) (fun v cs1 hx => ?_)
  · exact absurd hx.1 (by simp)
  · obtain ⟨e1, rfl⟩ := hx
    cases e1
    refine ⟨rfl, ?_⟩
    refine r_st (st2 := []) rfl ?_
    refine r_cs (cs2 := [(a, .inr (10, [.ref a1, .ref a2, .ref az, .ref a4, .ref a5, .ref a6, .int (flR run), .int 0])), (a1, .inl (1, 108, .inl ce)), (a2, .inl (0, 108, .inl (flP ce fi run))), (az, .inr (2, [.ref az1, .ref az2, .ref az3, .ref az4, .ref az5, .ref az6, .int liq])), (az1, .inl (0, 108, .inl F1)), (az2, .inl (0, 108, .inl F2)), (az3, .inl (0, 108, .inl F3)), (az4, .inl (0, 108, .inl F4)), (az5, .inl (0, 108, .inl F5)), (az6, .inl (0, 108, .inl F6)), (a4, .inl (2, 108, .inl fed)), (a5, .inl (2, 108, .inl seen)), (a6, .inl (0, 108, .inl (fun k => nI (qn k))))]) rfl ?_
    refine r_aload_n d_Tr_cool_9 rfl 0 rfl ?_
    refine r_get fs_Tr_22 d_Tr_cool_10 (q0 := 0) rfl rfl ?_
    refine r_aload_n d_Tr_cool_13 rfl 0 rfl ?_
    refine r_get fs_Tr_9 d_Tr_cool_14 (q0 := 0) rfl rfl ?_
    refine r_aload_n d_Tr_cool_17 rfl 0 rfl ?_
    refine r_get fs_Tr_15 d_Tr_cool_18 (q0 := 0) rfl rfl ?_
    refine r_iload_n d_Tr_cool_21 rfl 1 rfl ?_
    refine r_callV (As := [.ref a1, .ref a2, .int h]) (rest := []) (csC := [(az, .inr (2, [.ref az1, .ref az2, .ref az3, .ref az4, .ref az5, .ref az6, .int liq])), (az1, .inl (0, 108, .inl F1)), (az2, .inl (0, 108, .inl F2)), (az3, .inl (0, 108, .inl F3)), (az4, .inl (0, 108, .inl F4)), (az5, .inl (0, 108, .inl F5)), (az6, .inl (0, 108, .inl F6)), (a1, .inl (1, 108, .inl ce)), (a2, .inl (0, 108, .inl (flP ce fi run)))]) (is := [3, 4, 5, 6, 7, 8, 9, 1, 2]) (q0 := 3) rfl rfl ln_Tr_77 w_im_Fz_begin w_se_Fz_begin ok_Tr_cool_Fz_begin d_Tr_cool_22 (C_Fz_beginQ g az az1 az2 az3 az4 az5 az6 F1 F2 F3 F4 F5 F6 liq a1 a2 ce (flP ce fi run) h) rfl rfl (Nat.le_of_ble_eq_true rfl) rfl (by decide) (by omega) (by omega) (fun E cs1 hx => ?_) (fun v cs1 hx => ?_)
    · exact absurd hx.1 (by simp)
    · obtain ⟨e1, rfl⟩ := hx
      cases e1
      refine ⟨rfl, ?_⟩
      refine r_st (st2 := []) rfl ?_
      refine r_cs (cs2 := [(a, .inr (10, [.ref a1, .ref a2, .ref az, .ref a4, .ref a5, .ref a6, .int (flR run), .int 0])), (a1, .inl (1, 108, .inl ce)), (a2, .inl (0, 108, .inl (flP ce fi run))), (az, .inr (2, [.ref az1, .ref az2, .ref az3, .ref az4, .ref az5, .ref az6, .int ((bgQ ce (flP ce fi run) h F1 F2 F3 F4 liq).1.2.2.2)])), (az1, .inl (0, 108, .inl ((bgQ ce (flP ce fi run) h F1 F2 F3 F4 liq).1.1))), (az2, .inl (0, 108, .inl ((bgQ ce (flP ce fi run) h F1 F2 F3 F4 liq).2))), (az3, .inl (0, 108, .inl ((bgQ ce (flP ce fi run) h F1 F2 F3 F4 liq).1.2.1))), (az4, .inl (0, 108, .inl ((bgQ ce (flP ce fi run) h F1 F2 F3 F4 liq).1.2.2.1))), (az5, .inl (0, 108, .inl (toS ce (flP ce fi run) 2 F5 108))), (az6, .inl (0, 108, .inl (toS ce (flP ce fi run) 3 F6 108))), (a4, .inl (2, 108, .inl fed)), (a5, .inl (2, 108, .inl seen)), (a6, .inl (0, 108, .inl (fun k => nI (qn k))))]) rfl ?_
      refine r_iconst d_Tr_cool_25 (v := 1) (by decide) ?_
      refine r_istore_n (lv' := [(3, .int 1), (0, .ref a), (1, .int h), (2, .int (nI k))]) d_Tr_cool_26 rfl (by decide) rfl ?_
      refine r_lvE (lv2 := [(3, .int (nI (0 + 1))), (0, .ref a), (1, .int h), (2, .int (nI k))]) (rfl) ?_
      refine r_cs (cs2 := [(a, .inr (10, [.ref a1, .ref a2, .ref az, .ref a4, .ref a5, .ref a6, .int (flR run), .int 0])), (a1, .inl (1, 108, .inl ce)), (a2, .inl (0, 108, .inl (flP ce fi run))), (az, .inr (2, [.ref az1, .ref az2, .ref az3, .ref az4, .ref az5, .ref az6, .int ((pcS (toS ce (flP ce fi run) 2 F5 108) (toS ce (flP ce fi run) 3 F6 108) (bgQ ce (flP ce fi run) h F1 F2 F3 F4 liq) 0).1.2.2.2)])), (az1, .inl (0, 108, .inl ((pcS (toS ce (flP ce fi run) 2 F5 108) (toS ce (flP ce fi run) 3 F6 108) (bgQ ce (flP ce fi run) h F1 F2 F3 F4 liq) 0).1.1))), (az2, .inl (0, 108, .inl ((pcS (toS ce (flP ce fi run) 2 F5 108) (toS ce (flP ce fi run) 3 F6 108) (bgQ ce (flP ce fi run) h F1 F2 F3 F4 liq) 0).2))), (az3, .inl (0, 108, .inl ((pcS (toS ce (flP ce fi run) 2 F5 108) (toS ce (flP ce fi run) 3 F6 108) (bgQ ce (flP ce fi run) h F1 F2 F3 F4 liq) 0).1.2.1))), (az4, .inl (0, 108, .inl ((pcS (toS ce (flP ce fi run) 2 F5 108) (toS ce (flP ce fi run) 3 F6 108) (bgQ ce (flP ce fi run) h F1 F2 F3 F4 liq) 0).1.2.2.1))), (az5, .inl (0, 108, .inl (toS ce (flP ce fi run) 2 F5 108))), (az6, .inl (0, 108, .inl (toS ce (flP ce fi run) 3 F6 108))), (a4, .inl (2, 108, .inl fed)), (a5, .inl (2, 108, .inl seen)), (a6, .inl (0, 108, .inl (fun k => nI (qn k))))]) (by rw [pc_0]) ?_
      exact L_Tr_cool_27 g a a1 a2 az az1 az2 az3 az4 az5 az6 a4 a5 a6 run fo liq ce fi F1 F2 F3 F4 F5 F6 fed seen qn h k hk w0 _  (k + 1) 0 (Nat.zero_le _) (by omega)
end
section
theorem nI_nneg {a : Nat} (ha : a < 2 ^ 31) : ¬ nI a < 0 := fun h => absurd (z_lt (b := 0) (by decide) ha h) (by omega)
theorem nI_sub1 {p : Nat} (h : 1 ≤ p) : nI p - 1 = nI (p - 1) := pk_sub (a := p) (b := 1) h
def anB (p : Nat → Bool) : Nat → Bool
  | 0 => false
  | s + 1 => anB p s || p s
theorem anB_mono {p : Nat → Bool} {s : Nat} (h : anB p s = true) : ∀ d, anB p (s + d) = true
  | 0 => h
  | d + 1 => by show (anB p (s + d) || p (s + d)) = true; rw [anB_mono h d]; rfl
theorem anB_hit {p : Nat → Bool} {N s : Nat} (hs : s < N) (h : p s = true) : anB p N = true := by
  have h1 : anB p (s + 1) = true := by show (anB p s || p s) = true; rw [h, Bool.or_true]
  have := anB_mono h1 (N - (s + 1))
  rwa [show s + 1 + (N - (s + 1)) = N by omega] at this
theorem anB_no {p : Nat → Bool} {s : Nat} (h : anB p s = false) (h2 : p s = false) : anB p (s + 1) = false := by
  show (anB p s || p s) = false
  rw [h, h2]; rfl
def ibP (f : Nat → Int32) (c : Nat) (k : Int32) (s : Nat) : Bool := (bs c s).elim false (fun o => decide (f o = k))
theorem ibP_n {f : Nat → Int32} {c : Nat} {k : Int32} {s : Nat} (h : bs c s = none) : ibP f c k s = false := by rw [ibP, h]; rfl
theorem ibP_s {f : Nat → Int32} {c : Nat} {k : Int32} {s o : Nat} (h : bs c s = some o) : ibP f c k s = decide (f o = k) := by rw [ibP, h]; rfl
def icP (ce fi : Nat → Int32) (h : Int32) (k : Nat) : Bool := tmB (ce k) && (decide (fi k < 0) || decide (z_hwf h (fi k) < 1200))
def ioP (fi : Nat → Int32) (k : Nat) : Bool := decide (0 < fi k ∧ bfB fi k (fi k) 4 = false)
def lfS (ce fi fr : Nat → Int32) : Nat → Int32 × Int32
  | 0 => (-1, 0)
  | i + 1 => if ce i = 99 ∧ ¬ fi i < 0 ∧ ¬ fr i ≤ (lfS ce fi fr i).2 then (nI i, fr i) else lfS ce fi fr i
theorem lfS_t {ce fi fr : Nat → Int32} {i : Nat} (h : ce i = 99 ∧ ¬ fi i < 0 ∧ ¬ fr i ≤ (lfS ce fi fr i).2) : lfS ce fi fr (i + 1) = (nI i, fr i) := if_pos h
theorem lfS_f {ce fi fr : Nat → Int32} {i : Nat} (h : ¬ (ce i = 99 ∧ ¬ fi i < 0 ∧ ¬ fr i ≤ (lfS ce fi fr i).2)) : lfS ce fi fr (i + 1) = lfS ce fi fr i := if_neg h
def hwB (ce fi fr seen : Nat → Int32) (qn : Nat → Nat) (st : Nat) : Bool × zQ := wyB ce fi fr (1, upd (fa_fill (fun _ => 0) seen 108) st 1, updN qn 0 st) 108
abbrev zT : Type := (Nat → Int32) × (Nat → Nat) × Nat
def cwY (ce fi fr : Nat → Int32) (S0 : zT) : Nat → zT
  | 0 => S0
  | i + 1 => if ce i = 99 ∧ ¬ fi i < 0 then ((hwB ce fi fr (cwY ce fi fr S0 i).1 (cwY ce fi fr S0 i).2.1 i).2.2.1, (hwB ce fi fr (cwY ce fi fr S0 i).1 (cwY ce fi fr S0 i).2.1 i).2.2.2, if (hwB ce fi fr (cwY ce fi fr S0 i).1 (cwY ce fi fr S0 i).2.1 i).1 = true then (cwY ce fi fr S0 i).2.2 else (cwY ce fi fr S0 i).2.2 + 1) else cwY ce fi fr S0 i
theorem cwY_f {ce fi fr : Nat → Int32} {S0 : zT} {i : Nat} (h : ¬ (ce i = 99 ∧ ¬ fi i < 0)) : cwY ce fi fr S0 (i + 1) = cwY ce fi fr S0 i := if_neg h
theorem cwY_t {ce fi fr : Nat → Int32} {S0 : zT} {i : Nat} (h : ce i = 99 ∧ ¬ fi i < 0) (h2 : (hwB ce fi fr (cwY ce fi fr S0 i).1 (cwY ce fi fr S0 i).2.1 i).1 = true) : cwY ce fi fr S0 (i + 1) = ((hwB ce fi fr (cwY ce fi fr S0 i).1 (cwY ce fi fr S0 i).2.1 i).2.2.1, (hwB ce fi fr (cwY ce fi fr S0 i).1 (cwY ce fi fr S0 i).2.1 i).2.2.2, (cwY ce fi fr S0 i).2.2) := Eq.trans (if_pos h) (by rw [if_pos h2])
theorem cwY_n {ce fi fr : Nat → Int32} {S0 : zT} {i : Nat} (h : ce i = 99 ∧ ¬ fi i < 0) (h2 : ¬ (hwB ce fi fr (cwY ce fi fr S0 i).1 (cwY ce fi fr S0 i).2.1 i).1 = true) : cwY ce fi fr S0 (i + 1) = ((hwB ce fi fr (cwY ce fi fr S0 i).1 (cwY ce fi fr S0 i).2.1 i).2.2.1, (hwB ce fi fr (cwY ce fi fr S0 i).1 (cwY ce fi fr S0 i).2.1 i).2.2.2, (cwY ce fi fr S0 i).2.2 + 1) := Eq.trans (if_pos h) (by rw [if_neg h2])
abbrev zAf : Type := Bool × (Nat → Int32) × (Nat → Nat)
def afS (ce fi fr fed : Nat → Int32) (S0 : (Nat → Int32) × (Nat → Nat)) : Nat → zAf
  | 0 => (false, S0)
  | i + 1 => if (afS ce fi fr fed S0 i).1 = true ∨ fed i = 0 then afS ce fi fr fed S0 i else (!(hwB ce fi fr (afS ce fi fr fed S0 i).2.1 (afS ce fi fr fed S0 i).2.2 i).1, (hwB ce fi fr (afS ce fi fr fed S0 i).2.1 (afS ce fi fr fed S0 i).2.2 i).2.2)
theorem afS_s {ce fi fr fed : Nat → Int32} {S0 : (Nat → Int32) × (Nat → Nat)} {i : Nat} (h : (afS ce fi fr fed S0 i).1 = true ∨ fed i = 0) : afS ce fi fr fed S0 (i + 1) = afS ce fi fr fed S0 i := if_pos h
theorem afS_n {ce fi fr fed : Nat → Int32} {S0 : (Nat → Int32) × (Nat → Nat)} {i : Nat} (h : (afS ce fi fr fed S0 i).1 = false) (h2 : ¬ fed i = 0) : afS ce fi fr fed S0 (i + 1) = (!(hwB ce fi fr (afS ce fi fr fed S0 i).2.1 (afS ce fi fr fed S0 i).2.2 i).1, (hwB ce fi fr (afS ce fi fr fed S0 i).2.1 (afS ce fi fr fed S0 i).2.2 i).2.2) := if_neg (fun q => q.elim (fun e => by rw [h] at e; cases e) h2)
theorem afS_stop {ce fi fr fed : Nat → Int32} {S0 : (Nat → Int32) × (Nat → Nat)} {i : Nat} (h : (afS ce fi fr fed S0 i).1 = true) : ∀ d, afS ce fi fr fed S0 (i + d) = afS ce fi fr fed S0 i
  | 0 => rfl
  | d + 1 => by
    have ih := afS_stop h d
    exact (afS_s (i := i + d) (Or.inl (by rw [ih]; exact h))).trans ih
def rsS (f : Nat → Int32) : Nat → Nat
  | 0 => 0
  | i + 1 => if f i = 103 then i / 12 + 1 else rsS f i
def rsR (f : Nat → Int32) : Int32 := if fa_cnt (fun k => decide (f k = 103)) 12 = 0 then 0 else nI (60 * rsS f 108) / nI (fa_cnt (fun k => decide (f k = 103)) 12)
def ucS (ks : Nat → Int32) : Nat → Int32 × Nat
  | 0 => (1, 0)
  | i + 1 => if tmB (ks i) = false ∧ ¬ ks i = 111 then (0, (ucS ks i).2) else if (ucS ks i).1 = 0 ∧ ¬ ks i = 111 then ((ucS ks i).1, (ucS ks i).2 + 1) else ucS ks i
theorem ucS_a {ks : Nat → Int32} {i : Nat} (h : tmB (ks i) = false ∧ ¬ ks i = 111) : ucS ks (i + 1) = (0, (ucS ks i).2) := if_pos h
theorem ucS_b {ks : Nat → Int32} {i : Nat} (h : ¬ (tmB (ks i) = false ∧ ¬ ks i = 111)) (h2 : (ucS ks i).1 = 0 ∧ ¬ ks i = 111) : ucS ks (i + 1) = ((ucS ks i).1, (ucS ks i).2 + 1) := by rw [ucS, if_neg h, if_pos h2]
theorem ucS_c {ks : Nat → Int32} {i : Nat} (h : ¬ (tmB (ks i) = false ∧ ¬ ks i = 111)) (h2 : ¬ ((ucS ks i).1 = 0 ∧ ¬ ks i = 111)) : ucS ks (i + 1) = ucS ks i := by rw [ucS, if_neg h, if_neg h2]
theorem ucS_le {ks : Nat → Int32} : ∀ i, (ucS ks i).2 ≤ i
  | 0 => Nat.le_refl _
  | i + 1 => by
    have := ucS_le (ks := ks) i
    rw [ucS]
    split
    · show (ucS ks i).2 ≤ i + 1; omega
    · split
      · show (ucS ks i).2 + 1 ≤ i + 1; omega
      · omega
def ucX (f : Nat → Int32) (p x : Nat) : Nat := (ucS (fun k => f ((p - 1 - k) * 12 + x)) p).2 + (ucS (fun k => f ((p + k) * 12 + x)) (9 - p)).2
def ucT (f : Nat → Int32) (p : Nat) : Nat → Nat
  | 0 => 0
  | x + 1 => ucT f p x + ucX f p x
theorem uc_u1 : ∀ p, p < 9 → ∀ i, i < p → nI (p - 1) + nI i * (-1) = nI (p - 1 - i) := by decide
theorem uc_u2 : ∀ p, p < 9 → nI (p - 1) + nI p * (-1) < 0 ∨ (9 : Int32) ≤ nI (p - 1) + nI p * (-1) ∨ p = 0 := by decide
theorem uc_d1 : ∀ p, p < 9 → ∀ i, i < 9 - p → nI p + nI i * 1 = nI (p + i) := by decide
theorem uc_d2 : ∀ p, p < 9 → (9 : Int32) ≤ nI p + nI (9 - p) * 1 := by decide
theorem C_Tr_hasWay (g : zG) (a a1 a2 az az1 az2 az3 az4 az5 az6 a4 a5 a6 : Nat) (run fo liq : Int32) (ce fi fr fed seen : Nat → Int32) (qn : Nat → Nat) (st : Nat) (hst : st < 108) : CT g M_Tr_hasWayToFeeder [.ref a, .int (nI st)] [(a, .inr (10, [.ref a1, .ref a2, .ref az, .ref a4, .ref a5, .ref a6, .int run, .int fo])), (a1, .inl (1, 108, .inl ce)), (a2, .inl (0, 108, .inl fi)), (az, .inr (2, [.ref az1, .ref az2, .ref az3, .ref az4, .ref az5, .ref az6, .int liq])), (az4, .inl (0, 108, .inl fr)), (a4, .inl (2, 108, .inl fed)), (a5, .inl (2, 108, .inl seen)), (a6, .inl (0, 108, .inl (fun k => nI (qn k))))] (fun o cs1 => o = .inl (some (.int (z_bi (hwB ce fi fr seen qn st).1))) ∧ cs1 = [(a, .inr (10, [.ref a1, .ref a2, .ref az, .ref a4, .ref a5, .ref a6, .int run, .int fo])), (a1, .inl (1, 108, .inl ce)), (a2, .inl (0, 108, .inl fi)), (az, .inr (2, [.ref az1, .ref az2, .ref az3, .ref az4, .ref az5, .ref az6, .int liq])), (az4, .inl (0, 108, .inl fr)), (a4, .inl (2, 108, .inl fed)), (a5, .inl (2, 108, .inl ((hwB ce fi fr seen qn st).2.2.1))), (a6, .inl (0, 108, .inl (fun k => nI ((hwB ce fi fr seen qn st).2.2.2 k))))]) 0 0 := by
  unfold hwB
  exact C_Tr_hasWayToFeeder g a a1 a2 az az1 az2 az3 az4 az5 az6 a4 a5 a6 run fo liq ce fi fr fed seen qn st hst
abbrev M_Pa_hasCasting : zM := (⟨"Ironpour$Pattern", "hasCasting", "()Z"⟩, prog_10_method_4_code, 2, (Option.some FieldType.boolean), 1, 20, [])
theorem d_Pa_hasCasting_2 : decode prog_10_method_4_code 2 = .ok (.iload_n 1, 1) := zo_27 (zd_b zq_prog_10_method_4_code_0 2 rfl rfl rfl)
theorem d_Pa_hasCasting_3 : decode prog_10_method_4_code 3 = .ok (.bipush 108, 2) := zo_16 (d := 108) (zd_b zq_prog_10_method_4_code_0 3 rfl rfl rfl) (zd_b zq_prog_10_method_4_code_0 4 rfl rfl rfl) (by decide +kernel)
theorem d_Pa_hasCasting_5 : decode prog_10_method_4_code 5 = .ok (.if_icmp .ge 22, 3) := zo_162 (d := 0) (e := 22) (zd_b zq_prog_10_method_4_code_0 5 rfl rfl rfl) (zd_b zq_prog_10_method_4_code_0 6 rfl rfl rfl) (zd_b zq_prog_10_method_4_code_0 7 rfl rfl rfl) (by decide +kernel)
theorem d_Pa_hasCasting_27 : decode prog_10_method_4_code 27 = .ok (.iconst 0, 1) := zo_3 (zd_b zq_prog_10_method_4_code_0 27 rfl rfl rfl)
theorem d_Pa_hasCasting_28 : decode prog_10_method_4_code 28 = .ok (.ireturn, 1) := zo_172 (zd_b zq_prog_10_method_4_code_0 28 rfl rfl rfl)
theorem d_Pa_hasCasting_8 : decode prog_10_method_4_code 8 = .ok (.aload_n 0, 1) := zo_42 (zd_b zq_prog_10_method_4_code_0 8 rfl rfl rfl)
theorem d_Pa_hasCasting_9 : decode prog_10_method_4_code 9 = .ok (.getfield 9, 3) := zo_180 (d := 0) (e := 9) (zd_b zq_prog_10_method_4_code_0 9 rfl rfl rfl) (zd_b zq_prog_10_method_4_code_0 10 rfl rfl rfl) (zd_b zq_prog_10_method_4_code_0 11 rfl rfl rfl)
theorem d_Pa_hasCasting_12 : decode prog_10_method_4_code 12 = .ok (.iload_n 1, 1) := zo_27 (zd_b zq_prog_10_method_4_code_0 12 rfl rfl rfl)
theorem d_Pa_hasCasting_13 : decode prog_10_method_4_code 13 = .ok (.caload, 1) := zo_52 (zd_b zq_prog_10_method_4_code_0 13 rfl rfl rfl)
theorem d_Pa_hasCasting_14 : decode prog_10_method_4_code 14 = .ok (.bipush 99, 2) := zo_16 (d := 99) (zd_b zq_prog_10_method_4_code_0 14 rfl rfl rfl) (zd_b zq_prog_10_method_4_code_0 15 rfl rfl rfl) (by decide +kernel)
theorem d_Pa_hasCasting_16 : decode prog_10_method_4_code 16 = .ok (.if_icmp .ne 5, 3) := zo_160 (d := 0) (e := 5) (zd_b zq_prog_10_method_4_code_0 16 rfl rfl rfl) (zd_b zq_prog_10_method_4_code_0 17 rfl rfl rfl) (zd_b zq_prog_10_method_4_code_0 18 rfl rfl rfl) (by decide +kernel)
theorem d_Pa_hasCasting_21 : decode prog_10_method_4_code 21 = .ok (.iinc 1 1, 3) := by decide +kernel
theorem d_Pa_hasCasting_24 : decode prog_10_method_4_code 24 = .ok (.goto (-22), 3) := zo_167 (d := 255) (e := 234) (zd_b zq_prog_10_method_4_code_0 24 rfl rfl rfl) (zd_b zq_prog_10_method_4_code_0 25 rfl rfl rfl) (zd_b zq_prog_10_method_4_code_0 26 rfl rfl rfl) (by decide +kernel)
theorem d_Pa_hasCasting_19 : decode prog_10_method_4_code 19 = .ok (.iconst 1, 1) := zo_4 (zd_b zq_prog_10_method_4_code_0 19 rfl rfl rfl)
theorem d_Pa_hasCasting_20 : decode prog_10_method_4_code 20 = .ok (.ireturn, 1) := zo_172 (zd_b zq_prog_10_method_4_code_0 20 rfl rfl rfl)
theorem d_Pa_hasCasting_0 : decode prog_10_method_4_code 0 = .ok (.iconst 0, 1) := zo_3 (zd_b zq_prog_10_method_4_code_0 0 rfl rfl rfl)
theorem d_Pa_hasCasting_1 : decode prog_10_method_4_code 1 = .ok (.istore_n 1, 1) := zo_60 (zd_b zq_prog_10_method_4_code_0 1 rfl rfl rfl)
set_option maxHeartbeats 4000000 in
set_option maxRecDepth 100000 in
theorem L_Pa_hasCasting_2 (g : zG) (a a1 a2 a3 : Nat) (f sn qu : Nat → Int32) (part : Int32) (w0 : zW) (n : Nat) : ∀ (d i : Nat), i ≤ 108 → 108 < i + d → anB (fun k => decide (f k = 99)) i = false → DV g M_Pa_hasCasting (fun o cs1 => o = .inl (some (.int (z_bi (anB (fun k => decide (f k = 99)) 108)))) ∧ cs1 = [(a, .inr (8, [.ref a1, .ref a2, .ref a3, .int part])), (a1, .inl (1, 108, .inl f)), (a2, .inl (2, 108, .inl sn)), (a3, .inl (0, 108, .inl qu))]) w0 n 2 [(1, .int (nI i)), (0, .ref a)] [] [(a, .inr (8, [.ref a1, .ref a2, .ref a3, .int part])), (a1, .inl (1, 108, .inl f)), (a2, .inl (2, 108, .inl sn)), (a3, .inl (0, 108, .inl qu))] 0 0 := by
  intro d
  induction d with
  | zero => intro i h1 h2 h3; exact absurd h2 (by omega)
  | succ d ih =>
    intro i h1 h2 h3
    refine r_iload_n d_Pa_hasCasting_2 rfl 0 rfl ?_
    refine r_bipush d_Pa_hasCasting_3 (v := 108) (by decide) ?_
    refine r_icmp_ge (tgt := 27) d_Pa_hasCasting_5 (by decide) (fun c_5 => ?_) (fun c_5 => ?_)
    · have hn := z_le (a := 108) (by omega) (by decide) c_5
      obtain rfl : i = 108 := by omega
      refine r_iconst d_Pa_hasCasting_27 (v := 0) (by decide) ?_
      refine r_iret d_Pa_hasCasting_28 rfl rfl ?_
      exact ⟨by rw [h3]; rfl, rfl⟩
    · have hn := z_nle (a := 108) (by omega) (by decide) c_5
      refine r_aload_n d_Pa_hasCasting_8 rfl 1 rfl ?_
      refine r_get fs_Pa_9 d_Pa_hasCasting_9 (q0 := 0) rfl rfl ?_
      refine r_iload_n d_Pa_hasCasting_12 rfl 0 rfl ?_
      refine r_cald d_Pa_hasCasting_13 (q0 := 1) rfl (vp_in_nI (by omega) (by omega)) (v := f i) (by rw [nI_clamp (by omega)]) ?_
      refine r_bipush d_Pa_hasCasting_14 (v := 99) (by decide) ?_
      refine r_icmp_ne (tgt := 21) d_Pa_hasCasting_16 (by decide) (fun c_16 => ?_) (fun c_16 => ?_)
      · have hk : decide (f i = 99) = false := decide_eq_false c_16
        refine r_iinc (lv' := [(1, .int (nI (i + 1))), (0, .ref a)]) (v := nI (i + 1)) d_Pa_hasCasting_21 (j := 0) rfl (nI_add _ _) (by decide) rfl ?_
        refine r_goto (tgt := 2) d_Pa_hasCasting_24 (by decide) ?_
        refine r_lvE (lv2 := [(1, .int (nI (i + 1))), (0, .ref a)]) (rfl) ?_
        refine r_cs (cs2 := [(a, .inr (8, [.ref a1, .ref a2, .ref a3, .int part])), (a1, .inl (1, 108, .inl f)), (a2, .inl (2, 108, .inl sn)), (a3, .inl (0, 108, .inl qu))]) (rfl) ?_
        exact ih (i + 1) (by omega) (by omega) (anB_no (p := fun k => decide (f k = 99)) h3 hk)
      · have hk : decide (f i = 99) = true := decide_eq_true c_16
        refine r_iconst d_Pa_hasCasting_19 (v := 1) (by decide) ?_
        refine r_iret d_Pa_hasCasting_20 rfl rfl ?_
        exact ⟨by rw [anB_hit (p := fun k => decide (f k = 99)) hn hk]; rfl, rfl⟩
set_option maxHeartbeats 4000000 in
set_option maxRecDepth 100000 in
theorem C_Pa_hasCasting (g : zG) (a a1 a2 a3 : Nat) (f sn qu : Nat → Int32) (part : Int32) : CT g M_Pa_hasCasting [.ref a] [(a, .inr (8, [.ref a1, .ref a2, .ref a3, .int part])), (a1, .inl (1, 108, .inl f)), (a2, .inl (2, 108, .inl sn)), (a3, .inl (0, 108, .inl qu))] (fun o cs1 => o = .inl (some (.int (z_bi (anB (fun k => decide (f k = 99)) 108)))) ∧ cs1 = [(a, .inr (8, [.ref a1, .ref a2, .ref a3, .int part])), (a1, .inl (1, 108, .inl f)), (a2, .inl (2, 108, .inl sn)), (a3, .inl (0, 108, .inl qu))]) 0 0 := by
  refine z_of (by decide) rfl (Nat.le_of_ble_eq_true rfl) (fun w0 => ?_)
  refine r_lvE (lv2 := [(0, .ref a)]) rfl ?_
  refine r_iconst d_Pa_hasCasting_0 (v := 0) (by decide) ?_
  refine r_istore_n (lv' := [(1, .int 0), (0, .ref a)]) d_Pa_hasCasting_1 rfl (by decide) rfl ?_
  refine r_lvE (lv2 := [(1, .int (nI 0)), (0, .ref a)]) (rfl) ?_
  refine r_cs (cs2 := [(a, .inr (8, [.ref a1, .ref a2, .ref a3, .int part])), (a1, .inl (1, 108, .inl f)), (a2, .inl (2, 108, .inl sn)), (a3, .inl (0, 108, .inl qu))]) (rfl) ?_
  exact L_Pa_hasCasting_2 g a a1 a2 a3 f sn qu part w0 _  (108 + 1) 0 (Nat.zero_le _) (by omega) rfl
abbrev M_Ip_isBeside : zM := (⟨"Ironpour", "isBeside", "([CIC)Z"⟩, prog_1_method_57_code, 5, (Option.some FieldType.boolean), 2, 41, [])
theorem d_Ip_isBeside_2 : decode prog_1_method_57_code 2 = .ok (.iload_n 3, 1) := zo_29 (zd_b zq_prog_1_method_57_code_0 2 rfl rfl rfl)
theorem d_Ip_isBeside_3 : decode prog_1_method_57_code 3 = .ok (.iconst 4, 1) := zo_7 (zd_b zq_prog_1_method_57_code_0 3 rfl rfl rfl)
theorem d_Ip_isBeside_4 : decode prog_1_method_57_code 4 = .ok (.if_icmp .ge 31, 3) := zo_162 (d := 0) (e := 31) (zd_b zq_prog_1_method_57_code_0 4 rfl rfl rfl) (zd_b zq_prog_1_method_57_code_0 5 rfl rfl rfl) (zd_b zq_prog_1_method_57_code_0 6 rfl rfl rfl) (by decide +kernel)
theorem d_Ip_isBeside_35 : decode prog_1_method_57_code 35 = .ok (.iconst 0, 1) := zo_3 (zd_b zq_prog_1_method_57_code_1 3 rfl rfl rfl)
theorem d_Ip_isBeside_36 : decode prog_1_method_57_code 36 = .ok (.ireturn, 1) := zo_172 (zd_b zq_prog_1_method_57_code_1 4 rfl rfl rfl)
theorem d_Ip_isBeside_7 : decode prog_1_method_57_code 7 = .ok (.iload_n 1, 1) := zo_27 (zd_b zq_prog_1_method_57_code_0 7 rfl rfl rfl)
theorem d_Ip_isBeside_8 : decode prog_1_method_57_code 8 = .ok (.iload_n 3, 1) := zo_29 (zd_b zq_prog_1_method_57_code_0 8 rfl rfl rfl)
theorem d_Ip_isBeside_9 : decode prog_1_method_57_code 9 = .ok (.invokestatic 516, 3) := zo_184 (d := 2) (e := 4) (zd_b zq_prog_1_method_57_code_0 9 rfl rfl rfl) (zd_b zq_prog_1_method_57_code_0 10 rfl rfl rfl) (zd_b zq_prog_1_method_57_code_0 11 rfl rfl rfl)
theorem ok_Ip_isBeside_Ip_beside : z_ok M_Ip_isBeside M_Ip_beside 2 := ⟨z_mj2 (i := 133) rfl (by decide +kernel), rfl, ⟨by decide +kernel, by decide +kernel, by decide +kernel⟩, ⟨by decide, by decide⟩, z_mj1 (i := 1) rfl (by decide +kernel), rfl⟩
theorem ln_Ip_516 : Cond.methodLink "Ironpour" 516 M_Ip_beside.1 ∈ z_gw := z_mj4 (i := 166) rfl (by decide +kernel)
theorem d_Ip_isBeside_12 : decode prog_1_method_57_code 12 = .ok (.istore 4, 2) := zo_54 (d := 4) (zd_b zq_prog_1_method_57_code_0 12 rfl rfl rfl) (zd_b zq_prog_1_method_57_code_0 13 rfl rfl rfl)
theorem d_Ip_isBeside_14 : decode prog_1_method_57_code 14 = .ok (.iload 4, 2) := zo_21 (d := 4) (zd_b zq_prog_1_method_57_code_0 14 rfl rfl rfl) (zd_b zq_prog_1_method_57_code_0 15 rfl rfl rfl)
theorem d_Ip_isBeside_16 : decode prog_1_method_57_code 16 = .ok (.ifCond .lt 13, 3) := zo_155 (d := 0) (e := 13) (zd_b zq_prog_1_method_57_code_0 16 rfl rfl rfl) (zd_b zq_prog_1_method_57_code_0 17 rfl rfl rfl) (zd_b zq_prog_1_method_57_code_0 18 rfl rfl rfl) (by decide +kernel)
theorem d_Ip_isBeside_29 : decode prog_1_method_57_code 29 = .ok (.iinc 3 1, 3) := by decide +kernel
theorem d_Ip_isBeside_32 : decode prog_1_method_57_code 32 = .ok (.goto (-30), 3) := zo_167 (d := 255) (e := 226) (zd_b zq_prog_1_method_57_code_1 0 rfl rfl rfl) (zd_b zq_prog_1_method_57_code_1 1 rfl rfl rfl) (zd_b zq_prog_1_method_57_code_1 2 rfl rfl rfl) (by decide +kernel)
theorem d_Ip_isBeside_19 : decode prog_1_method_57_code 19 = .ok (.aload_n 0, 1) := zo_42 (zd_b zq_prog_1_method_57_code_0 19 rfl rfl rfl)
theorem d_Ip_isBeside_20 : decode prog_1_method_57_code 20 = .ok (.iload 4, 2) := zo_21 (d := 4) (zd_b zq_prog_1_method_57_code_0 20 rfl rfl rfl) (zd_b zq_prog_1_method_57_code_0 21 rfl rfl rfl)
theorem d_Ip_isBeside_22 : decode prog_1_method_57_code 22 = .ok (.caload, 1) := zo_52 (zd_b zq_prog_1_method_57_code_0 22 rfl rfl rfl)
theorem d_Ip_isBeside_23 : decode prog_1_method_57_code 23 = .ok (.iload_n 2, 1) := zo_28 (zd_b zq_prog_1_method_57_code_0 23 rfl rfl rfl)
theorem d_Ip_isBeside_24 : decode prog_1_method_57_code 24 = .ok (.if_icmp .ne 5, 3) := zo_160 (d := 0) (e := 5) (zd_b zq_prog_1_method_57_code_0 24 rfl rfl rfl) (zd_b zq_prog_1_method_57_code_0 25 rfl rfl rfl) (zd_b zq_prog_1_method_57_code_0 26 rfl rfl rfl) (by decide +kernel)
theorem d_Ip_isBeside_27 : decode prog_1_method_57_code 27 = .ok (.iconst 1, 1) := zo_4 (zd_b zq_prog_1_method_57_code_0 27 rfl rfl rfl)
theorem d_Ip_isBeside_28 : decode prog_1_method_57_code 28 = .ok (.ireturn, 1) := zo_172 (zd_b zq_prog_1_method_57_code_0 28 rfl rfl rfl)
theorem d_Ip_isBeside_0 : decode prog_1_method_57_code 0 = .ok (.iconst 0, 1) := zo_3 (zd_b zq_prog_1_method_57_code_0 0 rfl rfl rfl)
theorem d_Ip_isBeside_1 : decode prog_1_method_57_code 1 = .ok (.istore_n 3, 1) := zo_62 (zd_b zq_prog_1_method_57_code_0 1 rfl rfl rfl)
set_option maxHeartbeats 4000000 in
set_option maxRecDepth 100000 in
theorem L_Ip_isBeside_2 (g : zG) (b c : Nat) (hc : c < 108) (f : Nat → Int32) (k : Int32) (w0 : zW) (n : Nat) : ∀ (d i : Nat), i ≤ 4 → 4 < i + d → anB (ibP f c k) i = false → DV g M_Ip_isBeside (fun o cs1 => o = .inl (some (.int (z_bi (anB (ibP f c k) 4)))) ∧ cs1 = [(b, .inl (1, 108, .inl f))]) w0 n 2 [(3, .int (nI i)), (0, .ref b), (1, .int (nI c)), (2, .int k)] [] [(b, .inl (1, 108, .inl f))] 0 0 := by
  intro d
  induction d with
  | zero => intro i h1 h2 h3; exact absurd h2 (by omega)
  | succ d ih =>
    intro i h1 h2 h3
    refine r_iload_n d_Ip_isBeside_2 rfl 0 rfl ?_
    refine r_iconst d_Ip_isBeside_3 (v := 4) (by decide) ?_
    refine r_icmp_ge (tgt := 35) d_Ip_isBeside_4 (by decide) (fun c_4 => ?_) (fun c_4 => ?_)
    · have hn := z_le (a := 4) (by omega) (by decide) c_4
      obtain rfl : i = 4 := by omega
      refine r_iconst d_Ip_isBeside_35 (v := 0) (by decide) ?_
      refine r_iret d_Ip_isBeside_36 rfl rfl ?_
      exact ⟨by rw [h3]; rfl, rfl⟩
    · have hn := z_nle (a := 4) (by omega) (by decide) c_4
      refine r_iload_n d_Ip_isBeside_7 rfl 2 rfl ?_
      refine r_iload_n d_Ip_isBeside_8 rfl 0 rfl ?_
      refine r_callS (As := [.int (nI c), .int (nI i)]) (rest := []) (csC := []) (is := []) ln_Ip_516 w_st_Ip_beside ok_Ip_isBeside_Ip_beside d_Ip_isBeside_9 (C_Ip_beside g c i hc (by omega)) rfl rfl (Nat.le_of_ble_eq_true rfl) rfl (by decide) (by omega) (by omega) (fun E cs1 hx => ?_) (fun v cs1 hx => ?_)
      · exact absurd hx.1 (by simp)
      · obtain ⟨e1, rfl⟩ := hx
        cases e1
        refine ⟨rfl, ?_⟩
        refine r_st (st2 := [.int (oI (bs c i))]) rfl ?_
        refine r_cs (cs2 := [(b, .inl (1, 108, .inl f))]) rfl ?_
        refine r_istore (lv' := [(4, .int (oI (bs c i))), (3, .int (nI i)), (0, .ref b), (1, .int (nI c)), (2, .int k)]) d_Ip_isBeside_12 (by decide) rfl ?_
        refine r_iload d_Ip_isBeside_14 0 rfl ?_
        refine r_if_lt (tgt := 29) d_Ip_isBeside_16 (by decide) (fun c_16 => ?_) (fun c_16 => ?_)
        · have ho : bs c i = none := oI_neg hc (Int32.not_le.mpr c_16)
          have hk := ibP_n (f := f) (k := k) ho
          refine r_iinc (lv' := [(3, .int (nI (i + 1))), (4, .int (oI (bs c i))), (0, .ref b), (1, .int (nI c)), (2, .int k)]) (v := nI (i + 1)) d_Ip_isBeside_29 (j := 1) rfl (nI_add _ _) (by decide) rfl ?_
          refine r_goto (tgt := 2) d_Ip_isBeside_32 (by decide) ?_
          refine r_lv (lv' := [(3, .int (nI (i + 1))), (0, .ref b), (1, .int (nI c)), (2, .int k)]) [0, 2, 3, 4] rfl ?_
          refine r_lvE (lv2 := [(3, .int (nI (i + 1))), (0, .ref b), (1, .int (nI c)), (2, .int k)]) (rfl) ?_
          refine r_cs (cs2 := [(b, .inl (1, 108, .inl f))]) (rfl) ?_
          exact ih (i + 1) (by omega) (by omega) (anB_no (p := ibP f c k) h3 hk)
        · obtain ⟨o, ho⟩ := oI_pos (Int32.not_lt.mp c_16)
          have hol := bs_lt hc ho
          rw [ho, show oI (some o) = nI o from rfl]
          have hk0 := ibP_s (f := f) (k := k) ho
          refine r_aload_n d_Ip_isBeside_19 rfl 2 rfl ?_
          refine r_iload d_Ip_isBeside_20 0 rfl ?_
          refine r_cald d_Ip_isBeside_22 (q0 := 0) rfl (vp_in_nI (by omega) (by omega)) (v := f o) (by rw [nI_clamp (by omega)]) ?_
          refine r_iload_n d_Ip_isBeside_23 rfl 4 rfl ?_
          refine r_icmp_ne (tgt := 29) d_Ip_isBeside_24 (by decide) (fun c_24 => ?_) (fun c_24 => ?_)
          · have hk := hk0.trans (decide_eq_false c_24)
            refine r_iinc (lv' := [(3, .int (nI (i + 1))), (4, .int (nI o)), (0, .ref b), (1, .int (nI c)), (2, .int k)]) (v := nI (i + 1)) d_Ip_isBeside_29 (j := 1) rfl (nI_add _ _) (by decide) rfl ?_
            refine r_goto (tgt := 2) d_Ip_isBeside_32 (by decide) ?_
            refine r_lv (lv' := [(3, .int (nI (i + 1))), (0, .ref b), (1, .int (nI c)), (2, .int k)]) [0, 2, 3, 4] rfl ?_
            refine r_lvE (lv2 := [(3, .int (nI (i + 1))), (0, .ref b), (1, .int (nI c)), (2, .int k)]) (rfl) ?_
            refine r_cs (cs2 := [(b, .inl (1, 108, .inl f))]) (rfl) ?_
            exact ih (i + 1) (by omega) (by omega) (anB_no (p := ibP f c k) h3 hk)
          · have hk := hk0.trans (decide_eq_true c_24)
            refine r_iconst d_Ip_isBeside_27 (v := 1) (by decide) ?_
            refine r_iret d_Ip_isBeside_28 rfl rfl ?_
            exact ⟨by rw [anB_hit (p := ibP f c k) hn hk]; rfl, rfl⟩
set_option maxHeartbeats 4000000 in
set_option maxRecDepth 100000 in
theorem C_Ip_isBeside (g : zG) (b c : Nat) (hc : c < 108) (f : Nat → Int32) (k : Int32) : CT g M_Ip_isBeside [.ref b, .int (nI c), .int k] [(b, .inl (1, 108, .inl f))] (fun o cs1 => o = .inl (some (.int (z_bi (anB (ibP f c k) 4)))) ∧ cs1 = [(b, .inl (1, 108, .inl f))]) 0 0 := by
  refine z_of (by decide) rfl (Nat.le_of_ble_eq_true rfl) (fun w0 => ?_)
  refine r_lvE (lv2 := [(0, .ref b), (1, .int (nI c)), (2, .int k)]) rfl ?_
  refine r_iconst d_Ip_isBeside_0 (v := 0) (by decide) ?_
  refine r_istore_n (lv' := [(3, .int 0), (0, .ref b), (1, .int (nI c)), (2, .int k)]) d_Ip_isBeside_1 rfl (by decide) rfl ?_
  refine r_lvE (lv2 := [(3, .int (nI 0)), (0, .ref b), (1, .int (nI c)), (2, .int k)]) (rfl) ?_
  refine r_cs (cs2 := [(b, .inl (1, 108, .inl f))]) (rfl) ?_
  exact L_Ip_isBeside_2 g b c hc f k w0 _  (4 + 1) 0 (Nat.zero_le _) (by omega) rfl
abbrev M_Tr_isCold : zM := (⟨"Ironpour$Trial", "isCold", "(I)Z"⟩, prog_12_method_17_code, 3, (Option.some FieldType.boolean), 2, 41, [])
theorem d_Tr_isCold_2 : decode prog_12_method_17_code 2 = .ok (.iload_n 2, 1) := zo_28 (zd_b zq_prog_12_method_17_code_0 2 rfl rfl rfl)
theorem d_Tr_isCold_3 : decode prog_12_method_17_code 3 = .ok (.bipush 108, 2) := zo_16 (d := 108) (zd_b zq_prog_12_method_17_code_0 3 rfl rfl rfl) (zd_b zq_prog_12_method_17_code_0 4 rfl rfl rfl) (by decide +kernel)
theorem d_Tr_isCold_5 : decode prog_12_method_17_code 5 = .ok (.if_icmp .ge 47, 3) := zo_162 (d := 0) (e := 47) (zd_b zq_prog_12_method_17_code_0 5 rfl rfl rfl) (zd_b zq_prog_12_method_17_code_0 6 rfl rfl rfl) (zd_b zq_prog_12_method_17_code_0 7 rfl rfl rfl) (by decide +kernel)
theorem d_Tr_isCold_52 : decode prog_12_method_17_code 52 = .ok (.iconst 0, 1) := zo_3 (zd_b zq_prog_12_method_17_code_1 20 rfl rfl rfl)
theorem d_Tr_isCold_53 : decode prog_12_method_17_code 53 = .ok (.ireturn, 1) := zo_172 (zd_b zq_prog_12_method_17_code_1 21 rfl rfl rfl)
theorem d_Tr_isCold_8 : decode prog_12_method_17_code 8 = .ok (.aload_n 0, 1) := zo_42 (zd_b zq_prog_12_method_17_code_0 8 rfl rfl rfl)
theorem d_Tr_isCold_9 : decode prog_12_method_17_code 9 = .ok (.getfield 9, 3) := zo_180 (d := 0) (e := 9) (zd_b zq_prog_12_method_17_code_0 9 rfl rfl rfl) (zd_b zq_prog_12_method_17_code_0 10 rfl rfl rfl) (zd_b zq_prog_12_method_17_code_0 11 rfl rfl rfl)
theorem d_Tr_isCold_12 : decode prog_12_method_17_code 12 = .ok (.iload_n 2, 1) := zo_28 (zd_b zq_prog_12_method_17_code_0 12 rfl rfl rfl)
theorem d_Tr_isCold_13 : decode prog_12_method_17_code 13 = .ok (.caload, 1) := zo_52 (zd_b zq_prog_12_method_17_code_0 13 rfl rfl rfl)
theorem d_Tr_isCold_14 : decode prog_12_method_17_code 14 = .ok (.invokestatic 64, 3) := zo_184 (d := 0) (e := 64) (zd_b zq_prog_12_method_17_code_0 14 rfl rfl rfl) (zd_b zq_prog_12_method_17_code_0 15 rfl rfl rfl) (zd_b zq_prog_12_method_17_code_0 16 rfl rfl rfl)
theorem ok_Tr_isCold_Ip_takesMetal : z_ok M_Tr_isCold M_Ip_takesMetal 1 := ⟨z_mj2 (i := 114) rfl (by decide +kernel), rfl, ⟨by decide +kernel, by decide +kernel, by decide +kernel⟩, ⟨by decide, by decide⟩, z_mj1 (i := 1) rfl (by decide +kernel), rfl⟩
theorem d_Tr_isCold_17 : decode prog_12_method_17_code 17 = .ok (.ifCond .eq 29, 3) := zo_153 (d := 0) (e := 29) (zd_b zq_prog_12_method_17_code_0 17 rfl rfl rfl) (zd_b zq_prog_12_method_17_code_0 18 rfl rfl rfl) (zd_b zq_prog_12_method_17_code_0 19 rfl rfl rfl) (by decide +kernel)
theorem d_Tr_isCold_46 : decode prog_12_method_17_code 46 = .ok (.iinc 2 1, 3) := by decide +kernel
theorem d_Tr_isCold_49 : decode prog_12_method_17_code 49 = .ok (.goto (-47), 3) := zo_167 (d := 255) (e := 209) (zd_b zq_prog_12_method_17_code_1 17 rfl rfl rfl) (zd_b zq_prog_12_method_17_code_1 18 rfl rfl rfl) (zd_b zq_prog_12_method_17_code_1 19 rfl rfl rfl) (by decide +kernel)
theorem d_Tr_isCold_20 : decode prog_12_method_17_code 20 = .ok (.aload_n 0, 1) := zo_42 (zd_b zq_prog_12_method_17_code_0 20 rfl rfl rfl)
theorem d_Tr_isCold_21 : decode prog_12_method_17_code 21 = .ok (.iload_n 2, 1) := zo_28 (zd_b zq_prog_12_method_17_code_0 21 rfl rfl rfl)
theorem d_Tr_isCold_22 : decode prog_12_method_17_code 22 = .ok (.invokevirtual 91, 3) := zo_182 (d := 0) (e := 91) (zd_b zq_prog_12_method_17_code_0 22 rfl rfl rfl) (zd_b zq_prog_12_method_17_code_0 23 rfl rfl rfl) (zd_b zq_prog_12_method_17_code_0 24 rfl rfl rfl)
theorem ok_Tr_isCold_Tr_isFilled : z_ok M_Tr_isCold M_Tr_isFilled 1 := ⟨z_mj3 (i := 25) rfl (by decide +kernel), rfl, ⟨by decide +kernel, by decide +kernel, by decide +kernel⟩, ⟨by decide, by decide⟩, z_mj1 (i := 3) rfl (by decide +kernel), rfl⟩
theorem d_Tr_isCold_25 : decode prog_12_method_17_code 25 = .ok (.ifCond .eq 19, 3) := zo_153 (d := 0) (e := 19) (zd_b zq_prog_12_method_17_code_0 25 rfl rfl rfl) (zd_b zq_prog_12_method_17_code_0 26 rfl rfl rfl) (zd_b zq_prog_12_method_17_code_0 27 rfl rfl rfl) (by decide +kernel)
theorem d_Tr_isCold_44 : decode prog_12_method_17_code 44 = .ok (.iconst 1, 1) := zo_4 (zd_b zq_prog_12_method_17_code_1 12 rfl rfl rfl)
theorem d_Tr_isCold_45 : decode prog_12_method_17_code 45 = .ok (.ireturn, 1) := zo_172 (zd_b zq_prog_12_method_17_code_1 13 rfl rfl rfl)
theorem d_Tr_isCold_28 : decode prog_12_method_17_code 28 = .ok (.iload_n 1, 1) := zo_27 (zd_b zq_prog_12_method_17_code_0 28 rfl rfl rfl)
theorem d_Tr_isCold_29 : decode prog_12_method_17_code 29 = .ok (.aload_n 0, 1) := zo_42 (zd_b zq_prog_12_method_17_code_0 29 rfl rfl rfl)
theorem d_Tr_isCold_30 : decode prog_12_method_17_code 30 = .ok (.getfield 15, 3) := zo_180 (d := 0) (e := 15) (zd_b zq_prog_12_method_17_code_0 30 rfl rfl rfl) (zd_b zq_prog_12_method_17_code_0 31 rfl rfl rfl) (zd_b zq_prog_12_method_17_code_1 0 rfl rfl rfl)
theorem d_Tr_isCold_33 : decode prog_12_method_17_code 33 = .ok (.iload_n 2, 1) := zo_28 (zd_b zq_prog_12_method_17_code_1 1 rfl rfl rfl)
theorem d_Tr_isCold_34 : decode prog_12_method_17_code 34 = .ok (.iaload, 1) := zo_46 (zd_b zq_prog_12_method_17_code_1 2 rfl rfl rfl)
theorem d_Tr_isCold_35 : decode prog_12_method_17_code 35 = .ok (.invokestatic 107, 3) := zo_184 (d := 0) (e := 107) (zd_b zq_prog_12_method_17_code_1 3 rfl rfl rfl) (zd_b zq_prog_12_method_17_code_1 4 rfl rfl rfl) (zd_b zq_prog_12_method_17_code_1 5 rfl rfl rfl)
theorem ok_Tr_isCold_Fz_heatWhenFilled : z_ok M_Tr_isCold M_Fz_heatWhenFilled 2 := ⟨z_mj2 (i := 236) rfl (by decide +kernel), rfl, ⟨by decide +kernel, by decide +kernel, by decide +kernel⟩, ⟨by decide, by decide⟩, z_mj1 (i := 4) rfl (by decide +kernel), rfl⟩
theorem ln_Tr_107 : Cond.methodLink "Ironpour$Trial" 107 M_Fz_heatWhenFilled.1 ∈ z_gw := z_mj6 (i := 169) rfl (by decide +kernel)
theorem d_Tr_isCold_38 : decode prog_12_method_17_code 38 = .ok (.sipush 1200, 3) := zo_17 (d := 4) (e := 176) (zd_b zq_prog_12_method_17_code_1 6 rfl rfl rfl) (zd_b zq_prog_12_method_17_code_1 7 rfl rfl rfl) (zd_b zq_prog_12_method_17_code_1 8 rfl rfl rfl) (by decide +kernel)
theorem d_Tr_isCold_41 : decode prog_12_method_17_code 41 = .ok (.if_icmp .ge 5, 3) := zo_162 (d := 0) (e := 5) (zd_b zq_prog_12_method_17_code_1 9 rfl rfl rfl) (zd_b zq_prog_12_method_17_code_1 10 rfl rfl rfl) (zd_b zq_prog_12_method_17_code_1 11 rfl rfl rfl) (by decide +kernel)
theorem d_Tr_isCold_0 : decode prog_12_method_17_code 0 = .ok (.iconst 0, 1) := zo_3 (zd_b zq_prog_12_method_17_code_0 0 rfl rfl rfl)
theorem d_Tr_isCold_1 : decode prog_12_method_17_code 1 = .ok (.istore_n 2, 1) := zo_61 (zd_b zq_prog_12_method_17_code_0 1 rfl rfl rfl)
set_option maxHeartbeats 4000000 in
set_option maxRecDepth 100000 in
theorem L_Tr_isCold_2 (g : zG) (a a1 a2 az az1 az2 az3 az4 az5 az6 a4 a5 a6 : Nat) (run fo liq : Int32) (ce fi fr fed seen : Nat → Int32) (qn : Nat → Nat) (h : Int32) (w0 : zW) (n : Nat) : ∀ (d i : Nat), i ≤ 108 → 108 < i + d → anB (icP ce fi h) i = false → DV g M_Tr_isCold (fun o cs1 => o = .inl (some (.int (z_bi (anB (icP ce fi h) 108)))) ∧ cs1 = [(a, .inr (10, [.ref a1, .ref a2, .ref az, .ref a4, .ref a5, .ref a6, .int run, .int fo])), (a1, .inl (1, 108, .inl ce)), (a2, .inl (0, 108, .inl fi)), (az, .inr (2, [.ref az1, .ref az2, .ref az3, .ref az4, .ref az5, .ref az6, .int liq])), (az4, .inl (0, 108, .inl fr)), (a4, .inl (2, 108, .inl fed)), (a5, .inl (2, 108, .inl seen)), (a6, .inl (0, 108, .inl (fun k => nI (qn k))))]) w0 n 2 [(2, .int (nI i)), (0, .ref a), (1, .int h)] [] [(a, .inr (10, [.ref a1, .ref a2, .ref az, .ref a4, .ref a5, .ref a6, .int run, .int fo])), (a1, .inl (1, 108, .inl ce)), (a2, .inl (0, 108, .inl fi)), (az, .inr (2, [.ref az1, .ref az2, .ref az3, .ref az4, .ref az5, .ref az6, .int liq])), (az4, .inl (0, 108, .inl fr)), (a4, .inl (2, 108, .inl fed)), (a5, .inl (2, 108, .inl seen)), (a6, .inl (0, 108, .inl (fun k => nI (qn k))))] 0 0 := by
  intro d
  induction d with
  | zero => intro i h1 h2 h3; exact absurd h2 (by omega)
  | succ d ih =>
    intro i h1 h2 h3
    refine r_iload_n d_Tr_isCold_2 rfl 0 rfl ?_
    refine r_bipush d_Tr_isCold_3 (v := 108) (by decide) ?_
    refine r_icmp_ge (tgt := 52) d_Tr_isCold_5 (by decide) (fun c_5 => ?_) (fun c_5 => ?_)
    · have hn := z_le (a := 108) (by omega) (by decide) c_5
      obtain rfl : i = 108 := by omega
      refine r_iconst d_Tr_isCold_52 (v := 0) (by decide) ?_
      refine r_iret d_Tr_isCold_53 rfl rfl ?_
      exact ⟨by rw [h3]; rfl, rfl⟩
    · have hn := z_nle (a := 108) (by omega) (by decide) c_5
      refine r_aload_n d_Tr_isCold_8 rfl 1 rfl ?_
      refine r_get fs_Tr_9 d_Tr_isCold_9 (q0 := 0) rfl rfl ?_
      refine r_iload_n d_Tr_isCold_12 rfl 0 rfl ?_
      refine r_cald d_Tr_isCold_13 (q0 := 1) rfl (vp_in_nI (by omega) (by omega)) (v := ce i) (by rw [nI_clamp (by omega)]) ?_
      refine r_callSN (As := [.int (ce i)]) (rest := []) (csC := []) (is := []) ln_Tr_64 w_st_Ip_takesMetal ok_Tr_isCold_Ip_takesMetal d_Tr_isCold_14 (C_Ip_takesMetal g (ce i)) rfl rfl (Nat.le_of_ble_eq_true rfl) rfl (by decide) (by omega) (by omega) (fun E cs1 hx => ?_) (fun v cs1 hx => ?_)
      · exact absurd hx.1 (by simp)
      · obtain ⟨e1, rfl⟩ := hx
        cases e1
        refine ⟨rfl, ?_⟩
        refine r_st (st2 := [.int (z_bi (tmB (ce i)))]) rfl ?_
        refine r_cs (cs2 := [(a, .inr (10, [.ref a1, .ref a2, .ref az, .ref a4, .ref a5, .ref a6, .int run, .int fo])), (a1, .inl (1, 108, .inl ce)), (a2, .inl (0, 108, .inl fi)), (az, .inr (2, [.ref az1, .ref az2, .ref az3, .ref az4, .ref az5, .ref az6, .int liq])), (az4, .inl (0, 108, .inl fr)), (a4, .inl (2, 108, .inl fed)), (a5, .inl (2, 108, .inl seen)), (a6, .inl (0, 108, .inl (fun k => nI (qn k))))]) rfl ?_
        refine r_if_eq (tgt := 46) d_Tr_isCold_17 (by decide) (fun c_17 => ?_) (fun c_17 => ?_)
        · have hk : icP ce fi h i = false := by rw [icP, z_bi0 c_17]; rfl
          refine r_iinc (lv' := [(2, .int (nI (i + 1))), (0, .ref a), (1, .int h)]) (v := nI (i + 1)) d_Tr_isCold_46 (j := 0) rfl (nI_add _ _) (by decide) rfl ?_
          refine r_goto (tgt := 2) d_Tr_isCold_49 (by decide) ?_
          refine r_lvE (lv2 := [(2, .int (nI (i + 1))), (0, .ref a), (1, .int h)]) (rfl) ?_
          refine r_cs (cs2 := [(a, .inr (10, [.ref a1, .ref a2, .ref az, .ref a4, .ref a5, .ref a6, .int run, .int fo])), (a1, .inl (1, 108, .inl ce)), (a2, .inl (0, 108, .inl fi)), (az, .inr (2, [.ref az1, .ref az2, .ref az3, .ref az4, .ref az5, .ref az6, .int liq])), (az4, .inl (0, 108, .inl fr)), (a4, .inl (2, 108, .inl fed)), (a5, .inl (2, 108, .inl seen)), (a6, .inl (0, 108, .inl (fun k => nI (qn k))))]) (rfl) ?_
          exact ih (i + 1) (by omega) (by omega) (anB_no (p := icP ce fi h) h3 hk)
        · have hm := z_bi1 c_17
          refine r_aload_n d_Tr_isCold_20 rfl 1 rfl ?_
          refine r_iload_n d_Tr_isCold_21 rfl 0 rfl ?_
          refine r_callV (As := [.int (nI i)]) (rest := []) (csC := [(a, .inr (10, [.ref a1, .ref a2, .ref az, .ref a4, .ref a5, .ref a6, .int run, .int fo])), (a1, .inl (1, 108, .inl ce)), (a2, .inl (0, 108, .inl fi))]) (is := [0, 1, 2]) (q0 := 0) rfl rfl ln_Tr_91 w_im_Tr_isFilled w_se_Tr_isFilled ok_Tr_isCold_Tr_isFilled d_Tr_isCold_22 (C_Tr_isFilled g a a1 a2 az a4 a5 a6 run fo ce fi i (by omega)) rfl rfl (Nat.le_of_ble_eq_true rfl) rfl (by decide) (by omega) (by omega) (fun E cs1 hx => ?_) (fun v cs1 hx => ?_)
          · exact absurd hx.1 (by simp)
          · obtain ⟨e1, rfl⟩ := hx
            cases e1
            refine ⟨rfl, ?_⟩
            refine r_st (st2 := [.int (z_bi (decide (¬ fi i < 0)))]) rfl ?_
            refine r_cs (cs2 := [(a, .inr (10, [.ref a1, .ref a2, .ref az, .ref a4, .ref a5, .ref a6, .int run, .int fo])), (a1, .inl (1, 108, .inl ce)), (a2, .inl (0, 108, .inl fi)), (az, .inr (2, [.ref az1, .ref az2, .ref az3, .ref az4, .ref az5, .ref az6, .int liq])), (az4, .inl (0, 108, .inl fr)), (a4, .inl (2, 108, .inl fed)), (a5, .inl (2, 108, .inl seen)), (a6, .inl (0, 108, .inl (fun k => nI (qn k))))]) rfl ?_
            refine r_if_eq (tgt := 44) d_Tr_isCold_25 (by decide) (fun c_25 => ?_) (fun c_25 => ?_)
            · have hk : icP ce fi h i = true := by have q : fi i < 0 := Classical.byContradiction (fun e => by have := z_bi0 c_25; rw [decide_eq_true e] at this; cases this); rw [icP, hm, decide_eq_true q]; rfl
              refine r_iconst d_Tr_isCold_44 (v := 1) (by decide) ?_
              refine r_iret d_Tr_isCold_45 rfl rfl ?_
              exact ⟨by rw [anB_hit (p := icP ce fi h) hn hk]; rfl, rfl⟩
            · have hf := of_decide_eq_true (z_bi1 c_25)
              refine r_iload_n d_Tr_isCold_28 rfl 2 rfl ?_
              refine r_aload_n d_Tr_isCold_29 rfl 1 rfl ?_
              refine r_get fs_Tr_15 d_Tr_isCold_30 (q0 := 0) rfl rfl ?_
              refine r_iload_n d_Tr_isCold_33 rfl 0 rfl ?_
              refine r_iald d_Tr_isCold_34 (q0 := 2) rfl (vp_in_nI (by omega) (by omega)) (v := fi i) (by rw [nI_clamp (by omega)]) ?_
              refine r_callS (As := [.int h, .int (fi i)]) (rest := []) (csC := []) (is := []) ln_Tr_107 w_st_Fz_heatWhenFilled ok_Tr_isCold_Fz_heatWhenFilled d_Tr_isCold_35 (C_Fz_hwf g h (fi i)) rfl rfl (Nat.le_of_ble_eq_true rfl) rfl (by decide) (by omega) (by omega) (fun E cs1 hx => ?_) (fun v cs1 hx => ?_)
              · exact absurd hx.1 (by simp)
              · obtain ⟨e1, rfl⟩ := hx
                cases e1
                refine ⟨rfl, ?_⟩
                refine r_st (st2 := [.int (z_hwf h (fi i))]) rfl ?_
                refine r_cs (cs2 := [(a, .inr (10, [.ref a1, .ref a2, .ref az, .ref a4, .ref a5, .ref a6, .int run, .int fo])), (a1, .inl (1, 108, .inl ce)), (a2, .inl (0, 108, .inl fi)), (az, .inr (2, [.ref az1, .ref az2, .ref az3, .ref az4, .ref az5, .ref az6, .int liq])), (az4, .inl (0, 108, .inl fr)), (a4, .inl (2, 108, .inl fed)), (a5, .inl (2, 108, .inl seen)), (a6, .inl (0, 108, .inl (fun k => nI (qn k))))]) rfl ?_
                refine r_sipush d_Tr_isCold_38 (v := 1200) (by decide) ?_
                refine r_icmp_ge (tgt := 46) d_Tr_isCold_41 (by decide) (fun c_41 => ?_) (fun c_41 => ?_)
                · have hk : icP ce fi h i = false := by rw [icP, decide_eq_false hf, decide_eq_false (Int32.not_lt.mpr c_41), hm]; rfl
                  refine r_iinc (lv' := [(2, .int (nI (i + 1))), (0, .ref a), (1, .int h)]) (v := nI (i + 1)) d_Tr_isCold_46 (j := 0) rfl (nI_add _ _) (by decide) rfl ?_
                  refine r_goto (tgt := 2) d_Tr_isCold_49 (by decide) ?_
                  refine r_lvE (lv2 := [(2, .int (nI (i + 1))), (0, .ref a), (1, .int h)]) (rfl) ?_
                  refine r_cs (cs2 := [(a, .inr (10, [.ref a1, .ref a2, .ref az, .ref a4, .ref a5, .ref a6, .int run, .int fo])), (a1, .inl (1, 108, .inl ce)), (a2, .inl (0, 108, .inl fi)), (az, .inr (2, [.ref az1, .ref az2, .ref az3, .ref az4, .ref az5, .ref az6, .int liq])), (az4, .inl (0, 108, .inl fr)), (a4, .inl (2, 108, .inl fed)), (a5, .inl (2, 108, .inl seen)), (a6, .inl (0, 108, .inl (fun k => nI (qn k))))]) (rfl) ?_
                  exact ih (i + 1) (by omega) (by omega) (anB_no (p := icP ce fi h) h3 hk)
                · have hk : icP ce fi h i = true := by rw [icP, hm, decide_eq_true (Int32.not_le.mp c_41), Bool.or_true]; rfl
                  refine r_iconst d_Tr_isCold_44 (v := 1) (by decide) ?_
                  refine r_iret d_Tr_isCold_45 rfl rfl ?_
                  exact ⟨by rw [anB_hit (p := icP ce fi h) hn hk]; rfl, rfl⟩
set_option maxHeartbeats 4000000 in
set_option maxRecDepth 100000 in
theorem C_Tr_isCold (g : zG) (a a1 a2 az az1 az2 az3 az4 az5 az6 a4 a5 a6 : Nat) (run fo liq : Int32) (ce fi fr fed seen : Nat → Int32) (qn : Nat → Nat) (h : Int32) : CT g M_Tr_isCold [.ref a, .int h] [(a, .inr (10, [.ref a1, .ref a2, .ref az, .ref a4, .ref a5, .ref a6, .int run, .int fo])), (a1, .inl (1, 108, .inl ce)), (a2, .inl (0, 108, .inl fi)), (az, .inr (2, [.ref az1, .ref az2, .ref az3, .ref az4, .ref az5, .ref az6, .int liq])), (az4, .inl (0, 108, .inl fr)), (a4, .inl (2, 108, .inl fed)), (a5, .inl (2, 108, .inl seen)), (a6, .inl (0, 108, .inl (fun k => nI (qn k))))] (fun o cs1 => o = .inl (some (.int (z_bi (anB (icP ce fi h) 108)))) ∧ cs1 = [(a, .inr (10, [.ref a1, .ref a2, .ref az, .ref a4, .ref a5, .ref a6, .int run, .int fo])), (a1, .inl (1, 108, .inl ce)), (a2, .inl (0, 108, .inl fi)), (az, .inr (2, [.ref az1, .ref az2, .ref az3, .ref az4, .ref az5, .ref az6, .int liq])), (az4, .inl (0, 108, .inl fr)), (a4, .inl (2, 108, .inl fed)), (a5, .inl (2, 108, .inl seen)), (a6, .inl (0, 108, .inl (fun k => nI (qn k))))]) 0 0 := by
  refine z_of (by decide) rfl (Nat.le_of_ble_eq_true rfl) (fun w0 => ?_)
  refine r_lvE (lv2 := [(0, .ref a), (1, .int h)]) rfl ?_
  refine r_iconst d_Tr_isCold_0 (v := 0) (by decide) ?_
  refine r_istore_n (lv' := [(2, .int 0), (0, .ref a), (1, .int h)]) d_Tr_isCold_1 rfl (by decide) rfl ?_
  refine r_lvE (lv2 := [(2, .int (nI 0)), (0, .ref a), (1, .int h)]) (rfl) ?_
  refine r_cs (cs2 := [(a, .inr (10, [.ref a1, .ref a2, .ref az, .ref a4, .ref a5, .ref a6, .int run, .int fo])), (a1, .inl (1, 108, .inl ce)), (a2, .inl (0, 108, .inl fi)), (az, .inr (2, [.ref az1, .ref az2, .ref az3, .ref az4, .ref az5, .ref az6, .int liq])), (az4, .inl (0, 108, .inl fr)), (a4, .inl (2, 108, .inl fed)), (a5, .inl (2, 108, .inl seen)), (a6, .inl (0, 108, .inl (fun k => nI (qn k))))]) (rfl) ?_
  exact L_Tr_isCold_2 g a a1 a2 az az1 az2 az3 az4 az5 az6 a4 a5 a6 run fo liq ce fi fr fed seen qn h w0 _  (108 + 1) 0 (Nat.zero_le _) (by omega) rfl
abbrev M_Tr_isFilledInOrder : zM := (⟨"Ironpour$Trial", "isFilledInOrder", "()Z"⟩, prog_12_method_18_code, 2, (Option.some FieldType.boolean), 3, 65, [])
theorem d_Tr_isFilledInOrder_2 : decode prog_12_method_18_code 2 = .ok (.iload_n 1, 1) := zo_27 (zd_b zq_prog_12_method_18_code_0 2 rfl rfl rfl)
theorem d_Tr_isFilledInOrder_3 : decode prog_12_method_18_code 3 = .ok (.bipush 108, 2) := zo_16 (d := 108) (zd_b zq_prog_12_method_18_code_0 3 rfl rfl rfl) (zd_b zq_prog_12_method_18_code_0 4 rfl rfl rfl) (by decide +kernel)
theorem d_Tr_isFilledInOrder_5 : decode prog_12_method_18_code 5 = .ok (.if_icmp .ge 34, 3) := zo_162 (d := 0) (e := 34) (zd_b zq_prog_12_method_18_code_0 5 rfl rfl rfl) (zd_b zq_prog_12_method_18_code_0 6 rfl rfl rfl) (zd_b zq_prog_12_method_18_code_0 7 rfl rfl rfl) (by decide +kernel)
theorem d_Tr_isFilledInOrder_39 : decode prog_12_method_18_code 39 = .ok (.iconst 1, 1) := zo_4 (zd_b zq_prog_12_method_18_code_1 7 rfl rfl rfl)
theorem d_Tr_isFilledInOrder_40 : decode prog_12_method_18_code 40 = .ok (.ireturn, 1) := zo_172 (zd_b zq_prog_12_method_18_code_1 8 rfl rfl rfl)
theorem d_Tr_isFilledInOrder_8 : decode prog_12_method_18_code 8 = .ok (.aload_n 0, 1) := zo_42 (zd_b zq_prog_12_method_18_code_0 8 rfl rfl rfl)
theorem d_Tr_isFilledInOrder_9 : decode prog_12_method_18_code 9 = .ok (.getfield 15, 3) := zo_180 (d := 0) (e := 15) (zd_b zq_prog_12_method_18_code_0 9 rfl rfl rfl) (zd_b zq_prog_12_method_18_code_0 10 rfl rfl rfl) (zd_b zq_prog_12_method_18_code_0 11 rfl rfl rfl)
theorem d_Tr_isFilledInOrder_12 : decode prog_12_method_18_code 12 = .ok (.iload_n 1, 1) := zo_27 (zd_b zq_prog_12_method_18_code_0 12 rfl rfl rfl)
theorem d_Tr_isFilledInOrder_13 : decode prog_12_method_18_code 13 = .ok (.iaload, 1) := zo_46 (zd_b zq_prog_12_method_18_code_0 13 rfl rfl rfl)
theorem d_Tr_isFilledInOrder_14 : decode prog_12_method_18_code 14 = .ok (.ifCond .le 19, 3) := zo_158 (d := 0) (e := 19) (zd_b zq_prog_12_method_18_code_0 14 rfl rfl rfl) (zd_b zq_prog_12_method_18_code_0 15 rfl rfl rfl) (zd_b zq_prog_12_method_18_code_0 16 rfl rfl rfl) (by decide +kernel)
theorem d_Tr_isFilledInOrder_33 : decode prog_12_method_18_code 33 = .ok (.iinc 1 1, 3) := by decide +kernel
theorem d_Tr_isFilledInOrder_36 : decode prog_12_method_18_code 36 = .ok (.goto (-34), 3) := zo_167 (d := 255) (e := 222) (zd_b zq_prog_12_method_18_code_1 4 rfl rfl rfl) (zd_b zq_prog_12_method_18_code_1 5 rfl rfl rfl) (zd_b zq_prog_12_method_18_code_1 6 rfl rfl rfl) (by decide +kernel)
theorem d_Tr_isFilledInOrder_17 : decode prog_12_method_18_code 17 = .ok (.aload_n 0, 1) := zo_42 (zd_b zq_prog_12_method_18_code_0 17 rfl rfl rfl)
theorem d_Tr_isFilledInOrder_18 : decode prog_12_method_18_code 18 = .ok (.iload_n 1, 1) := zo_27 (zd_b zq_prog_12_method_18_code_0 18 rfl rfl rfl)
theorem d_Tr_isFilledInOrder_19 : decode prog_12_method_18_code 19 = .ok (.aload_n 0, 1) := zo_42 (zd_b zq_prog_12_method_18_code_0 19 rfl rfl rfl)
theorem d_Tr_isFilledInOrder_20 : decode prog_12_method_18_code 20 = .ok (.getfield 15, 3) := zo_180 (d := 0) (e := 15) (zd_b zq_prog_12_method_18_code_0 20 rfl rfl rfl) (zd_b zq_prog_12_method_18_code_0 21 rfl rfl rfl) (zd_b zq_prog_12_method_18_code_0 22 rfl rfl rfl)
theorem d_Tr_isFilledInOrder_23 : decode prog_12_method_18_code 23 = .ok (.iload_n 1, 1) := zo_27 (zd_b zq_prog_12_method_18_code_0 23 rfl rfl rfl)
theorem d_Tr_isFilledInOrder_24 : decode prog_12_method_18_code 24 = .ok (.iaload, 1) := zo_46 (zd_b zq_prog_12_method_18_code_0 24 rfl rfl rfl)
theorem d_Tr_isFilledInOrder_25 : decode prog_12_method_18_code 25 = .ok (.invokevirtual 68, 3) := zo_182 (d := 0) (e := 68) (zd_b zq_prog_12_method_18_code_0 25 rfl rfl rfl) (zd_b zq_prog_12_method_18_code_0 26 rfl rfl rfl) (zd_b zq_prog_12_method_18_code_0 27 rfl rfl rfl)
theorem ok_Tr_isFilledInOrder_Tr_isBesideFilled : z_ok M_Tr_isFilledInOrder M_Tr_isBesideFilled 2 := ⟨z_mj2 (i := 228) rfl (by decide +kernel), rfl, ⟨by decide +kernel, by decide +kernel, by decide +kernel⟩, ⟨by decide, by decide⟩, z_mj1 (i := 3) rfl (by decide +kernel), rfl⟩
theorem d_Tr_isFilledInOrder_28 : decode prog_12_method_18_code 28 = .ok (.ifCond .ne 5, 3) := zo_154 (d := 0) (e := 5) (zd_b zq_prog_12_method_18_code_0 28 rfl rfl rfl) (zd_b zq_prog_12_method_18_code_0 29 rfl rfl rfl) (zd_b zq_prog_12_method_18_code_0 30 rfl rfl rfl) (by decide +kernel)
theorem d_Tr_isFilledInOrder_31 : decode prog_12_method_18_code 31 = .ok (.iconst 0, 1) := zo_3 (zd_b zq_prog_12_method_18_code_0 31 rfl rfl rfl)
theorem d_Tr_isFilledInOrder_32 : decode prog_12_method_18_code 32 = .ok (.ireturn, 1) := zo_172 (zd_b zq_prog_12_method_18_code_1 0 rfl rfl rfl)
theorem d_Tr_isFilledInOrder_0 : decode prog_12_method_18_code 0 = .ok (.iconst 0, 1) := zo_3 (zd_b zq_prog_12_method_18_code_0 0 rfl rfl rfl)
theorem d_Tr_isFilledInOrder_1 : decode prog_12_method_18_code 1 = .ok (.istore_n 1, 1) := zo_60 (zd_b zq_prog_12_method_18_code_0 1 rfl rfl rfl)
set_option maxHeartbeats 4000000 in
set_option maxRecDepth 100000 in
theorem L_Tr_isFilledInOrder_2 (g : zG) (a a1 a2 az az1 az2 az3 az4 az5 az6 a4 a5 a6 : Nat) (run fo liq : Int32) (ce fi fr fed seen : Nat → Int32) (qn : Nat → Nat) (w0 : zW) (n : Nat) : ∀ (d i : Nat), i ≤ 108 → 108 < i + d → anB (ioP fi) i = false → DV g M_Tr_isFilledInOrder (fun o cs1 => o = .inl (some (.int (z_bi (!anB (ioP fi) 108)))) ∧ cs1 = [(a, .inr (10, [.ref a1, .ref a2, .ref az, .ref a4, .ref a5, .ref a6, .int run, .int fo])), (a1, .inl (1, 108, .inl ce)), (a2, .inl (0, 108, .inl fi)), (az, .inr (2, [.ref az1, .ref az2, .ref az3, .ref az4, .ref az5, .ref az6, .int liq])), (az4, .inl (0, 108, .inl fr)), (a4, .inl (2, 108, .inl fed)), (a5, .inl (2, 108, .inl seen)), (a6, .inl (0, 108, .inl (fun k => nI (qn k))))]) w0 n 2 [(1, .int (nI i)), (0, .ref a)] [] [(a, .inr (10, [.ref a1, .ref a2, .ref az, .ref a4, .ref a5, .ref a6, .int run, .int fo])), (a1, .inl (1, 108, .inl ce)), (a2, .inl (0, 108, .inl fi)), (az, .inr (2, [.ref az1, .ref az2, .ref az3, .ref az4, .ref az5, .ref az6, .int liq])), (az4, .inl (0, 108, .inl fr)), (a4, .inl (2, 108, .inl fed)), (a5, .inl (2, 108, .inl seen)), (a6, .inl (0, 108, .inl (fun k => nI (qn k))))] 0 0 := by
  intro d
  induction d with
  | zero => intro i h1 h2 h3; exact absurd h2 (by omega)
  | succ d ih =>
    intro i h1 h2 h3
    refine r_iload_n d_Tr_isFilledInOrder_2 rfl 0 rfl ?_
    refine r_bipush d_Tr_isFilledInOrder_3 (v := 108) (by decide) ?_
    refine r_icmp_ge (tgt := 39) d_Tr_isFilledInOrder_5 (by decide) (fun c_5 => ?_) (fun c_5 => ?_)
    · have hn := z_le (a := 108) (by omega) (by decide) c_5
      obtain rfl : i = 108 := by omega
      refine r_iconst d_Tr_isFilledInOrder_39 (v := 1) (by decide) ?_
      refine r_iret d_Tr_isFilledInOrder_40 rfl rfl ?_
      exact ⟨by rw [h3]; rfl, rfl⟩
    · have hn := z_nle (a := 108) (by omega) (by decide) c_5
      refine r_aload_n d_Tr_isFilledInOrder_8 rfl 1 rfl ?_
      refine r_get fs_Tr_15 d_Tr_isFilledInOrder_9 (q0 := 0) rfl rfl ?_
      refine r_iload_n d_Tr_isFilledInOrder_12 rfl 0 rfl ?_
      refine r_iald d_Tr_isFilledInOrder_13 (q0 := 2) rfl (vp_in_nI (by omega) (by omega)) (v := fi i) (by rw [nI_clamp (by omega)]) ?_
      refine r_if_le (tgt := 33) d_Tr_isFilledInOrder_14 (by decide) (fun c_14 => ?_) (fun c_14 => ?_)
      · have hk : ioP fi i = false := decide_eq_false (fun q => absurd q.1 (Int32.not_lt.mpr c_14))
        refine r_iinc (lv' := [(1, .int (nI (i + 1))), (0, .ref a)]) (v := nI (i + 1)) d_Tr_isFilledInOrder_33 (j := 0) rfl (nI_add _ _) (by decide) rfl ?_
        refine r_goto (tgt := 2) d_Tr_isFilledInOrder_36 (by decide) ?_
        refine r_lvE (lv2 := [(1, .int (nI (i + 1))), (0, .ref a)]) (rfl) ?_
        refine r_cs (cs2 := [(a, .inr (10, [.ref a1, .ref a2, .ref az, .ref a4, .ref a5, .ref a6, .int run, .int fo])), (a1, .inl (1, 108, .inl ce)), (a2, .inl (0, 108, .inl fi)), (az, .inr (2, [.ref az1, .ref az2, .ref az3, .ref az4, .ref az5, .ref az6, .int liq])), (az4, .inl (0, 108, .inl fr)), (a4, .inl (2, 108, .inl fed)), (a5, .inl (2, 108, .inl seen)), (a6, .inl (0, 108, .inl (fun k => nI (qn k))))]) (rfl) ?_
        exact ih (i + 1) (by omega) (by omega) (anB_no (p := ioP fi) h3 hk)
      · have hm := Int32.not_le.mp c_14
        refine r_aload_n d_Tr_isFilledInOrder_17 rfl 1 rfl ?_
        refine r_iload_n d_Tr_isFilledInOrder_18 rfl 0 rfl ?_
        refine r_aload_n d_Tr_isFilledInOrder_19 rfl 1 rfl ?_
        refine r_get fs_Tr_15 d_Tr_isFilledInOrder_20 (q0 := 0) rfl rfl ?_
        refine r_iload_n d_Tr_isFilledInOrder_23 rfl 0 rfl ?_
        refine r_iald d_Tr_isFilledInOrder_24 (q0 := 2) rfl (vp_in_nI (by omega) (by omega)) (v := fi i) (by rw [nI_clamp (by omega)]) ?_
        refine r_callV (As := [.int (nI i), .int (fi i)]) (rest := []) (csC := [(a, .inr (10, [.ref a1, .ref a2, .ref az, .ref a4, .ref a5, .ref a6, .int run, .int fo])), (a1, .inl (1, 108, .inl ce)), (a2, .inl (0, 108, .inl fi))]) (is := [0, 1, 2]) (q0 := 0) rfl rfl ln_Tr_68 w_im_Tr_isBesideFilled w_se_Tr_isBesideFilled ok_Tr_isFilledInOrder_Tr_isBesideFilled d_Tr_isFilledInOrder_25 (C_Tr_isBesideFilled g a a1 a2 az a4 a5 a6 run fo ce fi i (by omega) (fi i)) rfl rfl (Nat.le_of_ble_eq_true rfl) rfl (by decide) (by omega) (by omega) (fun E cs1 hx => ?_) (fun v cs1 hx => ?_)
        · exact absurd hx.1 (by simp)
        · obtain ⟨e1, rfl⟩ := hx
          cases e1
          refine ⟨rfl, ?_⟩
          refine r_st (st2 := [.int (z_bi (bfB fi i (fi i) 4))]) rfl ?_
          refine r_cs (cs2 := [(a, .inr (10, [.ref a1, .ref a2, .ref az, .ref a4, .ref a5, .ref a6, .int run, .int fo])), (a1, .inl (1, 108, .inl ce)), (a2, .inl (0, 108, .inl fi)), (az, .inr (2, [.ref az1, .ref az2, .ref az3, .ref az4, .ref az5, .ref az6, .int liq])), (az4, .inl (0, 108, .inl fr)), (a4, .inl (2, 108, .inl fed)), (a5, .inl (2, 108, .inl seen)), (a6, .inl (0, 108, .inl (fun k => nI (qn k))))]) rfl ?_
          refine r_if_ne (tgt := 33) d_Tr_isFilledInOrder_28 (by decide) (fun c_28 => ?_) (fun c_28 => ?_)
          · have hk : ioP fi i = false := decide_eq_false (fun q => by have := z_bi1 c_28; rw [q.2] at this; cases this)
            refine r_iinc (lv' := [(1, .int (nI (i + 1))), (0, .ref a)]) (v := nI (i + 1)) d_Tr_isFilledInOrder_33 (j := 0) rfl (nI_add _ _) (by decide) rfl ?_
            refine r_goto (tgt := 2) d_Tr_isFilledInOrder_36 (by decide) ?_
            refine r_lvE (lv2 := [(1, .int (nI (i + 1))), (0, .ref a)]) (rfl) ?_
            refine r_cs (cs2 := [(a, .inr (10, [.ref a1, .ref a2, .ref az, .ref a4, .ref a5, .ref a6, .int run, .int fo])), (a1, .inl (1, 108, .inl ce)), (a2, .inl (0, 108, .inl fi)), (az, .inr (2, [.ref az1, .ref az2, .ref az3, .ref az4, .ref az5, .ref az6, .int liq])), (az4, .inl (0, 108, .inl fr)), (a4, .inl (2, 108, .inl fed)), (a5, .inl (2, 108, .inl seen)), (a6, .inl (0, 108, .inl (fun k => nI (qn k))))]) (rfl) ?_
            exact ih (i + 1) (by omega) (by omega) (anB_no (p := ioP fi) h3 hk)
          · have hk : ioP fi i = true := decide_eq_true ⟨hm, z_bi0 c_28⟩
            refine r_iconst d_Tr_isFilledInOrder_31 (v := 0) (by decide) ?_
            refine r_iret d_Tr_isFilledInOrder_32 rfl rfl ?_
            exact ⟨by rw [anB_hit (p := ioP fi) hn hk]; rfl, rfl⟩
set_option maxHeartbeats 4000000 in
set_option maxRecDepth 100000 in
theorem C_Tr_isFilledInOrder (g : zG) (a a1 a2 az az1 az2 az3 az4 az5 az6 a4 a5 a6 : Nat) (run fo liq : Int32) (ce fi fr fed seen : Nat → Int32) (qn : Nat → Nat) : CT g M_Tr_isFilledInOrder [.ref a] [(a, .inr (10, [.ref a1, .ref a2, .ref az, .ref a4, .ref a5, .ref a6, .int run, .int fo])), (a1, .inl (1, 108, .inl ce)), (a2, .inl (0, 108, .inl fi)), (az, .inr (2, [.ref az1, .ref az2, .ref az3, .ref az4, .ref az5, .ref az6, .int liq])), (az4, .inl (0, 108, .inl fr)), (a4, .inl (2, 108, .inl fed)), (a5, .inl (2, 108, .inl seen)), (a6, .inl (0, 108, .inl (fun k => nI (qn k))))] (fun o cs1 => o = .inl (some (.int (z_bi (!anB (ioP fi) 108)))) ∧ cs1 = [(a, .inr (10, [.ref a1, .ref a2, .ref az, .ref a4, .ref a5, .ref a6, .int run, .int fo])), (a1, .inl (1, 108, .inl ce)), (a2, .inl (0, 108, .inl fi)), (az, .inr (2, [.ref az1, .ref az2, .ref az3, .ref az4, .ref az5, .ref az6, .int liq])), (az4, .inl (0, 108, .inl fr)), (a4, .inl (2, 108, .inl fed)), (a5, .inl (2, 108, .inl seen)), (a6, .inl (0, 108, .inl (fun k => nI (qn k))))]) 0 0 := by
  refine z_of (by decide) rfl (Nat.le_of_ble_eq_true rfl) (fun w0 => ?_)
  refine r_lvE (lv2 := [(0, .ref a)]) rfl ?_
  refine r_iconst d_Tr_isFilledInOrder_0 (v := 0) (by decide) ?_
  refine r_istore_n (lv' := [(1, .int 0), (0, .ref a)]) d_Tr_isFilledInOrder_1 rfl (by decide) rfl ?_
  refine r_lvE (lv2 := [(1, .int (nI 0)), (0, .ref a)]) (rfl) ?_
  refine r_cs (cs2 := [(a, .inr (10, [.ref a1, .ref a2, .ref az, .ref a4, .ref a5, .ref a6, .int run, .int fo])), (a1, .inl (1, 108, .inl ce)), (a2, .inl (0, 108, .inl fi)), (az, .inr (2, [.ref az1, .ref az2, .ref az3, .ref az4, .ref az5, .ref az6, .int liq])), (az4, .inl (0, 108, .inl fr)), (a4, .inl (2, 108, .inl fed)), (a5, .inl (2, 108, .inl seen)), (a6, .inl (0, 108, .inl (fun k => nI (qn k))))]) (rfl) ?_
  exact L_Tr_isFilledInOrder_2 g a a1 a2 az az1 az2 az3 az4 az5 az6 a4 a5 a6 run fo liq ce fi fr fed seen qn w0 _  (108 + 1) 0 (Nat.zero_le _) (by omega) rfl
abbrev M_Tr_lastFrozen : zM := (⟨"Ironpour$Trial", "lastFrozen", "()I"⟩, prog_12_method_16_code, 4, (Option.some FieldType.int), 2, 41, [])
theorem d_Tr_lastFrozen_6 : decode prog_12_method_16_code 6 = .ok (.iload_n 3, 1) := zo_29 (zd_b zq_prog_12_method_16_code_0 6 rfl rfl rfl)
theorem d_Tr_lastFrozen_7 : decode prog_12_method_16_code 7 = .ok (.bipush 108, 2) := zo_16 (d := 108) (zd_b zq_prog_12_method_16_code_0 7 rfl rfl rfl) (zd_b zq_prog_12_method_16_code_0 8 rfl rfl rfl) (by decide +kernel)
theorem d_Tr_lastFrozen_9 : decode prog_12_method_16_code 9 = .ok (.if_icmp .ge 53, 3) := zo_162 (d := 0) (e := 53) (zd_b zq_prog_12_method_16_code_0 9 rfl rfl rfl) (zd_b zq_prog_12_method_16_code_0 10 rfl rfl rfl) (zd_b zq_prog_12_method_16_code_0 11 rfl rfl rfl) (by decide +kernel)
theorem d_Tr_lastFrozen_62 : decode prog_12_method_16_code 62 = .ok (.iload_n 1, 1) := zo_27 (zd_b zq_prog_12_method_16_code_1 30 rfl rfl rfl)
theorem d_Tr_lastFrozen_63 : decode prog_12_method_16_code 63 = .ok (.ireturn, 1) := zo_172 (zd_b zq_prog_12_method_16_code_1 31 rfl rfl rfl)
theorem d_Tr_lastFrozen_12 : decode prog_12_method_16_code 12 = .ok (.aload_n 0, 1) := zo_42 (zd_b zq_prog_12_method_16_code_0 12 rfl rfl rfl)
theorem d_Tr_lastFrozen_13 : decode prog_12_method_16_code 13 = .ok (.getfield 9, 3) := zo_180 (d := 0) (e := 9) (zd_b zq_prog_12_method_16_code_0 13 rfl rfl rfl) (zd_b zq_prog_12_method_16_code_0 14 rfl rfl rfl) (zd_b zq_prog_12_method_16_code_0 15 rfl rfl rfl)
theorem d_Tr_lastFrozen_16 : decode prog_12_method_16_code 16 = .ok (.iload_n 3, 1) := zo_29 (zd_b zq_prog_12_method_16_code_0 16 rfl rfl rfl)
theorem d_Tr_lastFrozen_17 : decode prog_12_method_16_code 17 = .ok (.caload, 1) := zo_52 (zd_b zq_prog_12_method_16_code_0 17 rfl rfl rfl)
theorem d_Tr_lastFrozen_18 : decode prog_12_method_16_code 18 = .ok (.bipush 99, 2) := zo_16 (d := 99) (zd_b zq_prog_12_method_16_code_0 18 rfl rfl rfl) (zd_b zq_prog_12_method_16_code_0 19 rfl rfl rfl) (by decide +kernel)
theorem d_Tr_lastFrozen_20 : decode prog_12_method_16_code 20 = .ok (.if_icmp .ne 36, 3) := zo_160 (d := 0) (e := 36) (zd_b zq_prog_12_method_16_code_0 20 rfl rfl rfl) (zd_b zq_prog_12_method_16_code_0 21 rfl rfl rfl) (zd_b zq_prog_12_method_16_code_0 22 rfl rfl rfl) (by decide +kernel)
theorem d_Tr_lastFrozen_56 : decode prog_12_method_16_code 56 = .ok (.iinc 3 1, 3) := by decide +kernel
theorem d_Tr_lastFrozen_59 : decode prog_12_method_16_code 59 = .ok (.goto (-53), 3) := zo_167 (d := 255) (e := 203) (zd_b zq_prog_12_method_16_code_1 27 rfl rfl rfl) (zd_b zq_prog_12_method_16_code_1 28 rfl rfl rfl) (zd_b zq_prog_12_method_16_code_1 29 rfl rfl rfl) (by decide +kernel)
theorem d_Tr_lastFrozen_23 : decode prog_12_method_16_code 23 = .ok (.aload_n 0, 1) := zo_42 (zd_b zq_prog_12_method_16_code_0 23 rfl rfl rfl)
theorem d_Tr_lastFrozen_24 : decode prog_12_method_16_code 24 = .ok (.iload_n 3, 1) := zo_29 (zd_b zq_prog_12_method_16_code_0 24 rfl rfl rfl)
theorem d_Tr_lastFrozen_25 : decode prog_12_method_16_code 25 = .ok (.invokevirtual 91, 3) := zo_182 (d := 0) (e := 91) (zd_b zq_prog_12_method_16_code_0 25 rfl rfl rfl) (zd_b zq_prog_12_method_16_code_0 26 rfl rfl rfl) (zd_b zq_prog_12_method_16_code_0 27 rfl rfl rfl)
theorem ok_Tr_lastFrozen_Tr_isFilled : z_ok M_Tr_lastFrozen M_Tr_isFilled 1 := ⟨z_mj3 (i := 25) rfl (by decide +kernel), rfl, ⟨by decide +kernel, by decide +kernel, by decide +kernel⟩, ⟨by decide, by decide⟩, z_mj1 (i := 3) rfl (by decide +kernel), rfl⟩
theorem d_Tr_lastFrozen_28 : decode prog_12_method_16_code 28 = .ok (.ifCond .eq 28, 3) := zo_153 (d := 0) (e := 28) (zd_b zq_prog_12_method_16_code_0 28 rfl rfl rfl) (zd_b zq_prog_12_method_16_code_0 29 rfl rfl rfl) (zd_b zq_prog_12_method_16_code_0 30 rfl rfl rfl) (by decide +kernel)
theorem d_Tr_lastFrozen_31 : decode prog_12_method_16_code 31 = .ok (.aload_n 0, 1) := zo_42 (zd_b zq_prog_12_method_16_code_0 31 rfl rfl rfl)
theorem d_Tr_lastFrozen_32 : decode prog_12_method_16_code 32 = .ok (.getfield 22, 3) := zo_180 (d := 0) (e := 22) (zd_b zq_prog_12_method_16_code_1 0 rfl rfl rfl) (zd_b zq_prog_12_method_16_code_1 1 rfl rfl rfl) (zd_b zq_prog_12_method_16_code_1 2 rfl rfl rfl)
theorem d_Tr_lastFrozen_35 : decode prog_12_method_16_code 35 = .ok (.getfield 98, 3) := zo_180 (d := 0) (e := 98) (zd_b zq_prog_12_method_16_code_1 3 rfl rfl rfl) (zd_b zq_prog_12_method_16_code_1 4 rfl rfl rfl) (zd_b zq_prog_12_method_16_code_1 5 rfl rfl rfl)
theorem d_Tr_lastFrozen_38 : decode prog_12_method_16_code 38 = .ok (.iload_n 3, 1) := zo_29 (zd_b zq_prog_12_method_16_code_1 6 rfl rfl rfl)
theorem d_Tr_lastFrozen_39 : decode prog_12_method_16_code 39 = .ok (.iaload, 1) := zo_46 (zd_b zq_prog_12_method_16_code_1 7 rfl rfl rfl)
theorem d_Tr_lastFrozen_40 : decode prog_12_method_16_code 40 = .ok (.iload_n 2, 1) := zo_28 (zd_b zq_prog_12_method_16_code_1 8 rfl rfl rfl)
theorem d_Tr_lastFrozen_41 : decode prog_12_method_16_code 41 = .ok (.if_icmp .le 15, 3) := zo_164 (d := 0) (e := 15) (zd_b zq_prog_12_method_16_code_1 9 rfl rfl rfl) (zd_b zq_prog_12_method_16_code_1 10 rfl rfl rfl) (zd_b zq_prog_12_method_16_code_1 11 rfl rfl rfl) (by decide +kernel)
theorem d_Tr_lastFrozen_44 : decode prog_12_method_16_code 44 = .ok (.aload_n 0, 1) := zo_42 (zd_b zq_prog_12_method_16_code_1 12 rfl rfl rfl)
theorem d_Tr_lastFrozen_45 : decode prog_12_method_16_code 45 = .ok (.getfield 22, 3) := zo_180 (d := 0) (e := 22) (zd_b zq_prog_12_method_16_code_1 13 rfl rfl rfl) (zd_b zq_prog_12_method_16_code_1 14 rfl rfl rfl) (zd_b zq_prog_12_method_16_code_1 15 rfl rfl rfl)
theorem d_Tr_lastFrozen_48 : decode prog_12_method_16_code 48 = .ok (.getfield 98, 3) := zo_180 (d := 0) (e := 98) (zd_b zq_prog_12_method_16_code_1 16 rfl rfl rfl) (zd_b zq_prog_12_method_16_code_1 17 rfl rfl rfl) (zd_b zq_prog_12_method_16_code_1 18 rfl rfl rfl)
theorem d_Tr_lastFrozen_51 : decode prog_12_method_16_code 51 = .ok (.iload_n 3, 1) := zo_29 (zd_b zq_prog_12_method_16_code_1 19 rfl rfl rfl)
theorem d_Tr_lastFrozen_52 : decode prog_12_method_16_code 52 = .ok (.iaload, 1) := zo_46 (zd_b zq_prog_12_method_16_code_1 20 rfl rfl rfl)
theorem d_Tr_lastFrozen_53 : decode prog_12_method_16_code 53 = .ok (.istore_n 2, 1) := zo_61 (zd_b zq_prog_12_method_16_code_1 21 rfl rfl rfl)
theorem d_Tr_lastFrozen_54 : decode prog_12_method_16_code 54 = .ok (.iload_n 3, 1) := zo_29 (zd_b zq_prog_12_method_16_code_1 22 rfl rfl rfl)
theorem d_Tr_lastFrozen_55 : decode prog_12_method_16_code 55 = .ok (.istore_n 1, 1) := zo_60 (zd_b zq_prog_12_method_16_code_1 23 rfl rfl rfl)
theorem d_Tr_lastFrozen_0 : decode prog_12_method_16_code 0 = .ok (.iconst (-1), 1) := zo_2 (zd_b zq_prog_12_method_16_code_0 0 rfl rfl rfl)
theorem d_Tr_lastFrozen_1 : decode prog_12_method_16_code 1 = .ok (.istore_n 1, 1) := zo_60 (zd_b zq_prog_12_method_16_code_0 1 rfl rfl rfl)
theorem d_Tr_lastFrozen_2 : decode prog_12_method_16_code 2 = .ok (.iconst 0, 1) := zo_3 (zd_b zq_prog_12_method_16_code_0 2 rfl rfl rfl)
theorem d_Tr_lastFrozen_3 : decode prog_12_method_16_code 3 = .ok (.istore_n 2, 1) := zo_61 (zd_b zq_prog_12_method_16_code_0 3 rfl rfl rfl)
theorem d_Tr_lastFrozen_4 : decode prog_12_method_16_code 4 = .ok (.iconst 0, 1) := zo_3 (zd_b zq_prog_12_method_16_code_0 4 rfl rfl rfl)
theorem d_Tr_lastFrozen_5 : decode prog_12_method_16_code 5 = .ok (.istore_n 3, 1) := zo_62 (zd_b zq_prog_12_method_16_code_0 5 rfl rfl rfl)
set_option maxHeartbeats 4000000 in
set_option maxRecDepth 100000 in
theorem L_Tr_lastFrozen_6 (g : zG) (a a1 a2 az az1 az2 az3 az4 az5 az6 a4 a5 a6 : Nat) (run fo liq : Int32) (ce fi fr fed seen : Nat → Int32) (qn : Nat → Nat) (w0 : zW) (n : Nat) : ∀ (d i : Nat), i ≤ 108 → 108 < i + d → DV g M_Tr_lastFrozen (fun o cs1 => o = .inl (some (.int ((lfS ce fi fr 108).1))) ∧ cs1 = [(a, .inr (10, [.ref a1, .ref a2, .ref az, .ref a4, .ref a5, .ref a6, .int run, .int fo])), (a1, .inl (1, 108, .inl ce)), (a2, .inl (0, 108, .inl fi)), (az, .inr (2, [.ref az1, .ref az2, .ref az3, .ref az4, .ref az5, .ref az6, .int liq])), (az4, .inl (0, 108, .inl fr)), (a4, .inl (2, 108, .inl fed)), (a5, .inl (2, 108, .inl seen)), (a6, .inl (0, 108, .inl (fun k => nI (qn k))))]) w0 n 6 [(3, .int (nI i)), (2, .int ((lfS ce fi fr i).2)), (1, .int ((lfS ce fi fr i).1)), (0, .ref a)] [] [(a, .inr (10, [.ref a1, .ref a2, .ref az, .ref a4, .ref a5, .ref a6, .int run, .int fo])), (a1, .inl (1, 108, .inl ce)), (a2, .inl (0, 108, .inl fi)), (az, .inr (2, [.ref az1, .ref az2, .ref az3, .ref az4, .ref az5, .ref az6, .int liq])), (az4, .inl (0, 108, .inl fr)), (a4, .inl (2, 108, .inl fed)), (a5, .inl (2, 108, .inl seen)), (a6, .inl (0, 108, .inl (fun k => nI (qn k))))] 0 0 := by
  intro d
  induction d with
  | zero => intro i h1 h2 ; exact absurd h2 (by omega)
  | succ d ih =>
    intro i h1 h2 
    refine r_iload_n d_Tr_lastFrozen_6 rfl 0 rfl ?_
    refine r_bipush d_Tr_lastFrozen_7 (v := 108) (by decide) ?_
    refine r_icmp_ge (tgt := 62) d_Tr_lastFrozen_9 (by decide) (fun c_9 => ?_) (fun c_9 => ?_)
    · have hn := z_le (a := 108) (by omega) (by decide) c_9
      obtain rfl : i = 108 := by omega
      refine r_iload_n d_Tr_lastFrozen_62 rfl 2 rfl ?_
      refine r_iret d_Tr_lastFrozen_63 rfl rfl ?_
      exact ⟨rfl, rfl⟩
    · have hn := z_nle (a := 108) (by omega) (by decide) c_9
      refine r_aload_n d_Tr_lastFrozen_12 rfl 3 rfl ?_
      refine r_get fs_Tr_9 d_Tr_lastFrozen_13 (q0 := 0) rfl rfl ?_
      refine r_iload_n d_Tr_lastFrozen_16 rfl 0 rfl ?_
      refine r_cald d_Tr_lastFrozen_17 (q0 := 1) rfl (vp_in_nI (by omega) (by omega)) (v := ce i) (by rw [nI_clamp (by omega)]) ?_
      refine r_bipush d_Tr_lastFrozen_18 (v := 99) (by decide) ?_
      refine r_icmp_ne (tgt := 56) d_Tr_lastFrozen_20 (by decide) (fun c_20 => ?_) (fun c_20 => ?_)
      · have hk := lfS_f (ce := ce) (fi := fi) (fr := fr) (i := i) (fun q => c_20 q.1)
        refine r_iinc (lv' := [(3, .int (nI (i + 1))), (2, .int ((lfS ce fi fr i).2)), (1, .int ((lfS ce fi fr i).1)), (0, .ref a)]) (v := nI (i + 1)) d_Tr_lastFrozen_56 (j := 0) rfl (nI_add _ _) (by decide) rfl ?_
        refine r_goto (tgt := 6) d_Tr_lastFrozen_59 (by decide) ?_
        refine r_lvE (lv2 := [(3, .int (nI (i + 1))), (2, .int ((lfS ce fi fr (i + 1)).2)), (1, .int ((lfS ce fi fr (i + 1)).1)), (0, .ref a)]) (by rw [hk] <;> rfl) ?_
        refine r_cs (cs2 := [(a, .inr (10, [.ref a1, .ref a2, .ref az, .ref a4, .ref a5, .ref a6, .int run, .int fo])), (a1, .inl (1, 108, .inl ce)), (a2, .inl (0, 108, .inl fi)), (az, .inr (2, [.ref az1, .ref az2, .ref az3, .ref az4, .ref az5, .ref az6, .int liq])), (az4, .inl (0, 108, .inl fr)), (a4, .inl (2, 108, .inl fed)), (a5, .inl (2, 108, .inl seen)), (a6, .inl (0, 108, .inl (fun k => nI (qn k))))]) (rfl) ?_
        exact ih (i + 1) (by omega) (by omega)
      · refine r_aload_n d_Tr_lastFrozen_23 rfl 3 rfl ?_
        refine r_iload_n d_Tr_lastFrozen_24 rfl 0 rfl ?_
        refine r_callV (As := [.int (nI i)]) (rest := []) (csC := [(a, .inr (10, [.ref a1, .ref a2, .ref az, .ref a4, .ref a5, .ref a6, .int run, .int fo])), (a1, .inl (1, 108, .inl ce)), (a2, .inl (0, 108, .inl fi))]) (is := [0, 1, 2]) (q0 := 0) rfl rfl ln_Tr_91 w_im_Tr_isFilled w_se_Tr_isFilled ok_Tr_lastFrozen_Tr_isFilled d_Tr_lastFrozen_25 (C_Tr_isFilled g a a1 a2 az a4 a5 a6 run fo ce fi i (by omega)) rfl rfl (Nat.le_of_ble_eq_true rfl) rfl (by decide) (by omega) (by omega) (fun E cs1 hx => ?_) (fun v cs1 hx => ?_)
        · exact absurd hx.1 (by simp)
        · obtain ⟨e1, rfl⟩ := hx
          cases e1
          refine ⟨rfl, ?_⟩
          refine r_st (st2 := [.int (z_bi (decide (¬ fi i < 0)))]) rfl ?_
          refine r_cs (cs2 := [(a, .inr (10, [.ref a1, .ref a2, .ref az, .ref a4, .ref a5, .ref a6, .int run, .int fo])), (a1, .inl (1, 108, .inl ce)), (a2, .inl (0, 108, .inl fi)), (az, .inr (2, [.ref az1, .ref az2, .ref az3, .ref az4, .ref az5, .ref az6, .int liq])), (az4, .inl (0, 108, .inl fr)), (a4, .inl (2, 108, .inl fed)), (a5, .inl (2, 108, .inl seen)), (a6, .inl (0, 108, .inl (fun k => nI (qn k))))]) rfl ?_
          refine r_if_eq (tgt := 56) d_Tr_lastFrozen_28 (by decide) (fun c_28 => ?_) (fun c_28 => ?_)
          · have hk := lfS_f (ce := ce) (fi := fi) (fr := fr) (i := i) (fun q => by have := z_bi0 c_28; rw [decide_eq_true q.2.1] at this; cases this)
            refine r_iinc (lv' := [(3, .int (nI (i + 1))), (2, .int ((lfS ce fi fr i).2)), (1, .int ((lfS ce fi fr i).1)), (0, .ref a)]) (v := nI (i + 1)) d_Tr_lastFrozen_56 (j := 0) rfl (nI_add _ _) (by decide) rfl ?_
            refine r_goto (tgt := 6) d_Tr_lastFrozen_59 (by decide) ?_
            refine r_lvE (lv2 := [(3, .int (nI (i + 1))), (2, .int ((lfS ce fi fr (i + 1)).2)), (1, .int ((lfS ce fi fr (i + 1)).1)), (0, .ref a)]) (by rw [hk] <;> rfl) ?_
            refine r_cs (cs2 := [(a, .inr (10, [.ref a1, .ref a2, .ref az, .ref a4, .ref a5, .ref a6, .int run, .int fo])), (a1, .inl (1, 108, .inl ce)), (a2, .inl (0, 108, .inl fi)), (az, .inr (2, [.ref az1, .ref az2, .ref az3, .ref az4, .ref az5, .ref az6, .int liq])), (az4, .inl (0, 108, .inl fr)), (a4, .inl (2, 108, .inl fed)), (a5, .inl (2, 108, .inl seen)), (a6, .inl (0, 108, .inl (fun k => nI (qn k))))]) (rfl) ?_
            exact ih (i + 1) (by omega) (by omega)
          · refine r_aload_n d_Tr_lastFrozen_31 rfl 3 rfl ?_
            refine r_get fs_Tr_22 d_Tr_lastFrozen_32 (q0 := 0) rfl rfl ?_
            refine r_get fs_Tr_98 d_Tr_lastFrozen_35 (q0 := 3) rfl rfl ?_
            refine r_iload_n d_Tr_lastFrozen_38 rfl 0 rfl ?_
            refine r_iald d_Tr_lastFrozen_39 (q0 := 4) rfl (vp_in_nI (by omega) (by omega)) (v := fr i) (by rw [nI_clamp (by omega)]) ?_
            refine r_iload_n d_Tr_lastFrozen_40 rfl 1 rfl ?_
            refine r_icmp_le (tgt := 56) d_Tr_lastFrozen_41 (by decide) (fun c_41 => ?_) (fun c_41 => ?_)
            · have hk := lfS_f (ce := ce) (fi := fi) (fr := fr) (i := i) (fun q => q.2.2 c_41)
              refine r_iinc (lv' := [(3, .int (nI (i + 1))), (2, .int ((lfS ce fi fr i).2)), (1, .int ((lfS ce fi fr i).1)), (0, .ref a)]) (v := nI (i + 1)) d_Tr_lastFrozen_56 (j := 0) rfl (nI_add _ _) (by decide) rfl ?_
              refine r_goto (tgt := 6) d_Tr_lastFrozen_59 (by decide) ?_
              refine r_lvE (lv2 := [(3, .int (nI (i + 1))), (2, .int ((lfS ce fi fr (i + 1)).2)), (1, .int ((lfS ce fi fr (i + 1)).1)), (0, .ref a)]) (by rw [hk] <;> rfl) ?_
              refine r_cs (cs2 := [(a, .inr (10, [.ref a1, .ref a2, .ref az, .ref a4, .ref a5, .ref a6, .int run, .int fo])), (a1, .inl (1, 108, .inl ce)), (a2, .inl (0, 108, .inl fi)), (az, .inr (2, [.ref az1, .ref az2, .ref az3, .ref az4, .ref az5, .ref az6, .int liq])), (az4, .inl (0, 108, .inl fr)), (a4, .inl (2, 108, .inl fed)), (a5, .inl (2, 108, .inl seen)), (a6, .inl (0, 108, .inl (fun k => nI (qn k))))]) (rfl) ?_
              exact ih (i + 1) (by omega) (by omega)
            · have hk := lfS_t (ce := ce) (fi := fi) (fr := fr) (i := i) ⟨c_20, of_decide_eq_true (z_bi1 c_28), c_41⟩
              refine r_aload_n d_Tr_lastFrozen_44 rfl 3 rfl ?_
              refine r_get fs_Tr_22 d_Tr_lastFrozen_45 (q0 := 0) rfl rfl ?_
              refine r_get fs_Tr_98 d_Tr_lastFrozen_48 (q0 := 3) rfl rfl ?_
              refine r_iload_n d_Tr_lastFrozen_51 rfl 0 rfl ?_
              refine r_iald d_Tr_lastFrozen_52 (q0 := 4) rfl (vp_in_nI (by omega) (by omega)) (v := fr i) (by rw [nI_clamp (by omega)]) ?_
              refine r_istore_n (lv' := [(2, .int (fr i)), (3, .int (nI i)), (1, .int ((lfS ce fi fr i).1)), (0, .ref a)]) d_Tr_lastFrozen_53 rfl (by decide) rfl ?_
              refine r_iload_n d_Tr_lastFrozen_54 rfl 1 rfl ?_
              refine r_istore_n (lv' := [(1, .int (nI i)), (2, .int (fr i)), (3, .int (nI i)), (0, .ref a)]) d_Tr_lastFrozen_55 rfl (by decide) rfl ?_
              refine r_iinc (lv' := [(3, .int (nI (i + 1))), (1, .int (nI i)), (2, .int (fr i)), (0, .ref a)]) (v := nI (i + 1)) d_Tr_lastFrozen_56 (j := 2) rfl (nI_add _ _) (by decide) rfl ?_
              refine r_goto (tgt := 6) d_Tr_lastFrozen_59 (by decide) ?_
              refine r_lv (lv' := [(3, .int (nI (i + 1))), (2, .int (fr i)), (1, .int (nI i)), (0, .ref a)]) [0, 2, 1, 3] rfl ?_
              refine r_lvE (lv2 := [(3, .int (nI (i + 1))), (2, .int ((lfS ce fi fr (i + 1)).2)), (1, .int ((lfS ce fi fr (i + 1)).1)), (0, .ref a)]) (by rw [hk] <;> rfl) ?_
              refine r_cs (cs2 := [(a, .inr (10, [.ref a1, .ref a2, .ref az, .ref a4, .ref a5, .ref a6, .int run, .int fo])), (a1, .inl (1, 108, .inl ce)), (a2, .inl (0, 108, .inl fi)), (az, .inr (2, [.ref az1, .ref az2, .ref az3, .ref az4, .ref az5, .ref az6, .int liq])), (az4, .inl (0, 108, .inl fr)), (a4, .inl (2, 108, .inl fed)), (a5, .inl (2, 108, .inl seen)), (a6, .inl (0, 108, .inl (fun k => nI (qn k))))]) (rfl) ?_
              exact ih (i + 1) (by omega) (by omega)
set_option maxHeartbeats 4000000 in
set_option maxRecDepth 100000 in
theorem C_Tr_lastFrozen (g : zG) (a a1 a2 az az1 az2 az3 az4 az5 az6 a4 a5 a6 : Nat) (run fo liq : Int32) (ce fi fr fed seen : Nat → Int32) (qn : Nat → Nat) : CT g M_Tr_lastFrozen [.ref a] [(a, .inr (10, [.ref a1, .ref a2, .ref az, .ref a4, .ref a5, .ref a6, .int run, .int fo])), (a1, .inl (1, 108, .inl ce)), (a2, .inl (0, 108, .inl fi)), (az, .inr (2, [.ref az1, .ref az2, .ref az3, .ref az4, .ref az5, .ref az6, .int liq])), (az4, .inl (0, 108, .inl fr)), (a4, .inl (2, 108, .inl fed)), (a5, .inl (2, 108, .inl seen)), (a6, .inl (0, 108, .inl (fun k => nI (qn k))))] (fun o cs1 => o = .inl (some (.int ((lfS ce fi fr 108).1))) ∧ cs1 = [(a, .inr (10, [.ref a1, .ref a2, .ref az, .ref a4, .ref a5, .ref a6, .int run, .int fo])), (a1, .inl (1, 108, .inl ce)), (a2, .inl (0, 108, .inl fi)), (az, .inr (2, [.ref az1, .ref az2, .ref az3, .ref az4, .ref az5, .ref az6, .int liq])), (az4, .inl (0, 108, .inl fr)), (a4, .inl (2, 108, .inl fed)), (a5, .inl (2, 108, .inl seen)), (a6, .inl (0, 108, .inl (fun k => nI (qn k))))]) 0 0 := by
  refine z_of (by decide) rfl (Nat.le_of_ble_eq_true rfl) (fun w0 => ?_)
  refine r_lvE (lv2 := [(0, .ref a)]) rfl ?_
  refine r_iconst d_Tr_lastFrozen_0 (v := (-1)) (by decide) ?_
  refine r_istore_n (lv' := [(1, .int (-1)), (0, .ref a)]) d_Tr_lastFrozen_1 rfl (by decide) rfl ?_
  refine r_iconst d_Tr_lastFrozen_2 (v := 0) (by decide) ?_
  refine r_istore_n (lv' := [(2, .int 0), (1, .int (-1)), (0, .ref a)]) d_Tr_lastFrozen_3 rfl (by decide) rfl ?_
  refine r_iconst d_Tr_lastFrozen_4 (v := 0) (by decide) ?_
  refine r_istore_n (lv' := [(3, .int 0), (2, .int 0), (1, .int (-1)), (0, .ref a)]) d_Tr_lastFrozen_5 rfl (by decide) rfl ?_
  refine r_lvE (lv2 := [(3, .int (nI 0)), (2, .int ((lfS ce fi fr 0).2)), (1, .int ((lfS ce fi fr 0).1)), (0, .ref a)]) (rfl) ?_
  refine r_cs (cs2 := [(a, .inr (10, [.ref a1, .ref a2, .ref az, .ref a4, .ref a5, .ref a6, .int run, .int fo])), (a1, .inl (1, 108, .inl ce)), (a2, .inl (0, 108, .inl fi)), (az, .inr (2, [.ref az1, .ref az2, .ref az3, .ref az4, .ref az5, .ref az6, .int liq])), (az4, .inl (0, 108, .inl fr)), (a4, .inl (2, 108, .inl fed)), (a5, .inl (2, 108, .inl seen)), (a6, .inl (0, 108, .inl (fun k => nI (qn k))))]) (rfl) ?_
  exact L_Tr_lastFrozen_6 g a a1 a2 az az1 az2 az3 az4 az5 az6 a4 a5 a6 run fo liq ce fi fr fed seen qn w0 _  (108 + 1) 0 (Nat.zero_le _) (by omega)
abbrev M_Tr_cellsWithoutWay : zM := (⟨"Ironpour$Trial", "cellsWithoutWay", "()I"⟩, prog_12_method_13_code, 3, (Option.some FieldType.int), 4, 89, [])
theorem d_Tr_cellsWithoutWay_4 : decode prog_12_method_13_code 4 = .ok (.iload_n 2, 1) := zo_28 (zd_b zq_prog_12_method_13_code_0 4 rfl rfl rfl)
theorem d_Tr_cellsWithoutWay_5 : decode prog_12_method_13_code 5 = .ok (.bipush 108, 2) := zo_16 (d := 108) (zd_b zq_prog_12_method_13_code_0 5 rfl rfl rfl) (zd_b zq_prog_12_method_13_code_0 6 rfl rfl rfl) (by decide +kernel)
theorem d_Tr_cellsWithoutWay_7 : decode prog_12_method_13_code 7 = .ok (.if_icmp .ge 39, 3) := zo_162 (d := 0) (e := 39) (zd_b zq_prog_12_method_13_code_0 7 rfl rfl rfl) (zd_b zq_prog_12_method_13_code_0 8 rfl rfl rfl) (zd_b zq_prog_12_method_13_code_0 9 rfl rfl rfl) (by decide +kernel)
theorem d_Tr_cellsWithoutWay_46 : decode prog_12_method_13_code 46 = .ok (.iload_n 1, 1) := zo_27 (zd_b zq_prog_12_method_13_code_1 14 rfl rfl rfl)
theorem d_Tr_cellsWithoutWay_47 : decode prog_12_method_13_code 47 = .ok (.ireturn, 1) := zo_172 (zd_b zq_prog_12_method_13_code_1 15 rfl rfl rfl)
theorem d_Tr_cellsWithoutWay_10 : decode prog_12_method_13_code 10 = .ok (.aload_n 0, 1) := zo_42 (zd_b zq_prog_12_method_13_code_0 10 rfl rfl rfl)
theorem d_Tr_cellsWithoutWay_11 : decode prog_12_method_13_code 11 = .ok (.getfield 9, 3) := zo_180 (d := 0) (e := 9) (zd_b zq_prog_12_method_13_code_0 11 rfl rfl rfl) (zd_b zq_prog_12_method_13_code_0 12 rfl rfl rfl) (zd_b zq_prog_12_method_13_code_0 13 rfl rfl rfl)
theorem d_Tr_cellsWithoutWay_14 : decode prog_12_method_13_code 14 = .ok (.iload_n 2, 1) := zo_28 (zd_b zq_prog_12_method_13_code_0 14 rfl rfl rfl)
theorem d_Tr_cellsWithoutWay_15 : decode prog_12_method_13_code 15 = .ok (.caload, 1) := zo_52 (zd_b zq_prog_12_method_13_code_0 15 rfl rfl rfl)
theorem d_Tr_cellsWithoutWay_16 : decode prog_12_method_13_code 16 = .ok (.bipush 99, 2) := zo_16 (d := 99) (zd_b zq_prog_12_method_13_code_0 16 rfl rfl rfl) (zd_b zq_prog_12_method_13_code_0 17 rfl rfl rfl) (by decide +kernel)
theorem d_Tr_cellsWithoutWay_18 : decode prog_12_method_13_code 18 = .ok (.if_icmp .ne 22, 3) := zo_160 (d := 0) (e := 22) (zd_b zq_prog_12_method_13_code_0 18 rfl rfl rfl) (zd_b zq_prog_12_method_13_code_0 19 rfl rfl rfl) (zd_b zq_prog_12_method_13_code_0 20 rfl rfl rfl) (by decide +kernel)
theorem d_Tr_cellsWithoutWay_40 : decode prog_12_method_13_code 40 = .ok (.iinc 2 1, 3) := by decide +kernel
theorem d_Tr_cellsWithoutWay_43 : decode prog_12_method_13_code 43 = .ok (.goto (-39), 3) := zo_167 (d := 255) (e := 217) (zd_b zq_prog_12_method_13_code_1 11 rfl rfl rfl) (zd_b zq_prog_12_method_13_code_1 12 rfl rfl rfl) (zd_b zq_prog_12_method_13_code_1 13 rfl rfl rfl) (by decide +kernel)
theorem d_Tr_cellsWithoutWay_21 : decode prog_12_method_13_code 21 = .ok (.aload_n 0, 1) := zo_42 (zd_b zq_prog_12_method_13_code_0 21 rfl rfl rfl)
theorem d_Tr_cellsWithoutWay_22 : decode prog_12_method_13_code 22 = .ok (.iload_n 2, 1) := zo_28 (zd_b zq_prog_12_method_13_code_0 22 rfl rfl rfl)
theorem d_Tr_cellsWithoutWay_23 : decode prog_12_method_13_code 23 = .ok (.invokevirtual 91, 3) := zo_182 (d := 0) (e := 91) (zd_b zq_prog_12_method_13_code_0 23 rfl rfl rfl) (zd_b zq_prog_12_method_13_code_0 24 rfl rfl rfl) (zd_b zq_prog_12_method_13_code_0 25 rfl rfl rfl)
theorem ok_Tr_cellsWithoutWay_Tr_isFilled : z_ok M_Tr_cellsWithoutWay M_Tr_isFilled 1 := ⟨z_mj3 (i := 25) rfl (by decide +kernel), rfl, ⟨by decide +kernel, by decide +kernel, by decide +kernel⟩, ⟨by decide, by decide⟩, z_mj1 (i := 3) rfl (by decide +kernel), rfl⟩
theorem d_Tr_cellsWithoutWay_26 : decode prog_12_method_13_code 26 = .ok (.ifCond .eq 14, 3) := zo_153 (d := 0) (e := 14) (zd_b zq_prog_12_method_13_code_0 26 rfl rfl rfl) (zd_b zq_prog_12_method_13_code_0 27 rfl rfl rfl) (zd_b zq_prog_12_method_13_code_0 28 rfl rfl rfl) (by decide +kernel)
theorem d_Tr_cellsWithoutWay_29 : decode prog_12_method_13_code 29 = .ok (.aload_n 0, 1) := zo_42 (zd_b zq_prog_12_method_13_code_0 29 rfl rfl rfl)
theorem d_Tr_cellsWithoutWay_30 : decode prog_12_method_13_code 30 = .ok (.iload_n 2, 1) := zo_28 (zd_b zq_prog_12_method_13_code_0 30 rfl rfl rfl)
theorem d_Tr_cellsWithoutWay_31 : decode prog_12_method_13_code 31 = .ok (.invokevirtual 101, 3) := zo_182 (d := 0) (e := 101) (zd_b zq_prog_12_method_13_code_0 31 rfl rfl rfl) (zd_b zq_prog_12_method_13_code_1 0 rfl rfl rfl) (zd_b zq_prog_12_method_13_code_1 1 rfl rfl rfl)
theorem ok_Tr_cellsWithoutWay_Tr_hasWayToFeeder : z_ok M_Tr_cellsWithoutWay M_Tr_hasWayToFeeder 1 := ⟨z_mj3 (i := 41) rfl (by decide +kernel), rfl, ⟨by decide +kernel, by decide +kernel, by decide +kernel⟩, ⟨by decide, by decide⟩, z_mj1 (i := 3) rfl (by decide +kernel), rfl⟩
theorem ln_Tr_101 : Cond.methodLink "Ironpour$Trial" 101 M_Tr_hasWayToFeeder.1 ∈ z_gw := z_mj3 (i := 38) rfl (by decide +kernel)
theorem w_im_Tr_hasWayToFeeder : Cond.instanceMethod M_Tr_hasWayToFeeder.1 ∈ z_gw := z_mj3 (i := 40) rfl (by decide +kernel)
theorem w_se_Tr_hasWayToFeeder : Cond.selects M_Tr_hasWayToFeeder.1.cls M_Tr_hasWayToFeeder.1 M_Tr_hasWayToFeeder.1 ∈ z_gw := z_mem (i := 15) (by decide +kernel) (by decide +kernel)
theorem d_Tr_cellsWithoutWay_34 : decode prog_12_method_13_code 34 = .ok (.ifCond .ne 6, 3) := zo_154 (d := 0) (e := 6) (zd_b zq_prog_12_method_13_code_1 2 rfl rfl rfl) (zd_b zq_prog_12_method_13_code_1 3 rfl rfl rfl) (zd_b zq_prog_12_method_13_code_1 4 rfl rfl rfl) (by decide +kernel)
theorem d_Tr_cellsWithoutWay_37 : decode prog_12_method_13_code 37 = .ok (.iinc 1 1, 3) := by decide +kernel
theorem d_Tr_cellsWithoutWay_0 : decode prog_12_method_13_code 0 = .ok (.iconst 0, 1) := zo_3 (zd_b zq_prog_12_method_13_code_0 0 rfl rfl rfl)
theorem d_Tr_cellsWithoutWay_1 : decode prog_12_method_13_code 1 = .ok (.istore_n 1, 1) := zo_60 (zd_b zq_prog_12_method_13_code_0 1 rfl rfl rfl)
theorem d_Tr_cellsWithoutWay_2 : decode prog_12_method_13_code 2 = .ok (.iconst 0, 1) := zo_3 (zd_b zq_prog_12_method_13_code_0 2 rfl rfl rfl)
theorem d_Tr_cellsWithoutWay_3 : decode prog_12_method_13_code 3 = .ok (.istore_n 2, 1) := zo_61 (zd_b zq_prog_12_method_13_code_0 3 rfl rfl rfl)
set_option maxHeartbeats 4000000 in
set_option maxRecDepth 100000 in
theorem L_Tr_cellsWithoutWay_4 (g : zG) (a a1 a2 az az1 az2 az3 az4 az5 az6 a4 a5 a6 : Nat) (run fo liq : Int32) (ce fi fr fed seen : Nat → Int32) (qn : Nat → Nat) (w0 : zW) (n : Nat) : ∀ (d i : Nat), i ≤ 108 → 108 < i + d → DV g M_Tr_cellsWithoutWay (fun o cs1 => o = .inl (some (.int (nI (cwY ce fi fr (seen, qn, 0) 108).2.2))) ∧ cs1 = [(a, .inr (10, [.ref a1, .ref a2, .ref az, .ref a4, .ref a5, .ref a6, .int run, .int fo])), (a1, .inl (1, 108, .inl ce)), (a2, .inl (0, 108, .inl fi)), (az, .inr (2, [.ref az1, .ref az2, .ref az3, .ref az4, .ref az5, .ref az6, .int liq])), (az4, .inl (0, 108, .inl fr)), (a4, .inl (2, 108, .inl fed)), (a5, .inl (2, 108, .inl ((cwY ce fi fr (seen, qn, 0) 108).1))), (a6, .inl (0, 108, .inl (fun k => nI ((cwY ce fi fr (seen, qn, 0) 108).2.1 k))))]) w0 n 4 [(2, .int (nI i)), (1, .int (nI (cwY ce fi fr (seen, qn, 0) i).2.2)), (0, .ref a)] [] [(a, .inr (10, [.ref a1, .ref a2, .ref az, .ref a4, .ref a5, .ref a6, .int run, .int fo])), (a1, .inl (1, 108, .inl ce)), (a2, .inl (0, 108, .inl fi)), (az, .inr (2, [.ref az1, .ref az2, .ref az3, .ref az4, .ref az5, .ref az6, .int liq])), (az4, .inl (0, 108, .inl fr)), (a4, .inl (2, 108, .inl fed)), (a5, .inl (2, 108, .inl ((cwY ce fi fr (seen, qn, 0) i).1))), (a6, .inl (0, 108, .inl (fun k => nI ((cwY ce fi fr (seen, qn, 0) i).2.1 k))))] 0 0 := by
  intro d
  induction d with
  | zero => intro i h1 h2 ; exact absurd h2 (by omega)
  | succ d ih =>
    intro i h1 h2 
    refine r_iload_n d_Tr_cellsWithoutWay_4 rfl 0 rfl ?_
    refine r_bipush d_Tr_cellsWithoutWay_5 (v := 108) (by decide) ?_
    refine r_icmp_ge (tgt := 46) d_Tr_cellsWithoutWay_7 (by decide) (fun c_7 => ?_) (fun c_7 => ?_)
    · have hn := z_le (a := 108) (by omega) (by decide) c_7
      obtain rfl : i = 108 := by omega
      refine r_iload_n d_Tr_cellsWithoutWay_46 rfl 1 rfl ?_
      refine r_iret d_Tr_cellsWithoutWay_47 rfl rfl ?_
      exact ⟨rfl, rfl⟩
    · have hn := z_nle (a := 108) (by omega) (by decide) c_7
      refine r_aload_n d_Tr_cellsWithoutWay_10 rfl 2 rfl ?_
      refine r_get fs_Tr_9 d_Tr_cellsWithoutWay_11 (q0 := 0) rfl rfl ?_
      refine r_iload_n d_Tr_cellsWithoutWay_14 rfl 0 rfl ?_
      refine r_cald d_Tr_cellsWithoutWay_15 (q0 := 1) rfl (vp_in_nI (by omega) (by omega)) (v := ce i) (by rw [nI_clamp (by omega)]) ?_
      refine r_bipush d_Tr_cellsWithoutWay_16 (v := 99) (by decide) ?_
      refine r_icmp_ne (tgt := 40) d_Tr_cellsWithoutWay_18 (by decide) (fun c_18 => ?_) (fun c_18 => ?_)
      · have hk := cwY_f (ce := ce) (fi := fi) (fr := fr) (S0 := (seen, qn, 0)) (i := i) (fun q => c_18 q.1)
        refine r_iinc (lv' := [(2, .int (nI (i + 1))), (1, .int (nI (cwY ce fi fr (seen, qn, 0) i).2.2)), (0, .ref a)]) (v := nI (i + 1)) d_Tr_cellsWithoutWay_40 (j := 0) rfl (nI_add _ _) (by decide) rfl ?_
        refine r_goto (tgt := 4) d_Tr_cellsWithoutWay_43 (by decide) ?_
        refine r_lvE (lv2 := [(2, .int (nI (i + 1))), (1, .int (nI (cwY ce fi fr (seen, qn, 0) (i + 1)).2.2)), (0, .ref a)]) (by rw [hk] <;> rfl) ?_
        refine r_cs (cs2 := [(a, .inr (10, [.ref a1, .ref a2, .ref az, .ref a4, .ref a5, .ref a6, .int run, .int fo])), (a1, .inl (1, 108, .inl ce)), (a2, .inl (0, 108, .inl fi)), (az, .inr (2, [.ref az1, .ref az2, .ref az3, .ref az4, .ref az5, .ref az6, .int liq])), (az4, .inl (0, 108, .inl fr)), (a4, .inl (2, 108, .inl fed)), (a5, .inl (2, 108, .inl ((cwY ce fi fr (seen, qn, 0) (i + 1)).1))), (a6, .inl (0, 108, .inl (fun k => nI ((cwY ce fi fr (seen, qn, 0) (i + 1)).2.1 k))))]) (by rw [hk] <;> rfl) ?_
        exact ih (i + 1) (by omega) (by omega)
      · refine r_aload_n d_Tr_cellsWithoutWay_21 rfl 2 rfl ?_
        refine r_iload_n d_Tr_cellsWithoutWay_22 rfl 0 rfl ?_
        refine r_callV (As := [.int (nI i)]) (rest := []) (csC := [(a, .inr (10, [.ref a1, .ref a2, .ref az, .ref a4, .ref a5, .ref a6, .int run, .int fo])), (a1, .inl (1, 108, .inl ce)), (a2, .inl (0, 108, .inl fi))]) (is := [0, 1, 2]) (q0 := 0) rfl rfl ln_Tr_91 w_im_Tr_isFilled w_se_Tr_isFilled ok_Tr_cellsWithoutWay_Tr_isFilled d_Tr_cellsWithoutWay_23 (C_Tr_isFilled g a a1 a2 az a4 a5 a6 run fo ce fi i (by omega)) rfl rfl (Nat.le_of_ble_eq_true rfl) rfl (by decide) (by omega) (by omega) (fun E cs1 hx => ?_) (fun v cs1 hx => ?_)
        · exact absurd hx.1 (by simp)
        · obtain ⟨e1, rfl⟩ := hx
          cases e1
          refine ⟨rfl, ?_⟩
          refine r_st (st2 := [.int (z_bi (decide (¬ fi i < 0)))]) rfl ?_
          refine r_cs (cs2 := [(a, .inr (10, [.ref a1, .ref a2, .ref az, .ref a4, .ref a5, .ref a6, .int run, .int fo])), (a1, .inl (1, 108, .inl ce)), (a2, .inl (0, 108, .inl fi)), (az, .inr (2, [.ref az1, .ref az2, .ref az3, .ref az4, .ref az5, .ref az6, .int liq])), (az4, .inl (0, 108, .inl fr)), (a4, .inl (2, 108, .inl fed)), (a5, .inl (2, 108, .inl ((cwY ce fi fr (seen, qn, 0) i).1))), (a6, .inl (0, 108, .inl (fun k => nI ((cwY ce fi fr (seen, qn, 0) i).2.1 k))))]) rfl ?_
          refine r_if_eq (tgt := 40) d_Tr_cellsWithoutWay_26 (by decide) (fun c_26 => ?_) (fun c_26 => ?_)
          · have hk := cwY_f (ce := ce) (fi := fi) (fr := fr) (S0 := (seen, qn, 0)) (i := i) (fun q => by have := z_bi0 c_26; rw [decide_eq_true q.2] at this; cases this)
            refine r_iinc (lv' := [(2, .int (nI (i + 1))), (1, .int (nI (cwY ce fi fr (seen, qn, 0) i).2.2)), (0, .ref a)]) (v := nI (i + 1)) d_Tr_cellsWithoutWay_40 (j := 0) rfl (nI_add _ _) (by decide) rfl ?_
            refine r_goto (tgt := 4) d_Tr_cellsWithoutWay_43 (by decide) ?_
            refine r_lvE (lv2 := [(2, .int (nI (i + 1))), (1, .int (nI (cwY ce fi fr (seen, qn, 0) (i + 1)).2.2)), (0, .ref a)]) (by rw [hk] <;> rfl) ?_
            refine r_cs (cs2 := [(a, .inr (10, [.ref a1, .ref a2, .ref az, .ref a4, .ref a5, .ref a6, .int run, .int fo])), (a1, .inl (1, 108, .inl ce)), (a2, .inl (0, 108, .inl fi)), (az, .inr (2, [.ref az1, .ref az2, .ref az3, .ref az4, .ref az5, .ref az6, .int liq])), (az4, .inl (0, 108, .inl fr)), (a4, .inl (2, 108, .inl fed)), (a5, .inl (2, 108, .inl ((cwY ce fi fr (seen, qn, 0) (i + 1)).1))), (a6, .inl (0, 108, .inl (fun k => nI ((cwY ce fi fr (seen, qn, 0) (i + 1)).2.1 k))))]) (by rw [hk] <;> rfl) ?_
            exact ih (i + 1) (by omega) (by omega)
          · refine r_aload_n d_Tr_cellsWithoutWay_29 rfl 2 rfl ?_
            refine r_iload_n d_Tr_cellsWithoutWay_30 rfl 0 rfl ?_
            refine r_callV (As := [.int (nI i)]) (rest := []) (csC := [(a, .inr (10, [.ref a1, .ref a2, .ref az, .ref a4, .ref a5, .ref a6, .int run, .int fo])), (a1, .inl (1, 108, .inl ce)), (a2, .inl (0, 108, .inl fi)), (az, .inr (2, [.ref az1, .ref az2, .ref az3, .ref az4, .ref az5, .ref az6, .int liq])), (az4, .inl (0, 108, .inl fr)), (a4, .inl (2, 108, .inl fed)), (a5, .inl (2, 108, .inl ((cwY ce fi fr (seen, qn, 0) i).1))), (a6, .inl (0, 108, .inl (fun k => nI ((cwY ce fi fr (seen, qn, 0) i).2.1 k))))]) (is := [0, 1, 2, 3, 4, 5, 6, 7]) (q0 := 0) rfl rfl ln_Tr_101 w_im_Tr_hasWayToFeeder w_se_Tr_hasWayToFeeder ok_Tr_cellsWithoutWay_Tr_hasWayToFeeder d_Tr_cellsWithoutWay_31 (C_Tr_hasWay g a a1 a2 az az1 az2 az3 az4 az5 az6 a4 a5 a6 run fo liq ce fi fr fed (cwY ce fi fr (seen, qn, 0) i).1 (cwY ce fi fr (seen, qn, 0) i).2.1 i (by omega)) rfl rfl (Nat.le_of_ble_eq_true rfl) rfl (by decide) (by omega) (by omega) (fun E cs1 hx => ?_) (fun v cs1 hx => ?_)
            · exact absurd hx.1 (by simp)
            · obtain ⟨e1, rfl⟩ := hx
              cases e1
              refine ⟨rfl, ?_⟩
              refine r_st (st2 := [.int (z_bi (hwB ce fi fr (cwY ce fi fr (seen, qn, 0) i).1 (cwY ce fi fr (seen, qn, 0) i).2.1 i).1)]) rfl ?_
              refine r_cs (cs2 := [(a, .inr (10, [.ref a1, .ref a2, .ref az, .ref a4, .ref a5, .ref a6, .int run, .int fo])), (a1, .inl (1, 108, .inl ce)), (a2, .inl (0, 108, .inl fi)), (az, .inr (2, [.ref az1, .ref az2, .ref az3, .ref az4, .ref az5, .ref az6, .int liq])), (az4, .inl (0, 108, .inl fr)), (a4, .inl (2, 108, .inl fed)), (a5, .inl (2, 108, .inl ((hwB ce fi fr (cwY ce fi fr (seen, qn, 0) i).1 (cwY ce fi fr (seen, qn, 0) i).2.1 i).2.2.1))), (a6, .inl (0, 108, .inl (fun k => nI ((hwB ce fi fr (cwY ce fi fr (seen, qn, 0) i).1 (cwY ce fi fr (seen, qn, 0) i).2.1 i).2.2.2 k))))]) rfl ?_
              refine r_if_ne (tgt := 40) d_Tr_cellsWithoutWay_34 (by decide) (fun c_34 => ?_) (fun c_34 => ?_)
              · have hk := cwY_t (ce := ce) (fi := fi) (fr := fr) (S0 := (seen, qn, 0)) (i := i) ⟨c_18, of_decide_eq_true (z_bi1 c_26)⟩ (z_bi1 c_34)
                refine r_iinc (lv' := [(2, .int (nI (i + 1))), (1, .int (nI (cwY ce fi fr (seen, qn, 0) i).2.2)), (0, .ref a)]) (v := nI (i + 1)) d_Tr_cellsWithoutWay_40 (j := 0) rfl (nI_add _ _) (by decide) rfl ?_
                refine r_goto (tgt := 4) d_Tr_cellsWithoutWay_43 (by decide) ?_
                refine r_lvE (lv2 := [(2, .int (nI (i + 1))), (1, .int (nI (cwY ce fi fr (seen, qn, 0) (i + 1)).2.2)), (0, .ref a)]) (by rw [hk] <;> rfl) ?_
                refine r_cs (cs2 := [(a, .inr (10, [.ref a1, .ref a2, .ref az, .ref a4, .ref a5, .ref a6, .int run, .int fo])), (a1, .inl (1, 108, .inl ce)), (a2, .inl (0, 108, .inl fi)), (az, .inr (2, [.ref az1, .ref az2, .ref az3, .ref az4, .ref az5, .ref az6, .int liq])), (az4, .inl (0, 108, .inl fr)), (a4, .inl (2, 108, .inl fed)), (a5, .inl (2, 108, .inl ((cwY ce fi fr (seen, qn, 0) (i + 1)).1))), (a6, .inl (0, 108, .inl (fun k => nI ((cwY ce fi fr (seen, qn, 0) (i + 1)).2.1 k))))]) (by rw [hk] <;> rfl) ?_
                exact ih (i + 1) (by omega) (by omega)
              · have hk := cwY_n (ce := ce) (fi := fi) (fr := fr) (S0 := (seen, qn, 0)) (i := i) ⟨c_18, of_decide_eq_true (z_bi1 c_26)⟩ (fun q => by have := z_bi0 c_34; rw [q] at this; cases this)
                refine r_iinc (lv' := [(1, .int (nI ((cwY ce fi fr (seen, qn, 0) i).2.2 + 1))), (2, .int (nI i)), (0, .ref a)]) (v := nI ((cwY ce fi fr (seen, qn, 0) i).2.2 + 1)) d_Tr_cellsWithoutWay_37 (j := 1) rfl (nI_add _ _) (by decide) rfl ?_
                refine r_iinc (lv' := [(2, .int (nI (i + 1))), (1, .int (nI ((cwY ce fi fr (seen, qn, 0) i).2.2 + 1))), (0, .ref a)]) (v := nI (i + 1)) d_Tr_cellsWithoutWay_40 (j := 1) rfl (nI_add _ _) (by decide) rfl ?_
                refine r_goto (tgt := 4) d_Tr_cellsWithoutWay_43 (by decide) ?_
                refine r_lvE (lv2 := [(2, .int (nI (i + 1))), (1, .int (nI (cwY ce fi fr (seen, qn, 0) (i + 1)).2.2)), (0, .ref a)]) (by rw [hk] <;> rfl) ?_
                refine r_cs (cs2 := [(a, .inr (10, [.ref a1, .ref a2, .ref az, .ref a4, .ref a5, .ref a6, .int run, .int fo])), (a1, .inl (1, 108, .inl ce)), (a2, .inl (0, 108, .inl fi)), (az, .inr (2, [.ref az1, .ref az2, .ref az3, .ref az4, .ref az5, .ref az6, .int liq])), (az4, .inl (0, 108, .inl fr)), (a4, .inl (2, 108, .inl fed)), (a5, .inl (2, 108, .inl ((cwY ce fi fr (seen, qn, 0) (i + 1)).1))), (a6, .inl (0, 108, .inl (fun k => nI ((cwY ce fi fr (seen, qn, 0) (i + 1)).2.1 k))))]) (by rw [hk] <;> rfl) ?_
                exact ih (i + 1) (by omega) (by omega)
set_option maxHeartbeats 4000000 in
set_option maxRecDepth 100000 in
theorem C_Tr_cellsWithoutWay (g : zG) (a a1 a2 az az1 az2 az3 az4 az5 az6 a4 a5 a6 : Nat) (run fo liq : Int32) (ce fi fr fed seen : Nat → Int32) (qn : Nat → Nat) : CT g M_Tr_cellsWithoutWay [.ref a] [(a, .inr (10, [.ref a1, .ref a2, .ref az, .ref a4, .ref a5, .ref a6, .int run, .int fo])), (a1, .inl (1, 108, .inl ce)), (a2, .inl (0, 108, .inl fi)), (az, .inr (2, [.ref az1, .ref az2, .ref az3, .ref az4, .ref az5, .ref az6, .int liq])), (az4, .inl (0, 108, .inl fr)), (a4, .inl (2, 108, .inl fed)), (a5, .inl (2, 108, .inl seen)), (a6, .inl (0, 108, .inl (fun k => nI (qn k))))] (fun o cs1 => o = .inl (some (.int (nI (cwY ce fi fr (seen, qn, 0) 108).2.2))) ∧ cs1 = [(a, .inr (10, [.ref a1, .ref a2, .ref az, .ref a4, .ref a5, .ref a6, .int run, .int fo])), (a1, .inl (1, 108, .inl ce)), (a2, .inl (0, 108, .inl fi)), (az, .inr (2, [.ref az1, .ref az2, .ref az3, .ref az4, .ref az5, .ref az6, .int liq])), (az4, .inl (0, 108, .inl fr)), (a4, .inl (2, 108, .inl fed)), (a5, .inl (2, 108, .inl ((cwY ce fi fr (seen, qn, 0) 108).1))), (a6, .inl (0, 108, .inl (fun k => nI ((cwY ce fi fr (seen, qn, 0) 108).2.1 k))))]) 0 0 := by
  refine z_of (by decide) rfl (Nat.le_of_ble_eq_true rfl) (fun w0 => ?_)
  refine r_lvE (lv2 := [(0, .ref a)]) rfl ?_
  refine r_iconst d_Tr_cellsWithoutWay_0 (v := 0) (by decide) ?_
  refine r_istore_n (lv' := [(1, .int 0), (0, .ref a)]) d_Tr_cellsWithoutWay_1 rfl (by decide) rfl ?_
  refine r_iconst d_Tr_cellsWithoutWay_2 (v := 0) (by decide) ?_
  refine r_istore_n (lv' := [(2, .int 0), (1, .int 0), (0, .ref a)]) d_Tr_cellsWithoutWay_3 rfl (by decide) rfl ?_
  refine r_lvE (lv2 := [(2, .int (nI 0)), (1, .int (nI (cwY ce fi fr (seen, qn, 0) 0).2.2)), (0, .ref a)]) (rfl) ?_
  refine r_cs (cs2 := [(a, .inr (10, [.ref a1, .ref a2, .ref az, .ref a4, .ref a5, .ref a6, .int run, .int fo])), (a1, .inl (1, 108, .inl ce)), (a2, .inl (0, 108, .inl fi)), (az, .inr (2, [.ref az1, .ref az2, .ref az3, .ref az4, .ref az5, .ref az6, .int liq])), (az4, .inl (0, 108, .inl fr)), (a4, .inl (2, 108, .inl fed)), (a5, .inl (2, 108, .inl ((cwY ce fi fr (seen, qn, 0) 0).1))), (a6, .inl (0, 108, .inl (fun k => nI ((cwY ce fi fr (seen, qn, 0) 0).2.1 k))))]) (rfl) ?_
  exact L_Tr_cellsWithoutWay_4 g a a1 a2 az az1 az2 az3 az4 az5 az6 a4 a5 a6 run fo liq ce fi fr fed seen qn w0 _  (108 + 1) 0 (Nat.zero_le _) (by omega)
abbrev M_Tr_areFedOnesReached : zM := (⟨"Ironpour$Trial", "areFedOnesReached", "()Z"⟩, prog_12_method_19_code, 2, (Option.some FieldType.boolean), 4, 89, [])
theorem d_Tr_areFedOnesReached_2 : decode prog_12_method_19_code 2 = .ok (.iload_n 1, 1) := zo_27 (zd_b zq_prog_12_method_19_code_0 2 rfl rfl rfl)
theorem d_Tr_areFedOnesReached_3 : decode prog_12_method_19_code 3 = .ok (.bipush 108, 2) := zo_16 (d := 108) (zd_b zq_prog_12_method_19_code_0 3 rfl rfl rfl) (zd_b zq_prog_12_method_19_code_0 4 rfl rfl rfl) (by decide +kernel)
theorem d_Tr_areFedOnesReached_5 : decode prog_12_method_19_code 5 = .ok (.if_icmp .ge 28, 3) := zo_162 (d := 0) (e := 28) (zd_b zq_prog_12_method_19_code_0 5 rfl rfl rfl) (zd_b zq_prog_12_method_19_code_0 6 rfl rfl rfl) (zd_b zq_prog_12_method_19_code_0 7 rfl rfl rfl) (by decide +kernel)
theorem d_Tr_areFedOnesReached_33 : decode prog_12_method_19_code 33 = .ok (.iconst 1, 1) := zo_4 (zd_b zq_prog_12_method_19_code_1 1 rfl rfl rfl)
theorem d_Tr_areFedOnesReached_34 : decode prog_12_method_19_code 34 = .ok (.ireturn, 1) := zo_172 (zd_b zq_prog_12_method_19_code_1 2 rfl rfl rfl)
theorem d_Tr_areFedOnesReached_8 : decode prog_12_method_19_code 8 = .ok (.aload_n 0, 1) := zo_42 (zd_b zq_prog_12_method_19_code_0 8 rfl rfl rfl)
theorem d_Tr_areFedOnesReached_9 : decode prog_12_method_19_code 9 = .ok (.getfield 26, 3) := zo_180 (d := 0) (e := 26) (zd_b zq_prog_12_method_19_code_0 9 rfl rfl rfl) (zd_b zq_prog_12_method_19_code_0 10 rfl rfl rfl) (zd_b zq_prog_12_method_19_code_0 11 rfl rfl rfl)
theorem d_Tr_areFedOnesReached_12 : decode prog_12_method_19_code 12 = .ok (.iload_n 1, 1) := zo_27 (zd_b zq_prog_12_method_19_code_0 12 rfl rfl rfl)
theorem d_Tr_areFedOnesReached_13 : decode prog_12_method_19_code 13 = .ok (.baload, 1) := zo_51 (zd_b zq_prog_12_method_19_code_0 13 rfl rfl rfl)
theorem d_Tr_areFedOnesReached_14 : decode prog_12_method_19_code 14 = .ok (.ifCond .eq 13, 3) := zo_153 (d := 0) (e := 13) (zd_b zq_prog_12_method_19_code_0 14 rfl rfl rfl) (zd_b zq_prog_12_method_19_code_0 15 rfl rfl rfl) (zd_b zq_prog_12_method_19_code_0 16 rfl rfl rfl) (by decide +kernel)
theorem d_Tr_areFedOnesReached_27 : decode prog_12_method_19_code 27 = .ok (.iinc 1 1, 3) := by decide +kernel
theorem d_Tr_areFedOnesReached_30 : decode prog_12_method_19_code 30 = .ok (.goto (-28), 3) := zo_167 (d := 255) (e := 228) (zd_b zq_prog_12_method_19_code_0 30 rfl rfl rfl) (zd_b zq_prog_12_method_19_code_0 31 rfl rfl rfl) (zd_b zq_prog_12_method_19_code_1 0 rfl rfl rfl) (by decide +kernel)
theorem d_Tr_areFedOnesReached_17 : decode prog_12_method_19_code 17 = .ok (.aload_n 0, 1) := zo_42 (zd_b zq_prog_12_method_19_code_0 17 rfl rfl rfl)
theorem d_Tr_areFedOnesReached_18 : decode prog_12_method_19_code 18 = .ok (.iload_n 1, 1) := zo_27 (zd_b zq_prog_12_method_19_code_0 18 rfl rfl rfl)
theorem d_Tr_areFedOnesReached_19 : decode prog_12_method_19_code 19 = .ok (.invokevirtual 101, 3) := zo_182 (d := 0) (e := 101) (zd_b zq_prog_12_method_19_code_0 19 rfl rfl rfl) (zd_b zq_prog_12_method_19_code_0 20 rfl rfl rfl) (zd_b zq_prog_12_method_19_code_0 21 rfl rfl rfl)
theorem ok_Tr_areFedOnesReached_Tr_hasWayToFeeder : z_ok M_Tr_areFedOnesReached M_Tr_hasWayToFeeder 1 := ⟨z_mj3 (i := 41) rfl (by decide +kernel), rfl, ⟨by decide +kernel, by decide +kernel, by decide +kernel⟩, ⟨by decide, by decide⟩, z_mj1 (i := 3) rfl (by decide +kernel), rfl⟩
theorem d_Tr_areFedOnesReached_22 : decode prog_12_method_19_code 22 = .ok (.ifCond .ne 5, 3) := zo_154 (d := 0) (e := 5) (zd_b zq_prog_12_method_19_code_0 22 rfl rfl rfl) (zd_b zq_prog_12_method_19_code_0 23 rfl rfl rfl) (zd_b zq_prog_12_method_19_code_0 24 rfl rfl rfl) (by decide +kernel)
theorem d_Tr_areFedOnesReached_25 : decode prog_12_method_19_code 25 = .ok (.iconst 0, 1) := zo_3 (zd_b zq_prog_12_method_19_code_0 25 rfl rfl rfl)
theorem d_Tr_areFedOnesReached_26 : decode prog_12_method_19_code 26 = .ok (.ireturn, 1) := zo_172 (zd_b zq_prog_12_method_19_code_0 26 rfl rfl rfl)
theorem d_Tr_areFedOnesReached_0 : decode prog_12_method_19_code 0 = .ok (.iconst 0, 1) := zo_3 (zd_b zq_prog_12_method_19_code_0 0 rfl rfl rfl)
theorem d_Tr_areFedOnesReached_1 : decode prog_12_method_19_code 1 = .ok (.istore_n 1, 1) := zo_60 (zd_b zq_prog_12_method_19_code_0 1 rfl rfl rfl)
set_option maxHeartbeats 4000000 in
set_option maxRecDepth 100000 in
theorem L_Tr_areFedOnesReached_2 (g : zG) (a a1 a2 az az1 az2 az3 az4 az5 az6 a4 a5 a6 : Nat) (run fo liq : Int32) (ce fi fr fed seen : Nat → Int32) (qn : Nat → Nat) (w0 : zW) (n : Nat) : ∀ (d i : Nat), i ≤ 108 → 108 < i + d → (afS ce fi fr fed (seen, qn) i).1 = false → DV g M_Tr_areFedOnesReached (fun o cs1 => o = .inl (some (.int (z_bi (!(afS ce fi fr fed (seen, qn) 108).1)))) ∧ cs1 = [(a, .inr (10, [.ref a1, .ref a2, .ref az, .ref a4, .ref a5, .ref a6, .int run, .int fo])), (a1, .inl (1, 108, .inl ce)), (a2, .inl (0, 108, .inl fi)), (az, .inr (2, [.ref az1, .ref az2, .ref az3, .ref az4, .ref az5, .ref az6, .int liq])), (az4, .inl (0, 108, .inl fr)), (a4, .inl (2, 108, .inl fed)), (a5, .inl (2, 108, .inl ((afS ce fi fr fed (seen, qn) 108).2.1))), (a6, .inl (0, 108, .inl (fun k => nI ((afS ce fi fr fed (seen, qn) 108).2.2 k))))]) w0 n 2 [(1, .int (nI i)), (0, .ref a)] [] [(a, .inr (10, [.ref a1, .ref a2, .ref az, .ref a4, .ref a5, .ref a6, .int run, .int fo])), (a1, .inl (1, 108, .inl ce)), (a2, .inl (0, 108, .inl fi)), (az, .inr (2, [.ref az1, .ref az2, .ref az3, .ref az4, .ref az5, .ref az6, .int liq])), (az4, .inl (0, 108, .inl fr)), (a4, .inl (2, 108, .inl fed)), (a5, .inl (2, 108, .inl ((afS ce fi fr fed (seen, qn) i).2.1))), (a6, .inl (0, 108, .inl (fun k => nI ((afS ce fi fr fed (seen, qn) i).2.2 k))))] 0 0 := by
  intro d
  induction d with
  | zero => intro i h1 h2 h3; exact absurd h2 (by omega)
  | succ d ih =>
    intro i h1 h2 h3
    refine r_iload_n d_Tr_areFedOnesReached_2 rfl 0 rfl ?_
    refine r_bipush d_Tr_areFedOnesReached_3 (v := 108) (by decide) ?_
    refine r_icmp_ge (tgt := 33) d_Tr_areFedOnesReached_5 (by decide) (fun c_5 => ?_) (fun c_5 => ?_)
    · have hn := z_le (a := 108) (by omega) (by decide) c_5
      obtain rfl : i = 108 := by omega
      refine r_iconst d_Tr_areFedOnesReached_33 (v := 1) (by decide) ?_
      refine r_iret d_Tr_areFedOnesReached_34 rfl rfl ?_
      exact ⟨by rw [h3]; rfl, rfl⟩
    · have hn := z_nle (a := 108) (by omega) (by decide) c_5
      refine r_aload_n d_Tr_areFedOnesReached_8 rfl 1 rfl ?_
      refine r_get fs_Tr_26 d_Tr_areFedOnesReached_9 (q0 := 0) rfl rfl ?_
      refine r_iload_n d_Tr_areFedOnesReached_12 rfl 0 rfl ?_
      refine r_zald d_Tr_areFedOnesReached_13 (q0 := 5) rfl (vp_in_nI (by omega) (by omega)) (v := fed i) (by rw [nI_clamp (by omega)]) ?_
      refine r_if_eq (tgt := 27) d_Tr_areFedOnesReached_14 (by decide) (fun c_14 => ?_) (fun c_14 => ?_)
      · have hk := afS_s (ce := ce) (fi := fi) (fr := fr) (S0 := (seen, qn)) (Or.inr c_14)
        have hb : (afS ce fi fr fed (seen, qn) (i + 1)).1 = false := by rw [hk, h3]
        refine r_iinc (lv' := [(1, .int (nI (i + 1))), (0, .ref a)]) (v := nI (i + 1)) d_Tr_areFedOnesReached_27 (j := 0) rfl (nI_add _ _) (by decide) rfl ?_
        refine r_goto (tgt := 2) d_Tr_areFedOnesReached_30 (by decide) ?_
        refine r_lvE (lv2 := [(1, .int (nI (i + 1))), (0, .ref a)]) (rfl) ?_
        refine r_cs (cs2 := [(a, .inr (10, [.ref a1, .ref a2, .ref az, .ref a4, .ref a5, .ref a6, .int run, .int fo])), (a1, .inl (1, 108, .inl ce)), (a2, .inl (0, 108, .inl fi)), (az, .inr (2, [.ref az1, .ref az2, .ref az3, .ref az4, .ref az5, .ref az6, .int liq])), (az4, .inl (0, 108, .inl fr)), (a4, .inl (2, 108, .inl fed)), (a5, .inl (2, 108, .inl ((afS ce fi fr fed (seen, qn) (i + 1)).2.1))), (a6, .inl (0, 108, .inl (fun k => nI ((afS ce fi fr fed (seen, qn) (i + 1)).2.2 k))))]) (by rw [hk] <;> rfl) ?_
        exact ih (i + 1) (by omega) (by omega) hb
      · refine r_aload_n d_Tr_areFedOnesReached_17 rfl 1 rfl ?_
        refine r_iload_n d_Tr_areFedOnesReached_18 rfl 0 rfl ?_
        refine r_callV (As := [.int (nI i)]) (rest := []) (csC := [(a, .inr (10, [.ref a1, .ref a2, .ref az, .ref a4, .ref a5, .ref a6, .int run, .int fo])), (a1, .inl (1, 108, .inl ce)), (a2, .inl (0, 108, .inl fi)), (az, .inr (2, [.ref az1, .ref az2, .ref az3, .ref az4, .ref az5, .ref az6, .int liq])), (az4, .inl (0, 108, .inl fr)), (a4, .inl (2, 108, .inl fed)), (a5, .inl (2, 108, .inl ((afS ce fi fr fed (seen, qn) i).2.1))), (a6, .inl (0, 108, .inl (fun k => nI ((afS ce fi fr fed (seen, qn) i).2.2 k))))]) (is := [0, 1, 2, 3, 4, 5, 6, 7]) (q0 := 0) rfl rfl ln_Tr_101 w_im_Tr_hasWayToFeeder w_se_Tr_hasWayToFeeder ok_Tr_areFedOnesReached_Tr_hasWayToFeeder d_Tr_areFedOnesReached_19 (C_Tr_hasWay g a a1 a2 az az1 az2 az3 az4 az5 az6 a4 a5 a6 run fo liq ce fi fr fed (afS ce fi fr fed (seen, qn) i).2.1 (afS ce fi fr fed (seen, qn) i).2.2 i (by omega)) rfl rfl (Nat.le_of_ble_eq_true rfl) rfl (by decide) (by omega) (by omega) (fun E cs1 hx => ?_) (fun v cs1 hx => ?_)
        · exact absurd hx.1 (by simp)
        · obtain ⟨e1, rfl⟩ := hx
          cases e1
          refine ⟨rfl, ?_⟩
          refine r_st (st2 := [.int (z_bi (hwB ce fi fr (afS ce fi fr fed (seen, qn) i).2.1 (afS ce fi fr fed (seen, qn) i).2.2 i).1)]) rfl ?_
          refine r_cs (cs2 := [(a, .inr (10, [.ref a1, .ref a2, .ref az, .ref a4, .ref a5, .ref a6, .int run, .int fo])), (a1, .inl (1, 108, .inl ce)), (a2, .inl (0, 108, .inl fi)), (az, .inr (2, [.ref az1, .ref az2, .ref az3, .ref az4, .ref az5, .ref az6, .int liq])), (az4, .inl (0, 108, .inl fr)), (a4, .inl (2, 108, .inl fed)), (a5, .inl (2, 108, .inl ((hwB ce fi fr (afS ce fi fr fed (seen, qn) i).2.1 (afS ce fi fr fed (seen, qn) i).2.2 i).2.2.1))), (a6, .inl (0, 108, .inl (fun k => nI ((hwB ce fi fr (afS ce fi fr fed (seen, qn) i).2.1 (afS ce fi fr fed (seen, qn) i).2.2 i).2.2.2 k))))]) rfl ?_
          refine r_if_ne (tgt := 27) d_Tr_areFedOnesReached_22 (by decide) (fun c_22 => ?_) (fun c_22 => ?_)
          · have hk := afS_n h3 c_14
            have hb : (afS ce fi fr fed (seen, qn) (i + 1)).1 = false := by rw [hk, z_bi1 c_22]; rfl
            refine r_iinc (lv' := [(1, .int (nI (i + 1))), (0, .ref a)]) (v := nI (i + 1)) d_Tr_areFedOnesReached_27 (j := 0) rfl (nI_add _ _) (by decide) rfl ?_
            refine r_goto (tgt := 2) d_Tr_areFedOnesReached_30 (by decide) ?_
            refine r_lvE (lv2 := [(1, .int (nI (i + 1))), (0, .ref a)]) (rfl) ?_
            refine r_cs (cs2 := [(a, .inr (10, [.ref a1, .ref a2, .ref az, .ref a4, .ref a5, .ref a6, .int run, .int fo])), (a1, .inl (1, 108, .inl ce)), (a2, .inl (0, 108, .inl fi)), (az, .inr (2, [.ref az1, .ref az2, .ref az3, .ref az4, .ref az5, .ref az6, .int liq])), (az4, .inl (0, 108, .inl fr)), (a4, .inl (2, 108, .inl fed)), (a5, .inl (2, 108, .inl ((afS ce fi fr fed (seen, qn) (i + 1)).2.1))), (a6, .inl (0, 108, .inl (fun k => nI ((afS ce fi fr fed (seen, qn) (i + 1)).2.2 k))))]) (by rw [hk] <;> rfl) ?_
            exact ih (i + 1) (by omega) (by omega) hb
          · have hk := afS_n h3 c_14
            have hb : (afS ce fi fr fed (seen, qn) (i + 1)).1 = true := by rw [hk, z_bi0 c_22]; rfl
            have hx : (afS ce fi fr fed (seen, qn) 108) = (afS ce fi fr fed (seen, qn) (i + 1)) := by have := afS_stop hb (108 - (i + 1)); rw [show i + 1 + (108 - (i + 1)) = 108 by omega] at this; exact this
            refine r_iconst d_Tr_areFedOnesReached_25 (v := 0) (by decide) ?_
            refine r_iret d_Tr_areFedOnesReached_26 rfl rfl ?_
            exact ⟨by rw [hx, hb]; rfl, by rw [hx, hk]⟩
set_option maxHeartbeats 4000000 in
set_option maxRecDepth 100000 in
theorem C_Tr_areFedOnesReached (g : zG) (a a1 a2 az az1 az2 az3 az4 az5 az6 a4 a5 a6 : Nat) (run fo liq : Int32) (ce fi fr fed seen : Nat → Int32) (qn : Nat → Nat) : CT g M_Tr_areFedOnesReached [.ref a] [(a, .inr (10, [.ref a1, .ref a2, .ref az, .ref a4, .ref a5, .ref a6, .int run, .int fo])), (a1, .inl (1, 108, .inl ce)), (a2, .inl (0, 108, .inl fi)), (az, .inr (2, [.ref az1, .ref az2, .ref az3, .ref az4, .ref az5, .ref az6, .int liq])), (az4, .inl (0, 108, .inl fr)), (a4, .inl (2, 108, .inl fed)), (a5, .inl (2, 108, .inl seen)), (a6, .inl (0, 108, .inl (fun k => nI (qn k))))] (fun o cs1 => o = .inl (some (.int (z_bi (!(afS ce fi fr fed (seen, qn) 108).1)))) ∧ cs1 = [(a, .inr (10, [.ref a1, .ref a2, .ref az, .ref a4, .ref a5, .ref a6, .int run, .int fo])), (a1, .inl (1, 108, .inl ce)), (a2, .inl (0, 108, .inl fi)), (az, .inr (2, [.ref az1, .ref az2, .ref az3, .ref az4, .ref az5, .ref az6, .int liq])), (az4, .inl (0, 108, .inl fr)), (a4, .inl (2, 108, .inl fed)), (a5, .inl (2, 108, .inl ((afS ce fi fr fed (seen, qn) 108).2.1))), (a6, .inl (0, 108, .inl (fun k => nI ((afS ce fi fr fed (seen, qn) 108).2.2 k))))]) 0 0 := by
  refine z_of (by decide) rfl (Nat.le_of_ble_eq_true rfl) (fun w0 => ?_)
  refine r_lvE (lv2 := [(0, .ref a)]) rfl ?_
  refine r_iconst d_Tr_areFedOnesReached_0 (v := 0) (by decide) ?_
  refine r_istore_n (lv' := [(1, .int 0), (0, .ref a)]) d_Tr_areFedOnesReached_1 rfl (by decide) rfl ?_
  refine r_lvE (lv2 := [(1, .int (nI 0)), (0, .ref a)]) (rfl) ?_
  refine r_cs (cs2 := [(a, .inr (10, [.ref a1, .ref a2, .ref az, .ref a4, .ref a5, .ref a6, .int run, .int fo])), (a1, .inl (1, 108, .inl ce)), (a2, .inl (0, 108, .inl fi)), (az, .inr (2, [.ref az1, .ref az2, .ref az3, .ref az4, .ref az5, .ref az6, .int liq])), (az4, .inl (0, 108, .inl fr)), (a4, .inl (2, 108, .inl fed)), (a5, .inl (2, 108, .inl ((afS ce fi fr fed (seen, qn) 0).2.1))), (a6, .inl (0, 108, .inl (fun k => nI ((afS ce fi fr fed (seen, qn) 0).2.2 k))))]) (rfl) ?_
  exact L_Tr_areFedOnesReached_2 g a a1 a2 az az1 az2 az3 az4 az5 az6 a4 a5 a6 run fo liq ce fi fr fed seen qn w0 _  (108 + 1) 0 (Nat.zero_le _) (by omega) rfl
abbrev M_Pa_runningSpeed : zM := (⟨"Ironpour$Pattern", "runningSpeed", "()I"⟩, prog_10_method_6_code, 4, (Option.some FieldType.int), 2, 42, [])
theorem d_Pa_runningSpeed_15 : decode prog_10_method_6_code 15 = .ok (.iload_n 3, 1) := zo_29 (zd_b zq_prog_10_method_6_code_0 15 rfl rfl rfl)
theorem d_Pa_runningSpeed_16 : decode prog_10_method_6_code 16 = .ok (.bipush 108, 2) := zo_16 (d := 108) (zd_b zq_prog_10_method_6_code_0 16 rfl rfl rfl) (zd_b zq_prog_10_method_6_code_0 17 rfl rfl rfl) (by decide +kernel)
theorem d_Pa_runningSpeed_18 : decode prog_10_method_6_code 18 = .ok (.if_icmp .ge 27, 3) := zo_162 (d := 0) (e := 27) (zd_b zq_prog_10_method_6_code_0 18 rfl rfl rfl) (zd_b zq_prog_10_method_6_code_0 19 rfl rfl rfl) (zd_b zq_prog_10_method_6_code_0 20 rfl rfl rfl) (by decide +kernel)
theorem d_Pa_runningSpeed_45 : decode prog_10_method_6_code 45 = .ok (.bipush 60, 2) := zo_16 (d := 60) (zd_b zq_prog_10_method_6_code_1 13 rfl rfl rfl) (zd_b zq_prog_10_method_6_code_1 14 rfl rfl rfl) (by decide +kernel)
theorem d_Pa_runningSpeed_47 : decode prog_10_method_6_code 47 = .ok (.iload_n 2, 1) := zo_28 (zd_b zq_prog_10_method_6_code_1 15 rfl rfl rfl)
theorem d_Pa_runningSpeed_48 : decode prog_10_method_6_code 48 = .ok (.imul, 1) := zo_104 (zd_b zq_prog_10_method_6_code_1 16 rfl rfl rfl)
theorem d_Pa_runningSpeed_49 : decode prog_10_method_6_code 49 = .ok (.iload_n 1, 1) := zo_27 (zd_b zq_prog_10_method_6_code_1 17 rfl rfl rfl)
theorem d_Pa_runningSpeed_50 : decode prog_10_method_6_code 50 = .ok (.idiv, 1) := zo_108 (zd_b zq_prog_10_method_6_code_1 18 rfl rfl rfl)
theorem d_Pa_runningSpeed_51 : decode prog_10_method_6_code 51 = .ok (.ireturn, 1) := zo_172 (zd_b zq_prog_10_method_6_code_1 19 rfl rfl rfl)
theorem d_Pa_runningSpeed_21 : decode prog_10_method_6_code 21 = .ok (.aload_n 0, 1) := zo_42 (zd_b zq_prog_10_method_6_code_0 21 rfl rfl rfl)
theorem d_Pa_runningSpeed_22 : decode prog_10_method_6_code 22 = .ok (.getfield 9, 3) := zo_180 (d := 0) (e := 9) (zd_b zq_prog_10_method_6_code_0 22 rfl rfl rfl) (zd_b zq_prog_10_method_6_code_0 23 rfl rfl rfl) (zd_b zq_prog_10_method_6_code_0 24 rfl rfl rfl)
theorem d_Pa_runningSpeed_25 : decode prog_10_method_6_code 25 = .ok (.iload_n 3, 1) := zo_29 (zd_b zq_prog_10_method_6_code_0 25 rfl rfl rfl)
theorem d_Pa_runningSpeed_26 : decode prog_10_method_6_code 26 = .ok (.caload, 1) := zo_52 (zd_b zq_prog_10_method_6_code_0 26 rfl rfl rfl)
theorem d_Pa_runningSpeed_27 : decode prog_10_method_6_code 27 = .ok (.bipush 103, 2) := zo_16 (d := 103) (zd_b zq_prog_10_method_6_code_0 27 rfl rfl rfl) (zd_b zq_prog_10_method_6_code_0 28 rfl rfl rfl) (by decide +kernel)
theorem d_Pa_runningSpeed_29 : decode prog_10_method_6_code 29 = .ok (.if_icmp .ne 10, 3) := zo_160 (d := 0) (e := 10) (zd_b zq_prog_10_method_6_code_0 29 rfl rfl rfl) (zd_b zq_prog_10_method_6_code_0 30 rfl rfl rfl) (zd_b zq_prog_10_method_6_code_0 31 rfl rfl rfl) (by decide +kernel)
theorem d_Pa_runningSpeed_39 : decode prog_10_method_6_code 39 = .ok (.iinc 3 1, 3) := by decide +kernel
theorem d_Pa_runningSpeed_42 : decode prog_10_method_6_code 42 = .ok (.goto (-27), 3) := zo_167 (d := 255) (e := 229) (zd_b zq_prog_10_method_6_code_1 10 rfl rfl rfl) (zd_b zq_prog_10_method_6_code_1 11 rfl rfl rfl) (zd_b zq_prog_10_method_6_code_1 12 rfl rfl rfl) (by decide +kernel)
theorem d_Pa_runningSpeed_32 : decode prog_10_method_6_code 32 = .ok (.iload_n 3, 1) := zo_29 (zd_b zq_prog_10_method_6_code_1 0 rfl rfl rfl)
theorem d_Pa_runningSpeed_33 : decode prog_10_method_6_code 33 = .ok (.bipush 12, 2) := zo_16 (d := 12) (zd_b zq_prog_10_method_6_code_1 1 rfl rfl rfl) (zd_b zq_prog_10_method_6_code_1 2 rfl rfl rfl) (by decide +kernel)
theorem d_Pa_runningSpeed_35 : decode prog_10_method_6_code 35 = .ok (.idiv, 1) := zo_108 (zd_b zq_prog_10_method_6_code_1 3 rfl rfl rfl)
theorem d_Pa_runningSpeed_36 : decode prog_10_method_6_code 36 = .ok (.iconst 1, 1) := zo_4 (zd_b zq_prog_10_method_6_code_1 4 rfl rfl rfl)
theorem d_Pa_runningSpeed_37 : decode prog_10_method_6_code 37 = .ok (.iadd, 1) := zo_96 (zd_b zq_prog_10_method_6_code_1 5 rfl rfl rfl)
theorem d_Pa_runningSpeed_38 : decode prog_10_method_6_code 38 = .ok (.istore_n 2, 1) := zo_61 (zd_b zq_prog_10_method_6_code_1 6 rfl rfl rfl)
theorem d_Pa_runningSpeed_0 : decode prog_10_method_6_code 0 = .ok (.aload_n 0, 1) := zo_42 (zd_b zq_prog_10_method_6_code_0 0 rfl rfl rfl)
theorem d_Pa_runningSpeed_1 : decode prog_10_method_6_code 1 = .ok (.invokevirtual 37, 3) := zo_182 (d := 0) (e := 37) (zd_b zq_prog_10_method_6_code_0 1 rfl rfl rfl) (zd_b zq_prog_10_method_6_code_0 2 rfl rfl rfl) (zd_b zq_prog_10_method_6_code_0 3 rfl rfl rfl)
theorem ok_Pa_runningSpeed_Pa_gatesOnTop : z_ok M_Pa_runningSpeed M_Pa_gatesOnTop 0 := ⟨z_mj4 (i := 63) rfl (by decide +kernel), rfl, ⟨by decide +kernel, by decide +kernel, by decide +kernel⟩, ⟨by decide, by decide⟩, z_mj1 (i := 2) rfl (by decide +kernel), rfl⟩
theorem ln_Pa_37 : Cond.methodLink "Ironpour$Pattern" 37 M_Pa_gatesOnTop.1 ∈ z_gw := z_mj4 (i := 84) rfl (by decide +kernel)
theorem w_im_Pa_gatesOnTop : Cond.instanceMethod M_Pa_gatesOnTop.1 ∈ z_gw := z_mj4 (i := 61) rfl (by decide +kernel)
theorem w_se_Pa_gatesOnTop : Cond.selects M_Pa_gatesOnTop.1.cls M_Pa_gatesOnTop.1 M_Pa_gatesOnTop.1 ∈ z_gw := z_mj4 (i := 62) rfl (by decide +kernel)
theorem d_Pa_runningSpeed_4 : decode prog_10_method_6_code 4 = .ok (.istore_n 1, 1) := zo_60 (zd_b zq_prog_10_method_6_code_0 4 rfl rfl rfl)
theorem d_Pa_runningSpeed_5 : decode prog_10_method_6_code 5 = .ok (.iload_n 1, 1) := zo_27 (zd_b zq_prog_10_method_6_code_0 5 rfl rfl rfl)
theorem d_Pa_runningSpeed_6 : decode prog_10_method_6_code 6 = .ok (.ifCond .ne 5, 3) := zo_154 (d := 0) (e := 5) (zd_b zq_prog_10_method_6_code_0 6 rfl rfl rfl) (zd_b zq_prog_10_method_6_code_0 7 rfl rfl rfl) (zd_b zq_prog_10_method_6_code_0 8 rfl rfl rfl) (by decide +kernel)
theorem d_Pa_runningSpeed_11 : decode prog_10_method_6_code 11 = .ok (.iconst 0, 1) := zo_3 (zd_b zq_prog_10_method_6_code_0 11 rfl rfl rfl)
theorem d_Pa_runningSpeed_12 : decode prog_10_method_6_code 12 = .ok (.istore_n 2, 1) := zo_61 (zd_b zq_prog_10_method_6_code_0 12 rfl rfl rfl)
theorem d_Pa_runningSpeed_13 : decode prog_10_method_6_code 13 = .ok (.iconst 0, 1) := zo_3 (zd_b zq_prog_10_method_6_code_0 13 rfl rfl rfl)
theorem d_Pa_runningSpeed_14 : decode prog_10_method_6_code 14 = .ok (.istore_n 3, 1) := zo_62 (zd_b zq_prog_10_method_6_code_0 14 rfl rfl rfl)
theorem d_Pa_runningSpeed_9 : decode prog_10_method_6_code 9 = .ok (.iconst 0, 1) := zo_3 (zd_b zq_prog_10_method_6_code_0 9 rfl rfl rfl)
theorem d_Pa_runningSpeed_10 : decode prog_10_method_6_code 10 = .ok (.ireturn, 1) := zo_172 (zd_b zq_prog_10_method_6_code_0 10 rfl rfl rfl)
set_option maxHeartbeats 4000000 in
set_option maxRecDepth 100000 in
theorem L_Pa_runningSpeed_15 (g : zG) (a a1 a2 a3 : Nat) (f sn qu : Nat → Int32) (part : Int32) (w0 : zW) (n : Nat) (hg : ¬ nI (fa_cnt (fun k => decide (f k = 103)) 12) = 0) (hgz : ¬ fa_cnt (fun k => decide (f k = 103)) 12 = 0) : ∀ (d i : Nat), i ≤ 108 → 108 < i + d → DV g M_Pa_runningSpeed (fun o cs1 => o = .inl (some (.int (rsR f))) ∧ cs1 = [(a, .inr (8, [.ref a1, .ref a2, .ref a3, .int part])), (a1, .inl (1, 108, .inl f)), (a2, .inl (2, 108, .inl sn)), (a3, .inl (0, 108, .inl qu))]) w0 n 15 [(3, .int (nI i)), (2, .int (nI (rsS f i))), (1, .int (nI (fa_cnt (fun k => decide (f k = 103)) 12))), (0, .ref a)] [] [(a, .inr (8, [.ref a1, .ref a2, .ref a3, .int part])), (a1, .inl (1, 108, .inl f)), (a2, .inl (2, 108, .inl sn)), (a3, .inl (0, 108, .inl qu))] 0 0 := by
  intro d
  induction d with
  | zero => intro i h1 h2 ; exact absurd h2 (by omega)
  | succ d ih =>
    intro i h1 h2 
    refine r_iload_n d_Pa_runningSpeed_15 rfl 0 rfl ?_
    refine r_bipush d_Pa_runningSpeed_16 (v := 108) (by decide) ?_
    refine r_icmp_ge (tgt := 45) d_Pa_runningSpeed_18 (by decide) (fun c_18 => ?_) (fun c_18 => ?_)
    · have hn := z_le (a := 108) (by omega) (by decide) c_18
      obtain rfl : i = 108 := by omega
      refine r_bipush d_Pa_runningSpeed_45 (v := 60) (by decide) ?_
      refine r_iload_n d_Pa_runningSpeed_47 rfl 1 rfl ?_
      refine r_imul d_Pa_runningSpeed_48 (v := nI (60 * (rsS f 108))) (pk_mul _ _) ?_
      refine r_iload_n d_Pa_runningSpeed_49 rfl 2 rfl ?_
      refine r_idiv d_Pa_runningSpeed_50 (v := nI (60 * rsS f 108) / nI (fa_cnt (fun k => decide (f k = 103)) 12)) hg rfl ?_
      refine r_iret d_Pa_runningSpeed_51 rfl rfl ?_
      exact ⟨by rw [rsR, if_neg hgz], rfl⟩
    · have hn := z_nle (a := 108) (by omega) (by decide) c_18
      refine r_aload_n d_Pa_runningSpeed_21 rfl 3 rfl ?_
      refine r_get fs_Pa_9 d_Pa_runningSpeed_22 (q0 := 0) rfl rfl ?_
      refine r_iload_n d_Pa_runningSpeed_25 rfl 0 rfl ?_
      refine r_cald d_Pa_runningSpeed_26 (q0 := 1) rfl (vp_in_nI (by omega) (by omega)) (v := f i) (by rw [nI_clamp (by omega)]) ?_
      refine r_bipush d_Pa_runningSpeed_27 (v := 103) (by decide) ?_
      refine r_icmp_ne (tgt := 39) d_Pa_runningSpeed_29 (by decide) (fun c_29 => ?_) (fun c_29 => ?_)
      · refine r_iinc (lv' := [(3, .int (nI (i + 1))), (2, .int (nI (rsS f i))), (1, .int (nI (fa_cnt (fun k => decide (f k = 103)) 12))), (0, .ref a)]) (v := nI (i + 1)) d_Pa_runningSpeed_39 (j := 0) rfl (nI_add _ _) (by decide) rfl ?_
        refine r_goto (tgt := 15) d_Pa_runningSpeed_42 (by decide) ?_
        refine r_lvE (lv2 := [(3, .int (nI (i + 1))), (2, .int (nI (rsS f (i + 1)))), (1, .int (nI (fa_cnt (fun k => decide (f k = 103)) 12))), (0, .ref a)]) (by first | (rw [show rsS f (i + 1) = i / 12 + 1 from if_pos c_29] <;> rfl) | (rw [show rsS f (i + 1) = rsS f i from if_neg c_29] <;> rfl)) ?_
        refine r_cs (cs2 := [(a, .inr (8, [.ref a1, .ref a2, .ref a3, .int part])), (a1, .inl (1, 108, .inl f)), (a2, .inl (2, 108, .inl sn)), (a3, .inl (0, 108, .inl qu))]) (rfl) ?_
        exact ih (i + 1) (by omega) (by omega)
      · refine r_iload_n d_Pa_runningSpeed_32 rfl 0 rfl ?_
        refine r_bipush d_Pa_runningSpeed_33 (v := 12) (by decide) ?_
        refine r_idiv d_Pa_runningSpeed_35 (v := nI (i / 12)) (by decide) (nI_div12 (by omega)) ?_
        refine r_iconst d_Pa_runningSpeed_36 (v := 1) (by decide) ?_
        refine r_iadd d_Pa_runningSpeed_37 (v := nI ((i / 12) + 1)) (nI_add _ _) ?_
        refine r_istore_n (lv' := [(2, .int (nI ((i / 12) + 1))), (3, .int (nI i)), (1, .int (nI (fa_cnt (fun k => decide (f k = 103)) 12))), (0, .ref a)]) d_Pa_runningSpeed_38 rfl (by decide) rfl ?_
        refine r_iinc (lv' := [(3, .int (nI (i + 1))), (2, .int (nI ((i / 12) + 1))), (1, .int (nI (fa_cnt (fun k => decide (f k = 103)) 12))), (0, .ref a)]) (v := nI (i + 1)) d_Pa_runningSpeed_39 (j := 1) rfl (nI_add _ _) (by decide) rfl ?_
        refine r_goto (tgt := 15) d_Pa_runningSpeed_42 (by decide) ?_
        refine r_lvE (lv2 := [(3, .int (nI (i + 1))), (2, .int (nI (rsS f (i + 1)))), (1, .int (nI (fa_cnt (fun k => decide (f k = 103)) 12))), (0, .ref a)]) (by first | (rw [show rsS f (i + 1) = i / 12 + 1 from if_pos c_29] <;> rfl) | (rw [show rsS f (i + 1) = rsS f i from if_neg c_29] <;> rfl)) ?_
        refine r_cs (cs2 := [(a, .inr (8, [.ref a1, .ref a2, .ref a3, .int part])), (a1, .inl (1, 108, .inl f)), (a2, .inl (2, 108, .inl sn)), (a3, .inl (0, 108, .inl qu))]) (rfl) ?_
        exact ih (i + 1) (by omega) (by omega)
set_option maxHeartbeats 4000000 in
set_option maxRecDepth 100000 in
theorem C_Pa_runningSpeed (g : zG) (a a1 a2 a3 : Nat) (f sn qu : Nat → Int32) (part : Int32) : CT g M_Pa_runningSpeed [.ref a] [(a, .inr (8, [.ref a1, .ref a2, .ref a3, .int part])), (a1, .inl (1, 108, .inl f)), (a2, .inl (2, 108, .inl sn)), (a3, .inl (0, 108, .inl qu))] (fun o cs1 => o = .inl (some (.int (rsR f))) ∧ cs1 = [(a, .inr (8, [.ref a1, .ref a2, .ref a3, .int part])), (a1, .inl (1, 108, .inl f)), (a2, .inl (2, 108, .inl sn)), (a3, .inl (0, 108, .inl qu))]) 0 0 := by
  refine z_of (by decide) rfl (Nat.le_of_ble_eq_true rfl) (fun w0 => ?_)
  refine r_lvE (lv2 := [(0, .ref a)]) rfl ?_
  refine r_aload_n d_Pa_runningSpeed_0 rfl 0 rfl ?_
  refine r_callV (As := []) (rest := []) (csC := [(a, .inr (8, [.ref a1, .ref a2, .ref a3, .int part])), (a1, .inl (1, 108, .inl f)), (a2, .inl (2, 108, .inl sn)), (a3, .inl (0, 108, .inl qu))]) (is := [0, 1, 2, 3]) (q0 := 0) rfl rfl ln_Pa_37 w_im_Pa_gatesOnTop w_se_Pa_gatesOnTop ok_Pa_runningSpeed_Pa_gatesOnTop d_Pa_runningSpeed_1 (C_Pa_gatesOnTop g a a1 a2 a3 f sn qu part) rfl rfl (Nat.le_of_ble_eq_true rfl) rfl (by decide) (by omega) (by omega) (fun E cs1 hx => ?_) (fun v cs1 hx => ?_)
  · exact absurd hx.1 (by simp)
  · obtain ⟨e1, rfl⟩ := hx
    cases e1
    refine ⟨rfl, ?_⟩
    refine r_st (st2 := [.int (nI (fa_cnt (fun k => decide (f k = 103)) 12))]) rfl ?_
    refine r_cs (cs2 := [(a, .inr (8, [.ref a1, .ref a2, .ref a3, .int part])), (a1, .inl (1, 108, .inl f)), (a2, .inl (2, 108, .inl sn)), (a3, .inl (0, 108, .inl qu))]) rfl ?_
    refine r_istore_n (lv' := [(1, .int (nI (fa_cnt (fun k => decide (f k = 103)) 12))), (0, .ref a)]) d_Pa_runningSpeed_4 rfl (by decide) rfl ?_
    refine r_iload_n d_Pa_runningSpeed_5 rfl 0 rfl ?_
    refine r_if_ne (tgt := 11) d_Pa_runningSpeed_6 (by decide) (fun c_6 => ?_) (fun c_6 => ?_)
    · have hg := c_6
      have hgz : ¬ fa_cnt (fun k => decide (f k = 103)) 12 = 0 := fun e => c_6 (by rw [e]; rfl)
      refine r_iconst d_Pa_runningSpeed_11 (v := 0) (by decide) ?_
      refine r_istore_n (lv' := [(2, .int 0), (1, .int (nI (fa_cnt (fun k => decide (f k = 103)) 12))), (0, .ref a)]) d_Pa_runningSpeed_12 rfl (by decide) rfl ?_
      refine r_iconst d_Pa_runningSpeed_13 (v := 0) (by decide) ?_
      refine r_istore_n (lv' := [(3, .int 0), (2, .int 0), (1, .int (nI (fa_cnt (fun k => decide (f k = 103)) 12))), (0, .ref a)]) d_Pa_runningSpeed_14 rfl (by decide) rfl ?_
      refine r_lvE (lv2 := [(3, .int (nI 0)), (2, .int (nI (rsS f 0))), (1, .int (nI (fa_cnt (fun k => decide (f k = 103)) 12))), (0, .ref a)]) (rfl) ?_
      refine r_cs (cs2 := [(a, .inr (8, [.ref a1, .ref a2, .ref a3, .int part])), (a1, .inl (1, 108, .inl f)), (a2, .inl (2, 108, .inl sn)), (a3, .inl (0, 108, .inl qu))]) (rfl) ?_
      exact L_Pa_runningSpeed_15 g a a1 a2 a3 f sn qu part w0 _ hg hgz (108 + 1) 0 (Nat.zero_le _) (by omega)
    · have hgz : fa_cnt (fun k => decide (f k = 103)) 12 = 0 := z_eqn (b := 0) (by have := fa_cnt_le (fun k => decide (f k = 103)) 12; omega) (by decide) c_6
      refine r_iconst d_Pa_runningSpeed_9 (v := 0) (by decide) ?_
      refine r_iret d_Pa_runningSpeed_10 rfl rfl ?_
      exact ⟨by rw [rsR, if_pos hgz], rfl⟩
abbrev M_Pa_undercutFrom : zM := (⟨"Ironpour$Pattern", "undercutFrom", "(III)I"⟩, prog_10_method_8_code, 9, (Option.some FieldType.int), 2, 40, [])
theorem d_Pa_undercutFrom_9 : decode prog_10_method_8_code 9 = .ok (.iload 6, 2) := zo_21 (d := 6) (zd_b zq_prog_10_method_8_code_0 9 rfl rfl rfl) (zd_b zq_prog_10_method_8_code_0 10 rfl rfl rfl)
theorem d_Pa_undercutFrom_11 : decode prog_10_method_8_code 11 = .ok (.bipush 9, 2) := zo_16 (d := 9) (zd_b zq_prog_10_method_8_code_0 11 rfl rfl rfl) (zd_b zq_prog_10_method_8_code_0 12 rfl rfl rfl) (by decide +kernel)
theorem d_Pa_undercutFrom_13 : decode prog_10_method_8_code 13 = .ok (.if_icmp .ge 82, 3) := zo_162 (d := 0) (e := 82) (zd_b zq_prog_10_method_8_code_0 13 rfl rfl rfl) (zd_b zq_prog_10_method_8_code_0 14 rfl rfl rfl) (zd_b zq_prog_10_method_8_code_0 15 rfl rfl rfl) (by decide +kernel)
theorem d_Pa_undercutFrom_95 : decode prog_10_method_8_code 95 = .ok (.iload 5, 2) := zo_21 (d := 5) (zd_b zq_prog_10_method_8_code_2 31 rfl rfl rfl) (zd_b zq_prog_10_method_8_code_3 0 rfl rfl rfl)
theorem d_Pa_undercutFrom_97 : decode prog_10_method_8_code 97 = .ok (.ireturn, 1) := zo_172 (zd_b zq_prog_10_method_8_code_3 1 rfl rfl rfl)
theorem d_Pa_undercutFrom_16 : decode prog_10_method_8_code 16 = .ok (.iload_n 2, 1) := zo_28 (zd_b zq_prog_10_method_8_code_0 16 rfl rfl rfl)
theorem d_Pa_undercutFrom_17 : decode prog_10_method_8_code 17 = .ok (.iload 6, 2) := zo_21 (d := 6) (zd_b zq_prog_10_method_8_code_0 17 rfl rfl rfl) (zd_b zq_prog_10_method_8_code_0 18 rfl rfl rfl)
theorem d_Pa_undercutFrom_19 : decode prog_10_method_8_code 19 = .ok (.iload_n 3, 1) := zo_29 (zd_b zq_prog_10_method_8_code_0 19 rfl rfl rfl)
theorem d_Pa_undercutFrom_20 : decode prog_10_method_8_code 20 = .ok (.imul, 1) := zo_104 (zd_b zq_prog_10_method_8_code_0 20 rfl rfl rfl)
theorem d_Pa_undercutFrom_21 : decode prog_10_method_8_code 21 = .ok (.iadd, 1) := zo_96 (zd_b zq_prog_10_method_8_code_0 21 rfl rfl rfl)
theorem d_Pa_undercutFrom_22 : decode prog_10_method_8_code 22 = .ok (.istore 7, 2) := zo_54 (d := 7) (zd_b zq_prog_10_method_8_code_0 22 rfl rfl rfl) (zd_b zq_prog_10_method_8_code_0 23 rfl rfl rfl)
theorem d_Pa_undercutFrom_24 : decode prog_10_method_8_code 24 = .ok (.iload 7, 2) := zo_21 (d := 7) (zd_b zq_prog_10_method_8_code_0 24 rfl rfl rfl) (zd_b zq_prog_10_method_8_code_0 25 rfl rfl rfl)
theorem d_Pa_undercutFrom_26 : decode prog_10_method_8_code 26 = .ok (.ifCond .lt 69, 3) := zo_155 (d := 0) (e := 69) (zd_b zq_prog_10_method_8_code_0 26 rfl rfl rfl) (zd_b zq_prog_10_method_8_code_0 27 rfl rfl rfl) (zd_b zq_prog_10_method_8_code_0 28 rfl rfl rfl) (by decide +kernel)
theorem d_Pa_undercutFrom_29 : decode prog_10_method_8_code 29 = .ok (.iload 7, 2) := zo_21 (d := 7) (zd_b zq_prog_10_method_8_code_0 29 rfl rfl rfl) (zd_b zq_prog_10_method_8_code_0 30 rfl rfl rfl)
theorem d_Pa_undercutFrom_31 : decode prog_10_method_8_code 31 = .ok (.bipush 9, 2) := zo_16 (d := 9) (zd_b zq_prog_10_method_8_code_0 31 rfl rfl rfl) (zd_b zq_prog_10_method_8_code_1 0 rfl rfl rfl) (by decide +kernel)
theorem d_Pa_undercutFrom_33 : decode prog_10_method_8_code 33 = .ok (.if_icmp .lt 6, 3) := zo_161 (d := 0) (e := 6) (zd_b zq_prog_10_method_8_code_1 1 rfl rfl rfl) (zd_b zq_prog_10_method_8_code_1 2 rfl rfl rfl) (zd_b zq_prog_10_method_8_code_1 3 rfl rfl rfl) (by decide +kernel)
theorem d_Pa_undercutFrom_39 : decode prog_10_method_8_code 39 = .ok (.aload_n 0, 1) := zo_42 (zd_b zq_prog_10_method_8_code_1 7 rfl rfl rfl)
theorem d_Pa_undercutFrom_40 : decode prog_10_method_8_code 40 = .ok (.getfield 9, 3) := zo_180 (d := 0) (e := 9) (zd_b zq_prog_10_method_8_code_1 8 rfl rfl rfl) (zd_b zq_prog_10_method_8_code_1 9 rfl rfl rfl) (zd_b zq_prog_10_method_8_code_1 10 rfl rfl rfl)
theorem d_Pa_undercutFrom_43 : decode prog_10_method_8_code 43 = .ok (.iload 7, 2) := zo_21 (d := 7) (zd_b zq_prog_10_method_8_code_1 11 rfl rfl rfl) (zd_b zq_prog_10_method_8_code_1 12 rfl rfl rfl)
theorem d_Pa_undercutFrom_45 : decode prog_10_method_8_code 45 = .ok (.bipush 12, 2) := zo_16 (d := 12) (zd_b zq_prog_10_method_8_code_1 13 rfl rfl rfl) (zd_b zq_prog_10_method_8_code_1 14 rfl rfl rfl) (by decide +kernel)
theorem d_Pa_undercutFrom_47 : decode prog_10_method_8_code 47 = .ok (.imul, 1) := zo_104 (zd_b zq_prog_10_method_8_code_1 15 rfl rfl rfl)
theorem d_Pa_undercutFrom_48 : decode prog_10_method_8_code 48 = .ok (.iload_n 1, 1) := zo_27 (zd_b zq_prog_10_method_8_code_1 16 rfl rfl rfl)
theorem d_Pa_undercutFrom_49 : decode prog_10_method_8_code 49 = .ok (.iadd, 1) := zo_96 (zd_b zq_prog_10_method_8_code_1 17 rfl rfl rfl)
theorem d_Pa_undercutFrom_50 : decode prog_10_method_8_code 50 = .ok (.caload, 1) := zo_52 (zd_b zq_prog_10_method_8_code_1 18 rfl rfl rfl)
theorem d_Pa_undercutFrom_51 : decode prog_10_method_8_code 51 = .ok (.istore 8, 2) := zo_54 (d := 8) (zd_b zq_prog_10_method_8_code_1 19 rfl rfl rfl) (zd_b zq_prog_10_method_8_code_1 20 rfl rfl rfl)
theorem d_Pa_undercutFrom_53 : decode prog_10_method_8_code 53 = .ok (.iload 8, 2) := zo_21 (d := 8) (zd_b zq_prog_10_method_8_code_1 21 rfl rfl rfl) (zd_b zq_prog_10_method_8_code_1 22 rfl rfl rfl)
theorem d_Pa_undercutFrom_55 : decode prog_10_method_8_code 55 = .ok (.invokestatic 33, 3) := zo_184 (d := 0) (e := 33) (zd_b zq_prog_10_method_8_code_1 23 rfl rfl rfl) (zd_b zq_prog_10_method_8_code_1 24 rfl rfl rfl) (zd_b zq_prog_10_method_8_code_1 25 rfl rfl rfl)
theorem ok_Pa_undercutFrom_Ip_takesMetal : z_ok M_Pa_undercutFrom M_Ip_takesMetal 1 := ⟨z_mj2 (i := 114) rfl (by decide +kernel), rfl, ⟨by decide +kernel, by decide +kernel, by decide +kernel⟩, ⟨by decide, by decide⟩, z_mj1 (i := 1) rfl (by decide +kernel), rfl⟩
theorem d_Pa_undercutFrom_58 : decode prog_10_method_8_code 58 = .ok (.ifCond .ne 16, 3) := zo_154 (d := 0) (e := 16) (zd_b zq_prog_10_method_8_code_1 26 rfl rfl rfl) (zd_b zq_prog_10_method_8_code_1 27 rfl rfl rfl) (zd_b zq_prog_10_method_8_code_1 28 rfl rfl rfl) (by decide +kernel)
theorem d_Pa_undercutFrom_74 : decode prog_10_method_8_code 74 = .ok (.iload 4, 2) := zo_21 (d := 4) (zd_b zq_prog_10_method_8_code_2 10 rfl rfl rfl) (zd_b zq_prog_10_method_8_code_2 11 rfl rfl rfl)
theorem d_Pa_undercutFrom_76 : decode prog_10_method_8_code 76 = .ok (.ifCond .ne 13, 3) := zo_154 (d := 0) (e := 13) (zd_b zq_prog_10_method_8_code_2 12 rfl rfl rfl) (zd_b zq_prog_10_method_8_code_2 13 rfl rfl rfl) (zd_b zq_prog_10_method_8_code_2 14 rfl rfl rfl) (by decide +kernel)
theorem d_Pa_undercutFrom_89 : decode prog_10_method_8_code 89 = .ok (.iinc 6 1, 3) := by decide +kernel
theorem d_Pa_undercutFrom_92 : decode prog_10_method_8_code 92 = .ok (.goto (-83), 3) := zo_167 (d := 255) (e := 173) (zd_b zq_prog_10_method_8_code_2 28 rfl rfl rfl) (zd_b zq_prog_10_method_8_code_2 29 rfl rfl rfl) (zd_b zq_prog_10_method_8_code_2 30 rfl rfl rfl) (by decide +kernel)
theorem d_Pa_undercutFrom_79 : decode prog_10_method_8_code 79 = .ok (.iload 8, 2) := zo_21 (d := 8) (zd_b zq_prog_10_method_8_code_2 15 rfl rfl rfl) (zd_b zq_prog_10_method_8_code_2 16 rfl rfl rfl)
theorem d_Pa_undercutFrom_81 : decode prog_10_method_8_code 81 = .ok (.bipush 111, 2) := zo_16 (d := 111) (zd_b zq_prog_10_method_8_code_2 17 rfl rfl rfl) (zd_b zq_prog_10_method_8_code_2 18 rfl rfl rfl) (by decide +kernel)
theorem d_Pa_undercutFrom_83 : decode prog_10_method_8_code 83 = .ok (.if_icmp .eq 6, 3) := zo_159 (d := 0) (e := 6) (zd_b zq_prog_10_method_8_code_2 19 rfl rfl rfl) (zd_b zq_prog_10_method_8_code_2 20 rfl rfl rfl) (zd_b zq_prog_10_method_8_code_2 21 rfl rfl rfl) (by decide +kernel)
theorem d_Pa_undercutFrom_86 : decode prog_10_method_8_code 86 = .ok (.iinc 5 1, 3) := by decide +kernel
theorem d_Pa_undercutFrom_61 : decode prog_10_method_8_code 61 = .ok (.iload 8, 2) := zo_21 (d := 8) (zd_b zq_prog_10_method_8_code_1 29 rfl rfl rfl) (zd_b zq_prog_10_method_8_code_1 30 rfl rfl rfl)
theorem d_Pa_undercutFrom_63 : decode prog_10_method_8_code 63 = .ok (.bipush 111, 2) := zo_16 (d := 111) (zd_b zq_prog_10_method_8_code_1 31 rfl rfl rfl) (zd_b zq_prog_10_method_8_code_2 0 rfl rfl rfl) (by decide +kernel)
theorem d_Pa_undercutFrom_65 : decode prog_10_method_8_code 65 = .ok (.if_icmp .eq 9, 3) := zo_159 (d := 0) (e := 9) (zd_b zq_prog_10_method_8_code_2 1 rfl rfl rfl) (zd_b zq_prog_10_method_8_code_2 2 rfl rfl rfl) (zd_b zq_prog_10_method_8_code_2 3 rfl rfl rfl) (by decide +kernel)
theorem d_Pa_undercutFrom_68 : decode prog_10_method_8_code 68 = .ok (.iconst 0, 1) := zo_3 (zd_b zq_prog_10_method_8_code_2 4 rfl rfl rfl)
theorem d_Pa_undercutFrom_69 : decode prog_10_method_8_code 69 = .ok (.istore 4, 2) := zo_54 (d := 4) (zd_b zq_prog_10_method_8_code_2 5 rfl rfl rfl) (zd_b zq_prog_10_method_8_code_2 6 rfl rfl rfl)
theorem d_Pa_undercutFrom_71 : decode prog_10_method_8_code 71 = .ok (.goto 18, 3) := zo_167 (d := 0) (e := 18) (zd_b zq_prog_10_method_8_code_2 7 rfl rfl rfl) (zd_b zq_prog_10_method_8_code_2 8 rfl rfl rfl) (zd_b zq_prog_10_method_8_code_2 9 rfl rfl rfl) (by decide +kernel)
theorem d_Pa_undercutFrom_36 : decode prog_10_method_8_code 36 = .ok (.goto 59, 3) := zo_167 (d := 0) (e := 59) (zd_b zq_prog_10_method_8_code_1 4 rfl rfl rfl) (zd_b zq_prog_10_method_8_code_1 5 rfl rfl rfl) (zd_b zq_prog_10_method_8_code_1 6 rfl rfl rfl) (by decide +kernel)
theorem d_Pa_undercutFrom_0 : decode prog_10_method_8_code 0 = .ok (.iconst 1, 1) := zo_4 (zd_b zq_prog_10_method_8_code_0 0 rfl rfl rfl)
theorem d_Pa_undercutFrom_1 : decode prog_10_method_8_code 1 = .ok (.istore 4, 2) := zo_54 (d := 4) (zd_b zq_prog_10_method_8_code_0 1 rfl rfl rfl) (zd_b zq_prog_10_method_8_code_0 2 rfl rfl rfl)
theorem d_Pa_undercutFrom_3 : decode prog_10_method_8_code 3 = .ok (.iconst 0, 1) := zo_3 (zd_b zq_prog_10_method_8_code_0 3 rfl rfl rfl)
theorem d_Pa_undercutFrom_4 : decode prog_10_method_8_code 4 = .ok (.istore 5, 2) := zo_54 (d := 5) (zd_b zq_prog_10_method_8_code_0 4 rfl rfl rfl) (zd_b zq_prog_10_method_8_code_0 5 rfl rfl rfl)
theorem d_Pa_undercutFrom_6 : decode prog_10_method_8_code 6 = .ok (.iconst 0, 1) := zo_3 (zd_b zq_prog_10_method_8_code_0 6 rfl rfl rfl)
theorem d_Pa_undercutFrom_7 : decode prog_10_method_8_code 7 = .ok (.istore 6, 2) := zo_54 (d := 6) (zd_b zq_prog_10_method_8_code_0 7 rfl rfl rfl) (zd_b zq_prog_10_method_8_code_0 8 rfl rfl rfl)
set_option maxHeartbeats 4000000 in
set_option maxRecDepth 100000 in
theorem L_Pa_undercutFrom_9 (g : zG) (a a1 a2 a3 : Nat) (f sn qu : Nat → Int32) (part : Int32) (x : Nat) (hx : x < 12) (fr dd : Int32) (rf : Nat → Nat) (K : Nat) (hK : K ≤ 9) (hin : ∀ i, i < K → fr + nI i * dd = nI (rf i)) (hlt : ∀ i, i < K → rf i < 9) (hout : K < 9 → fr + nI K * dd < 0 ∨ 9 ≤ fr + nI K * dd) (w0 : zW) (n : Nat) : ∀ (d i : Nat), i ≤ K → K < i + d → DV g M_Pa_undercutFrom (fun o cs1 => o = .inl (some (.int (nI (ucS (fun k => f (rf k * 12 + x)) K).2))) ∧ cs1 = [(a, .inr (8, [.ref a1, .ref a2, .ref a3, .int part])), (a1, .inl (1, 108, .inl f)), (a2, .inl (2, 108, .inl sn)), (a3, .inl (0, 108, .inl qu))]) w0 n 9 [(6, .int (nI i)), (5, .int (nI (ucS (fun k => f (rf k * 12 + x)) i).2)), (4, .int ((ucS (fun k => f (rf k * 12 + x)) i).1)), (0, .ref a), (1, .int (nI x)), (2, .int fr), (3, .int dd)] [] [(a, .inr (8, [.ref a1, .ref a2, .ref a3, .int part])), (a1, .inl (1, 108, .inl f)), (a2, .inl (2, 108, .inl sn)), (a3, .inl (0, 108, .inl qu))] 0 0 := by
  intro d
  induction d with
  | zero => intro i h1 h2 ; exact absurd h2 (by omega)
  | succ d ih =>
    intro i h1 h2 
    refine r_iload d_Pa_undercutFrom_9 0 rfl ?_
    refine r_bipush d_Pa_undercutFrom_11 (v := 9) (by decide) ?_
    refine r_icmp_ge (tgt := 95) d_Pa_undercutFrom_13 (by decide) (fun c_13 => ?_) (fun c_13 => ?_)
    · have hn := z_le (a := 9) (by omega) (by decide) c_13
      have hv : i = K := by omega
      refine r_iload d_Pa_undercutFrom_95 1 rfl ?_
      refine r_iret d_Pa_undercutFrom_97 rfl rfl ?_
      exact ⟨by rw [hv], rfl⟩
    · have hn := z_nle (a := 9) (by omega) (by decide) c_13
      refine r_iload_n d_Pa_undercutFrom_16 rfl 5 rfl ?_
      refine r_iload d_Pa_undercutFrom_17 0 rfl ?_
      refine r_iload_n d_Pa_undercutFrom_19 rfl 6 rfl ?_
      refine r_imul d_Pa_undercutFrom_20 (v := nI i * dd) rfl ?_
      refine r_iadd d_Pa_undercutFrom_21 (v := fr + nI i * dd) rfl ?_
      refine r_istore (lv' := [(7, .int (fr + nI i * dd)), (6, .int (nI i)), (5, .int (nI (ucS (fun k => f (rf k * 12 + x)) i).2)), (4, .int ((ucS (fun k => f (rf k * 12 + x)) i).1)), (0, .ref a), (1, .int (nI x)), (2, .int fr), (3, .int dd)]) d_Pa_undercutFrom_22 (by decide) rfl ?_
      refine r_iload d_Pa_undercutFrom_24 0 rfl ?_
      refine r_if_lt (tgt := 95) d_Pa_undercutFrom_26 (by decide) (fun c_26 => ?_) (fun c_26 => ?_)
      · have hv : i = K := Classical.byContradiction (fun q => by have := hin i (by omega); rw [this] at c_26; exact absurd c_26 (nI_nneg (by have := hlt i (by omega); omega)))
        refine r_iload d_Pa_undercutFrom_95 2 rfl ?_
        refine r_iret d_Pa_undercutFrom_97 rfl rfl ?_
        exact ⟨by rw [hv], rfl⟩
      · refine r_iload d_Pa_undercutFrom_29 0 rfl ?_
        refine r_bipush d_Pa_undercutFrom_31 (v := 9) (by decide) ?_
        refine r_icmp_lt (tgt := 39) d_Pa_undercutFrom_33 (by decide) (fun c_33 => ?_) (fun c_33 => ?_)
        · have hi : i < K := Classical.byContradiction (fun q => by have e : i = K := (by omega); subst e; exact (hout hn).elim c_26 (fun e => absurd c_33 (Int32.not_lt.mpr e)))
          have hl := hlt i hi
          rw [hin i hi]
          refine r_aload_n d_Pa_undercutFrom_39 rfl 4 rfl ?_
          refine r_get fs_Pa_9 d_Pa_undercutFrom_40 (q0 := 0) rfl rfl ?_
          refine r_iload d_Pa_undercutFrom_43 0 rfl ?_
          refine r_bipush d_Pa_undercutFrom_45 (v := 12) (by decide) ?_
          refine r_imul d_Pa_undercutFrom_47 (v := nI ((rf i) * 12)) (pk_mul _ _) ?_
          refine r_iload_n d_Pa_undercutFrom_48 rfl 5 rfl ?_
          refine r_iadd d_Pa_undercutFrom_49 (v := nI (((rf i) * 12) + x)) (nI_add _ _) ?_
          refine r_cald d_Pa_undercutFrom_50 (q0 := 1) rfl (vp_in_nI (by omega) (by omega)) (v := f (rf i * 12 + x)) (by rw [nI_clamp (by omega)]) ?_
          refine r_istore (lv' := [(8, .int (f (rf i * 12 + x))), (7, .int (nI (rf i))), (6, .int (nI i)), (5, .int (nI (ucS (fun k => f (rf k * 12 + x)) i).2)), (4, .int ((ucS (fun k => f (rf k * 12 + x)) i).1)), (0, .ref a), (1, .int (nI x)), (2, .int fr), (3, .int dd)]) d_Pa_undercutFrom_51 (by decide) rfl ?_
          refine r_iload d_Pa_undercutFrom_53 0 rfl ?_
          refine r_callSN (As := [.int (f (rf i * 12 + x))]) (rest := []) (csC := []) (is := []) ln_Pa_33 w_st_Ip_takesMetal ok_Pa_undercutFrom_Ip_takesMetal d_Pa_undercutFrom_55 (C_Ip_takesMetal g (f (rf i * 12 + x))) rfl rfl (Nat.le_of_ble_eq_true rfl) rfl (by decide) (by omega) (by omega) (fun E cs1 hx => ?_) (fun v cs1 hx => ?_)
          · exact absurd hx.1 (by simp)
          · obtain ⟨e1, rfl⟩ := hx
            cases e1
            refine ⟨rfl, ?_⟩
            refine r_st (st2 := [.int (z_bi (tmB (f (rf i * 12 + x))))]) rfl ?_
            refine r_cs (cs2 := [(a, .inr (8, [.ref a1, .ref a2, .ref a3, .int part])), (a1, .inl (1, 108, .inl f)), (a2, .inl (2, 108, .inl sn)), (a3, .inl (0, 108, .inl qu))]) rfl ?_
            refine r_if_ne (tgt := 74) d_Pa_undercutFrom_58 (by decide) (fun c_58 => ?_) (fun c_58 => ?_)
            · have hm : ¬ (tmB (f (rf i * 12 + x)) = false ∧ ¬ f (rf i * 12 + x) = 111) := fun q => by have := z_bi1 c_58; rw [q.1] at this; cases this
              refine r_iload d_Pa_undercutFrom_74 4 rfl ?_
              refine r_if_ne (tgt := 89) d_Pa_undercutFrom_76 (by decide) (fun c_76 => ?_) (fun c_76 => ?_)
              · have hk := ucS_c (ks := (fun k => f (rf k * 12 + x))) (i := i) hm (fun q => c_76 q.1)
                refine r_iinc (lv' := [(6, .int (nI (i + 1))), (8, .int (f (rf i * 12 + x))), (7, .int (nI (rf i))), (5, .int (nI (ucS (fun k => f (rf k * 12 + x)) i).2)), (4, .int ((ucS (fun k => f (rf k * 12 + x)) i).1)), (0, .ref a), (1, .int (nI x)), (2, .int fr), (3, .int dd)]) (v := nI (i + 1)) d_Pa_undercutFrom_89 (j := 2) rfl (nI_add _ _) (by decide) rfl ?_
                refine r_goto (tgt := 9) d_Pa_undercutFrom_92 (by decide) ?_
                refine r_lv (lv' := [(6, .int (nI (i + 1))), (5, .int (nI (ucS (fun k => f (rf k * 12 + x)) i).2)), (4, .int ((ucS (fun k => f (rf k * 12 + x)) i).1)), (0, .ref a), (1, .int (nI x)), (2, .int fr), (3, .int dd)]) [0, 3, 4, 5, 6, 7, 8] rfl ?_
                refine r_lvE (lv2 := [(6, .int (nI (i + 1))), (5, .int (nI (ucS (fun k => f (rf k * 12 + x)) (i + 1)).2)), (4, .int ((ucS (fun k => f (rf k * 12 + x)) (i + 1)).1)), (0, .ref a), (1, .int (nI x)), (2, .int fr), (3, .int dd)]) (by rw [hk] <;> rfl) ?_
                refine r_cs (cs2 := [(a, .inr (8, [.ref a1, .ref a2, .ref a3, .int part])), (a1, .inl (1, 108, .inl f)), (a2, .inl (2, 108, .inl sn)), (a3, .inl (0, 108, .inl qu))]) (rfl) ?_
                exact ih (i + 1) (by omega) (by omega)
              · refine r_iload d_Pa_undercutFrom_79 0 rfl ?_
                refine r_bipush d_Pa_undercutFrom_81 (v := 111) (by decide) ?_
                refine r_icmp_eq (tgt := 89) d_Pa_undercutFrom_83 (by decide) (fun c_83 => ?_) (fun c_83 => ?_)
                · have hk := ucS_c (ks := (fun k => f (rf k * 12 + x))) (i := i) hm (fun q => q.2 c_83)
                  refine r_iinc (lv' := [(6, .int (nI (i + 1))), (8, .int (f (rf i * 12 + x))), (7, .int (nI (rf i))), (5, .int (nI (ucS (fun k => f (rf k * 12 + x)) i).2)), (4, .int ((ucS (fun k => f (rf k * 12 + x)) i).1)), (0, .ref a), (1, .int (nI x)), (2, .int fr), (3, .int dd)]) (v := nI (i + 1)) d_Pa_undercutFrom_89 (j := 2) rfl (nI_add _ _) (by decide) rfl ?_
                  refine r_goto (tgt := 9) d_Pa_undercutFrom_92 (by decide) ?_
                  refine r_lv (lv' := [(6, .int (nI (i + 1))), (5, .int (nI (ucS (fun k => f (rf k * 12 + x)) i).2)), (4, .int ((ucS (fun k => f (rf k * 12 + x)) i).1)), (0, .ref a), (1, .int (nI x)), (2, .int fr), (3, .int dd)]) [0, 3, 4, 5, 6, 7, 8] rfl ?_
                  refine r_lvE (lv2 := [(6, .int (nI (i + 1))), (5, .int (nI (ucS (fun k => f (rf k * 12 + x)) (i + 1)).2)), (4, .int ((ucS (fun k => f (rf k * 12 + x)) (i + 1)).1)), (0, .ref a), (1, .int (nI x)), (2, .int fr), (3, .int dd)]) (by rw [hk] <;> rfl) ?_
                  refine r_cs (cs2 := [(a, .inr (8, [.ref a1, .ref a2, .ref a3, .int part])), (a1, .inl (1, 108, .inl f)), (a2, .inl (2, 108, .inl sn)), (a3, .inl (0, 108, .inl qu))]) (rfl) ?_
                  exact ih (i + 1) (by omega) (by omega)
                · have hk := ucS_b (ks := (fun k => f (rf k * 12 + x))) (i := i) hm ⟨c_76, c_83⟩
                  refine r_iinc (lv' := [(5, .int (nI ((ucS (fun k => f (rf k * 12 + x)) i).2 + 1))), (8, .int (f (rf i * 12 + x))), (7, .int (nI (rf i))), (6, .int (nI i)), (4, .int ((ucS (fun k => f (rf k * 12 + x)) i).1)), (0, .ref a), (1, .int (nI x)), (2, .int fr), (3, .int dd)]) (v := nI ((ucS (fun k => f (rf k * 12 + x)) i).2 + 1)) d_Pa_undercutFrom_86 (j := 3) rfl (nI_add _ _) (by decide) rfl ?_
                  refine r_iinc (lv' := [(6, .int (nI (i + 1))), (5, .int (nI ((ucS (fun k => f (rf k * 12 + x)) i).2 + 1))), (8, .int (f (rf i * 12 + x))), (7, .int (nI (rf i))), (4, .int ((ucS (fun k => f (rf k * 12 + x)) i).1)), (0, .ref a), (1, .int (nI x)), (2, .int fr), (3, .int dd)]) (v := nI (i + 1)) d_Pa_undercutFrom_89 (j := 3) rfl (nI_add _ _) (by decide) rfl ?_
                  refine r_goto (tgt := 9) d_Pa_undercutFrom_92 (by decide) ?_
                  refine r_lv (lv' := [(6, .int (nI (i + 1))), (5, .int (nI ((ucS (fun k => f (rf k * 12 + x)) i).2 + 1))), (4, .int ((ucS (fun k => f (rf k * 12 + x)) i).1)), (0, .ref a), (1, .int (nI x)), (2, .int fr), (3, .int dd)]) [0, 1, 4, 5, 6, 7, 8] rfl ?_
                  refine r_lvE (lv2 := [(6, .int (nI (i + 1))), (5, .int (nI (ucS (fun k => f (rf k * 12 + x)) (i + 1)).2)), (4, .int ((ucS (fun k => f (rf k * 12 + x)) (i + 1)).1)), (0, .ref a), (1, .int (nI x)), (2, .int fr), (3, .int dd)]) (by rw [hk] <;> rfl) ?_
                  refine r_cs (cs2 := [(a, .inr (8, [.ref a1, .ref a2, .ref a3, .int part])), (a1, .inl (1, 108, .inl f)), (a2, .inl (2, 108, .inl sn)), (a3, .inl (0, 108, .inl qu))]) (rfl) ?_
                  exact ih (i + 1) (by omega) (by omega)
            · refine r_iload d_Pa_undercutFrom_61 0 rfl ?_
              refine r_bipush d_Pa_undercutFrom_63 (v := 111) (by decide) ?_
              refine r_icmp_eq (tgt := 74) d_Pa_undercutFrom_65 (by decide) (fun c_65 => ?_) (fun c_65 => ?_)
              · have hm : ¬ (tmB (f (rf i * 12 + x)) = false ∧ ¬ f (rf i * 12 + x) = 111) := fun q => q.2 c_65
                refine r_iload d_Pa_undercutFrom_74 4 rfl ?_
                refine r_if_ne (tgt := 89) d_Pa_undercutFrom_76 (by decide) (fun c_76 => ?_) (fun c_76 => ?_)
                · have hk := ucS_c (ks := (fun k => f (rf k * 12 + x))) (i := i) hm (fun q => c_76 q.1)
                  refine r_iinc (lv' := [(6, .int (nI (i + 1))), (8, .int (f (rf i * 12 + x))), (7, .int (nI (rf i))), (5, .int (nI (ucS (fun k => f (rf k * 12 + x)) i).2)), (4, .int ((ucS (fun k => f (rf k * 12 + x)) i).1)), (0, .ref a), (1, .int (nI x)), (2, .int fr), (3, .int dd)]) (v := nI (i + 1)) d_Pa_undercutFrom_89 (j := 2) rfl (nI_add _ _) (by decide) rfl ?_
                  refine r_goto (tgt := 9) d_Pa_undercutFrom_92 (by decide) ?_
                  refine r_lv (lv' := [(6, .int (nI (i + 1))), (5, .int (nI (ucS (fun k => f (rf k * 12 + x)) i).2)), (4, .int ((ucS (fun k => f (rf k * 12 + x)) i).1)), (0, .ref a), (1, .int (nI x)), (2, .int fr), (3, .int dd)]) [0, 3, 4, 5, 6, 7, 8] rfl ?_
                  refine r_lvE (lv2 := [(6, .int (nI (i + 1))), (5, .int (nI (ucS (fun k => f (rf k * 12 + x)) (i + 1)).2)), (4, .int ((ucS (fun k => f (rf k * 12 + x)) (i + 1)).1)), (0, .ref a), (1, .int (nI x)), (2, .int fr), (3, .int dd)]) (by rw [hk] <;> rfl) ?_
                  refine r_cs (cs2 := [(a, .inr (8, [.ref a1, .ref a2, .ref a3, .int part])), (a1, .inl (1, 108, .inl f)), (a2, .inl (2, 108, .inl sn)), (a3, .inl (0, 108, .inl qu))]) (rfl) ?_
                  exact ih (i + 1) (by omega) (by omega)
                · refine r_iload d_Pa_undercutFrom_79 0 rfl ?_
                  refine r_bipush d_Pa_undercutFrom_81 (v := 111) (by decide) ?_
                  refine r_icmp_eq (tgt := 89) d_Pa_undercutFrom_83 (by decide) (fun c_83 => ?_) (fun c_83 => ?_)
                  · have hk := ucS_c (ks := (fun k => f (rf k * 12 + x))) (i := i) hm (fun q => q.2 c_83)
                    refine r_iinc (lv' := [(6, .int (nI (i + 1))), (8, .int (f (rf i * 12 + x))), (7, .int (nI (rf i))), (5, .int (nI (ucS (fun k => f (rf k * 12 + x)) i).2)), (4, .int ((ucS (fun k => f (rf k * 12 + x)) i).1)), (0, .ref a), (1, .int (nI x)), (2, .int fr), (3, .int dd)]) (v := nI (i + 1)) d_Pa_undercutFrom_89 (j := 2) rfl (nI_add _ _) (by decide) rfl ?_
                    refine r_goto (tgt := 9) d_Pa_undercutFrom_92 (by decide) ?_
                    refine r_lv (lv' := [(6, .int (nI (i + 1))), (5, .int (nI (ucS (fun k => f (rf k * 12 + x)) i).2)), (4, .int ((ucS (fun k => f (rf k * 12 + x)) i).1)), (0, .ref a), (1, .int (nI x)), (2, .int fr), (3, .int dd)]) [0, 3, 4, 5, 6, 7, 8] rfl ?_
                    refine r_lvE (lv2 := [(6, .int (nI (i + 1))), (5, .int (nI (ucS (fun k => f (rf k * 12 + x)) (i + 1)).2)), (4, .int ((ucS (fun k => f (rf k * 12 + x)) (i + 1)).1)), (0, .ref a), (1, .int (nI x)), (2, .int fr), (3, .int dd)]) (by rw [hk] <;> rfl) ?_
                    refine r_cs (cs2 := [(a, .inr (8, [.ref a1, .ref a2, .ref a3, .int part])), (a1, .inl (1, 108, .inl f)), (a2, .inl (2, 108, .inl sn)), (a3, .inl (0, 108, .inl qu))]) (rfl) ?_
                    exact ih (i + 1) (by omega) (by omega)
                  · have hk := ucS_b (ks := (fun k => f (rf k * 12 + x))) (i := i) hm ⟨c_76, c_83⟩
                    refine r_iinc (lv' := [(5, .int (nI ((ucS (fun k => f (rf k * 12 + x)) i).2 + 1))), (8, .int (f (rf i * 12 + x))), (7, .int (nI (rf i))), (6, .int (nI i)), (4, .int ((ucS (fun k => f (rf k * 12 + x)) i).1)), (0, .ref a), (1, .int (nI x)), (2, .int fr), (3, .int dd)]) (v := nI ((ucS (fun k => f (rf k * 12 + x)) i).2 + 1)) d_Pa_undercutFrom_86 (j := 3) rfl (nI_add _ _) (by decide) rfl ?_
                    refine r_iinc (lv' := [(6, .int (nI (i + 1))), (5, .int (nI ((ucS (fun k => f (rf k * 12 + x)) i).2 + 1))), (8, .int (f (rf i * 12 + x))), (7, .int (nI (rf i))), (4, .int ((ucS (fun k => f (rf k * 12 + x)) i).1)), (0, .ref a), (1, .int (nI x)), (2, .int fr), (3, .int dd)]) (v := nI (i + 1)) d_Pa_undercutFrom_89 (j := 3) rfl (nI_add _ _) (by decide) rfl ?_
                    refine r_goto (tgt := 9) d_Pa_undercutFrom_92 (by decide) ?_
                    refine r_lv (lv' := [(6, .int (nI (i + 1))), (5, .int (nI ((ucS (fun k => f (rf k * 12 + x)) i).2 + 1))), (4, .int ((ucS (fun k => f (rf k * 12 + x)) i).1)), (0, .ref a), (1, .int (nI x)), (2, .int fr), (3, .int dd)]) [0, 1, 4, 5, 6, 7, 8] rfl ?_
                    refine r_lvE (lv2 := [(6, .int (nI (i + 1))), (5, .int (nI (ucS (fun k => f (rf k * 12 + x)) (i + 1)).2)), (4, .int ((ucS (fun k => f (rf k * 12 + x)) (i + 1)).1)), (0, .ref a), (1, .int (nI x)), (2, .int fr), (3, .int dd)]) (by rw [hk] <;> rfl) ?_
                    refine r_cs (cs2 := [(a, .inr (8, [.ref a1, .ref a2, .ref a3, .int part])), (a1, .inl (1, 108, .inl f)), (a2, .inl (2, 108, .inl sn)), (a3, .inl (0, 108, .inl qu))]) (rfl) ?_
                    exact ih (i + 1) (by omega) (by omega)
              · have hk := ucS_a (ks := (fun k => f (rf k * 12 + x))) (i := i) ⟨z_bi0 c_58, c_65⟩
                refine r_iconst d_Pa_undercutFrom_68 (v := 0) (by decide) ?_
                refine r_istore (lv' := [(4, .int 0), (8, .int (f (rf i * 12 + x))), (7, .int (nI (rf i))), (6, .int (nI i)), (5, .int (nI (ucS (fun k => f (rf k * 12 + x)) i).2)), (0, .ref a), (1, .int (nI x)), (2, .int fr), (3, .int dd)]) d_Pa_undercutFrom_69 (by decide) rfl ?_
                refine r_goto (tgt := 89) d_Pa_undercutFrom_71 (by decide) ?_
                refine r_iinc (lv' := [(6, .int (nI (i + 1))), (4, .int 0), (8, .int (f (rf i * 12 + x))), (7, .int (nI (rf i))), (5, .int (nI (ucS (fun k => f (rf k * 12 + x)) i).2)), (0, .ref a), (1, .int (nI x)), (2, .int fr), (3, .int dd)]) (v := nI (i + 1)) d_Pa_undercutFrom_89 (j := 3) rfl (nI_add _ _) (by decide) rfl ?_
                refine r_goto (tgt := 9) d_Pa_undercutFrom_92 (by decide) ?_
                refine r_lv (lv' := [(6, .int (nI (i + 1))), (5, .int (nI (ucS (fun k => f (rf k * 12 + x)) i).2)), (4, .int 0), (0, .ref a), (1, .int (nI x)), (2, .int fr), (3, .int dd)]) [0, 4, 1, 5, 6, 7, 8] rfl ?_
                refine r_lvE (lv2 := [(6, .int (nI (i + 1))), (5, .int (nI (ucS (fun k => f (rf k * 12 + x)) (i + 1)).2)), (4, .int ((ucS (fun k => f (rf k * 12 + x)) (i + 1)).1)), (0, .ref a), (1, .int (nI x)), (2, .int fr), (3, .int dd)]) (by rw [hk] <;> rfl) ?_
                refine r_cs (cs2 := [(a, .inr (8, [.ref a1, .ref a2, .ref a3, .int part])), (a1, .inl (1, 108, .inl f)), (a2, .inl (2, 108, .inl sn)), (a3, .inl (0, 108, .inl qu))]) (rfl) ?_
                exact ih (i + 1) (by omega) (by omega)
        · have hv : i = K := Classical.byContradiction (fun q => by have := hin i (by omega); rw [this] at c_33; exact absurd (z_nlt (b := 9) (by decide) (by have := hlt i (by omega); omega) c_33) (by have := hlt i (by omega); omega))
          refine r_goto (tgt := 95) d_Pa_undercutFrom_36 (by decide) ?_
          refine r_iload d_Pa_undercutFrom_95 2 rfl ?_
          refine r_iret d_Pa_undercutFrom_97 rfl rfl ?_
          exact ⟨by rw [hv], rfl⟩
set_option maxHeartbeats 4000000 in
set_option maxRecDepth 100000 in
theorem C_Pa_undercutFrom (g : zG) (a a1 a2 a3 : Nat) (f sn qu : Nat → Int32) (part : Int32) (x : Nat) (hx : x < 12) (fr dd : Int32) (rf : Nat → Nat) (K : Nat) (hK : K ≤ 9) (hin : ∀ i, i < K → fr + nI i * dd = nI (rf i)) (hlt : ∀ i, i < K → rf i < 9) (hout : K < 9 → fr + nI K * dd < 0 ∨ 9 ≤ fr + nI K * dd) : CT g M_Pa_undercutFrom [.ref a, .int (nI x), .int fr, .int dd] [(a, .inr (8, [.ref a1, .ref a2, .ref a3, .int part])), (a1, .inl (1, 108, .inl f)), (a2, .inl (2, 108, .inl sn)), (a3, .inl (0, 108, .inl qu))] (fun o cs1 => o = .inl (some (.int (nI (ucS (fun k => f (rf k * 12 + x)) K).2))) ∧ cs1 = [(a, .inr (8, [.ref a1, .ref a2, .ref a3, .int part])), (a1, .inl (1, 108, .inl f)), (a2, .inl (2, 108, .inl sn)), (a3, .inl (0, 108, .inl qu))]) 0 0 := by
  refine z_of (by decide) rfl (Nat.le_of_ble_eq_true rfl) (fun w0 => ?_)
  refine r_lvE (lv2 := [(0, .ref a), (1, .int (nI x)), (2, .int fr), (3, .int dd)]) rfl ?_
  refine r_iconst d_Pa_undercutFrom_0 (v := 1) (by decide) ?_
  refine r_istore (lv' := [(4, .int 1), (0, .ref a), (1, .int (nI x)), (2, .int fr), (3, .int dd)]) d_Pa_undercutFrom_1 (by decide) rfl ?_
  refine r_iconst d_Pa_undercutFrom_3 (v := 0) (by decide) ?_
  refine r_istore (lv' := [(5, .int 0), (4, .int 1), (0, .ref a), (1, .int (nI x)), (2, .int fr), (3, .int dd)]) d_Pa_undercutFrom_4 (by decide) rfl ?_
  refine r_iconst d_Pa_undercutFrom_6 (v := 0) (by decide) ?_
  refine r_istore (lv' := [(6, .int 0), (5, .int 0), (4, .int 1), (0, .ref a), (1, .int (nI x)), (2, .int fr), (3, .int dd)]) d_Pa_undercutFrom_7 (by decide) rfl ?_
  refine r_lvE (lv2 := [(6, .int (nI 0)), (5, .int (nI (ucS (fun k => f (rf k * 12 + x)) 0).2)), (4, .int ((ucS (fun k => f (rf k * 12 + x)) 0).1)), (0, .ref a), (1, .int (nI x)), (2, .int fr), (3, .int dd)]) (rfl) ?_
  refine r_cs (cs2 := [(a, .inr (8, [.ref a1, .ref a2, .ref a3, .int part])), (a1, .inl (1, 108, .inl f)), (a2, .inl (2, 108, .inl sn)), (a3, .inl (0, 108, .inl qu))]) (rfl) ?_
  exact L_Pa_undercutFrom_9 g a a1 a2 a3 f sn qu part x hx fr dd rf K hK hin hlt hout w0 _  (K + 1) 0 (Nat.zero_le _) (by omega)
abbrev M_Pa_undercutCells : zM := (⟨"Ironpour$Pattern", "undercutCells", "()I"⟩, prog_10_method_7_code, 3, (Option.some FieldType.int), 3, 68, [])
theorem d_Pa_undercutCells_4 : decode prog_10_method_7_code 4 = .ok (.iload_n 2, 1) := zo_28 (zd_b zq_prog_10_method_7_code_0 4 rfl rfl rfl)
theorem d_Pa_undercutCells_5 : decode prog_10_method_7_code 5 = .ok (.bipush 12, 2) := zo_16 (d := 12) (zd_b zq_prog_10_method_7_code_0 5 rfl rfl rfl) (zd_b zq_prog_10_method_7_code_0 6 rfl rfl rfl) (by decide +kernel)
theorem d_Pa_undercutCells_7 : decode prog_10_method_7_code 7 = .ok (.if_icmp .ge 35, 3) := zo_162 (d := 0) (e := 35) (zd_b zq_prog_10_method_7_code_0 7 rfl rfl rfl) (zd_b zq_prog_10_method_7_code_0 8 rfl rfl rfl) (zd_b zq_prog_10_method_7_code_0 9 rfl rfl rfl) (by decide +kernel)
theorem d_Pa_undercutCells_42 : decode prog_10_method_7_code 42 = .ok (.iload_n 1, 1) := zo_27 (zd_b zq_prog_10_method_7_code_1 10 rfl rfl rfl)
theorem d_Pa_undercutCells_43 : decode prog_10_method_7_code 43 = .ok (.ireturn, 1) := zo_172 (zd_b zq_prog_10_method_7_code_1 11 rfl rfl rfl)
theorem d_Pa_undercutCells_10 : decode prog_10_method_7_code 10 = .ok (.iload_n 1, 1) := zo_27 (zd_b zq_prog_10_method_7_code_0 10 rfl rfl rfl)
theorem d_Pa_undercutCells_11 : decode prog_10_method_7_code 11 = .ok (.aload_n 0, 1) := zo_42 (zd_b zq_prog_10_method_7_code_0 11 rfl rfl rfl)
theorem d_Pa_undercutCells_12 : decode prog_10_method_7_code 12 = .ok (.iload_n 2, 1) := zo_28 (zd_b zq_prog_10_method_7_code_0 12 rfl rfl rfl)
theorem d_Pa_undercutCells_13 : decode prog_10_method_7_code 13 = .ok (.aload_n 0, 1) := zo_42 (zd_b zq_prog_10_method_7_code_0 13 rfl rfl rfl)
theorem d_Pa_undercutCells_14 : decode prog_10_method_7_code 14 = .ok (.getfield 23, 3) := zo_180 (d := 0) (e := 23) (zd_b zq_prog_10_method_7_code_0 14 rfl rfl rfl) (zd_b zq_prog_10_method_7_code_0 15 rfl rfl rfl) (zd_b zq_prog_10_method_7_code_0 16 rfl rfl rfl)
theorem fs_Pa_23 : z_fs "Ironpour$Pattern" 23 8 3 := ⟨R_Pa, "Ironpour$Pattern", F_Pa, 4, rfl, u_Pa, by decide, Or.inl ⟨z_mj1 (i := 57) rfl (by decide +kernel), Or.inl rfl⟩⟩
theorem d_Pa_undercutCells_17 : decode prog_10_method_7_code 17 = .ok (.iconst 1, 1) := zo_4 (zd_b zq_prog_10_method_7_code_0 17 rfl rfl rfl)
theorem d_Pa_undercutCells_18 : decode prog_10_method_7_code 18 = .ok (.isub, 1) := zo_100 (zd_b zq_prog_10_method_7_code_0 18 rfl rfl rfl)
theorem d_Pa_undercutCells_19 : decode prog_10_method_7_code 19 = .ok (.iconst (-1), 1) := zo_2 (zd_b zq_prog_10_method_7_code_0 19 rfl rfl rfl)
theorem d_Pa_undercutCells_20 : decode prog_10_method_7_code 20 = .ok (.invokevirtual 41, 3) := zo_182 (d := 0) (e := 41) (zd_b zq_prog_10_method_7_code_0 20 rfl rfl rfl) (zd_b zq_prog_10_method_7_code_0 21 rfl rfl rfl) (zd_b zq_prog_10_method_7_code_0 22 rfl rfl rfl)
theorem ok_Pa_undercutCells_Pa_undercutFrom : z_ok M_Pa_undercutCells M_Pa_undercutFrom 3 := ⟨z_mj2 (i := 111) rfl (by decide +kernel), rfl, ⟨by decide +kernel, by decide +kernel, by decide +kernel⟩, ⟨by decide, by decide⟩, z_mj1 (i := 2) rfl (by decide +kernel), rfl⟩
theorem ln_Pa_41 : Cond.methodLink "Ironpour$Pattern" 41 M_Pa_undercutFrom.1 ∈ z_gw := z_mj2 (i := 108) rfl (by decide +kernel)
theorem w_im_Pa_undercutFrom : Cond.instanceMethod M_Pa_undercutFrom.1 ∈ z_gw := z_mj2 (i := 110) rfl (by decide +kernel)
theorem w_se_Pa_undercutFrom : Cond.selects M_Pa_undercutFrom.1.cls M_Pa_undercutFrom.1 M_Pa_undercutFrom.1 ∈ z_gw := z_mem (i := 0) (by decide +kernel) (by decide +kernel)
theorem d_Pa_undercutCells_23 : decode prog_10_method_7_code 23 = .ok (.aload_n 0, 1) := zo_42 (zd_b zq_prog_10_method_7_code_0 23 rfl rfl rfl)
theorem d_Pa_undercutCells_24 : decode prog_10_method_7_code 24 = .ok (.iload_n 2, 1) := zo_28 (zd_b zq_prog_10_method_7_code_0 24 rfl rfl rfl)
theorem d_Pa_undercutCells_25 : decode prog_10_method_7_code 25 = .ok (.aload_n 0, 1) := zo_42 (zd_b zq_prog_10_method_7_code_0 25 rfl rfl rfl)
theorem d_Pa_undercutCells_26 : decode prog_10_method_7_code 26 = .ok (.getfield 23, 3) := zo_180 (d := 0) (e := 23) (zd_b zq_prog_10_method_7_code_0 26 rfl rfl rfl) (zd_b zq_prog_10_method_7_code_0 27 rfl rfl rfl) (zd_b zq_prog_10_method_7_code_0 28 rfl rfl rfl)
theorem d_Pa_undercutCells_29 : decode prog_10_method_7_code 29 = .ok (.iconst 1, 1) := zo_4 (zd_b zq_prog_10_method_7_code_0 29 rfl rfl rfl)
theorem d_Pa_undercutCells_30 : decode prog_10_method_7_code 30 = .ok (.invokevirtual 41, 3) := zo_182 (d := 0) (e := 41) (zd_b zq_prog_10_method_7_code_0 30 rfl rfl rfl) (zd_b zq_prog_10_method_7_code_0 31 rfl rfl rfl) (zd_b zq_prog_10_method_7_code_1 0 rfl rfl rfl)
theorem d_Pa_undercutCells_33 : decode prog_10_method_7_code 33 = .ok (.iadd, 1) := zo_96 (zd_b zq_prog_10_method_7_code_1 1 rfl rfl rfl)
theorem d_Pa_undercutCells_34 : decode prog_10_method_7_code 34 = .ok (.iadd, 1) := zo_96 (zd_b zq_prog_10_method_7_code_1 2 rfl rfl rfl)
theorem d_Pa_undercutCells_35 : decode prog_10_method_7_code 35 = .ok (.istore_n 1, 1) := zo_60 (zd_b zq_prog_10_method_7_code_1 3 rfl rfl rfl)
theorem d_Pa_undercutCells_36 : decode prog_10_method_7_code 36 = .ok (.iinc 2 1, 3) := by decide +kernel
theorem d_Pa_undercutCells_39 : decode prog_10_method_7_code 39 = .ok (.goto (-35), 3) := zo_167 (d := 255) (e := 221) (zd_b zq_prog_10_method_7_code_1 7 rfl rfl rfl) (zd_b zq_prog_10_method_7_code_1 8 rfl rfl rfl) (zd_b zq_prog_10_method_7_code_1 9 rfl rfl rfl) (by decide +kernel)
theorem d_Pa_undercutCells_0 : decode prog_10_method_7_code 0 = .ok (.iconst 0, 1) := zo_3 (zd_b zq_prog_10_method_7_code_0 0 rfl rfl rfl)
theorem d_Pa_undercutCells_1 : decode prog_10_method_7_code 1 = .ok (.istore_n 1, 1) := zo_60 (zd_b zq_prog_10_method_7_code_0 1 rfl rfl rfl)
theorem d_Pa_undercutCells_2 : decode prog_10_method_7_code 2 = .ok (.iconst 0, 1) := zo_3 (zd_b zq_prog_10_method_7_code_0 2 rfl rfl rfl)
theorem d_Pa_undercutCells_3 : decode prog_10_method_7_code 3 = .ok (.istore_n 2, 1) := zo_61 (zd_b zq_prog_10_method_7_code_0 3 rfl rfl rfl)
set_option maxHeartbeats 4000000 in
set_option maxRecDepth 100000 in
theorem L_Pa_undercutCells_4 (g : zG) (a a1 a2 a3 : Nat) (f sn qu : Nat → Int32) (p : Nat) (hp1 : 1 ≤ p) (hp : p < 9) (w0 : zW) (n : Nat) : ∀ (d i : Nat), i ≤ 12 → 12 < i + d → DV g M_Pa_undercutCells (fun o cs1 => o = .inl (some (.int (nI (ucT f p 12)))) ∧ cs1 = [(a, .inr (8, [.ref a1, .ref a2, .ref a3, .int (nI p)])), (a1, .inl (1, 108, .inl f)), (a2, .inl (2, 108, .inl sn)), (a3, .inl (0, 108, .inl qu))]) w0 n 4 [(2, .int (nI i)), (1, .int (nI (ucT f p i))), (0, .ref a)] [] [(a, .inr (8, [.ref a1, .ref a2, .ref a3, .int (nI p)])), (a1, .inl (1, 108, .inl f)), (a2, .inl (2, 108, .inl sn)), (a3, .inl (0, 108, .inl qu))] 0 0 := by
  intro d
  induction d with
  | zero => intro i h1 h2 ; exact absurd h2 (by omega)
  | succ d ih =>
    intro i h1 h2 
    refine r_iload_n d_Pa_undercutCells_4 rfl 0 rfl ?_
    refine r_bipush d_Pa_undercutCells_5 (v := 12) (by decide) ?_
    refine r_icmp_ge (tgt := 42) d_Pa_undercutCells_7 (by decide) (fun c_7 => ?_) (fun c_7 => ?_)
    · have hn := z_le (a := 12) (by omega) (by decide) c_7
      obtain rfl : i = 12 := by omega
      refine r_iload_n d_Pa_undercutCells_42 rfl 1 rfl ?_
      refine r_iret d_Pa_undercutCells_43 rfl rfl ?_
      exact ⟨rfl, rfl⟩
    · have hn := z_nle (a := 12) (by omega) (by decide) c_7
      refine r_iload_n d_Pa_undercutCells_10 rfl 1 rfl ?_
      refine r_aload_n d_Pa_undercutCells_11 rfl 2 rfl ?_
      refine r_iload_n d_Pa_undercutCells_12 rfl 0 rfl ?_
      refine r_aload_n d_Pa_undercutCells_13 rfl 2 rfl ?_
      refine r_get fs_Pa_23 d_Pa_undercutCells_14 (q0 := 0) rfl rfl ?_
      refine r_iconst d_Pa_undercutCells_17 (v := 1) (by decide) ?_
      refine r_isub d_Pa_undercutCells_18 (v := nI (p - 1)) (nI_sub1 hp1) ?_
      refine r_iconst d_Pa_undercutCells_19 (v := (-1)) (by decide) ?_
      refine r_callV (As := [.int (nI i), .int (nI (p - 1)), .int (-1)]) (rest := [.int (nI (ucT f p i))]) (csC := [(a, .inr (8, [.ref a1, .ref a2, .ref a3, .int (nI p)])), (a1, .inl (1, 108, .inl f)), (a2, .inl (2, 108, .inl sn)), (a3, .inl (0, 108, .inl qu))]) (is := [0, 1, 2, 3]) (q0 := 0) rfl rfl ln_Pa_41 w_im_Pa_undercutFrom w_se_Pa_undercutFrom ok_Pa_undercutCells_Pa_undercutFrom d_Pa_undercutCells_20 (C_Pa_undercutFrom g a a1 a2 a3 f sn qu (nI p) i (by omega) (nI (p - 1)) (-1) (fun k => p - 1 - k) p (by omega) (uc_u1 p (by omega)) (fun k hk => by show p - 1 - k < 9; omega) (fun _ => (uc_u2 p (by omega)).elim Or.inl (fun q => q.elim Or.inr (fun e => by omega)))) rfl rfl (Nat.le_of_ble_eq_true rfl) rfl (by decide) (by omega) (by omega) (fun E cs1 hx => ?_) (fun v cs1 hx => ?_)
      · exact absurd hx.1 (by simp)
      · obtain ⟨e1, rfl⟩ := hx
        cases e1
        refine ⟨rfl, ?_⟩
        refine r_st (st2 := [.int (nI (ucS (fun k => f ((p - 1 - k) * 12 + i)) p).2), .int (nI (ucT f p i))]) rfl ?_
        refine r_cs (cs2 := [(a, .inr (8, [.ref a1, .ref a2, .ref a3, .int (nI p)])), (a1, .inl (1, 108, .inl f)), (a2, .inl (2, 108, .inl sn)), (a3, .inl (0, 108, .inl qu))]) rfl ?_
        refine r_aload_n d_Pa_undercutCells_23 rfl 2 rfl ?_
        refine r_iload_n d_Pa_undercutCells_24 rfl 0 rfl ?_
        refine r_aload_n d_Pa_undercutCells_25 rfl 2 rfl ?_
        refine r_get fs_Pa_23 d_Pa_undercutCells_26 (q0 := 0) rfl rfl ?_
        refine r_iconst d_Pa_undercutCells_29 (v := 1) (by decide) ?_
        refine r_callV (As := [.int (nI i), .int (nI p), .int 1]) (rest := [.int (nI (ucS (fun k => f ((p - 1 - k) * 12 + i)) p).2), .int (nI (ucT f p i))]) (csC := [(a, .inr (8, [.ref a1, .ref a2, .ref a3, .int (nI p)])), (a1, .inl (1, 108, .inl f)), (a2, .inl (2, 108, .inl sn)), (a3, .inl (0, 108, .inl qu))]) (is := [0, 1, 2, 3]) (q0 := 0) rfl rfl ln_Pa_41 w_im_Pa_undercutFrom w_se_Pa_undercutFrom ok_Pa_undercutCells_Pa_undercutFrom d_Pa_undercutCells_30 (C_Pa_undercutFrom g a a1 a2 a3 f sn qu (nI p) i (by omega) (nI p) 1 (fun k => p + k) (9 - p) (by omega) (uc_d1 p (by omega)) (fun k hk => by show p + k < 9; omega) (fun _ => Or.inr (uc_d2 p (by omega)))) rfl rfl (Nat.le_of_ble_eq_true rfl) rfl (by decide) (by omega) (by omega) (fun E cs1 hx => ?_) (fun v cs1 hx => ?_)
        · exact absurd hx.1 (by simp)
        · obtain ⟨e1, rfl⟩ := hx
          cases e1
          refine ⟨rfl, ?_⟩
          refine r_st (st2 := [.int (nI (ucS (fun k => f ((p + k) * 12 + i)) (9 - p)).2), .int (nI (ucS (fun k => f ((p - 1 - k) * 12 + i)) p).2), .int (nI (ucT f p i))]) rfl ?_
          refine r_cs (cs2 := [(a, .inr (8, [.ref a1, .ref a2, .ref a3, .int (nI p)])), (a1, .inl (1, 108, .inl f)), (a2, .inl (2, 108, .inl sn)), (a3, .inl (0, 108, .inl qu))]) rfl ?_
          refine r_iadd d_Pa_undercutCells_33 (v := nI ((ucS (fun k => f ((p - 1 - k) * 12 + i)) p).2 + (ucS (fun k => f ((p + k) * 12 + i)) (9 - p)).2)) (nI_add _ _) ?_
          refine r_iadd d_Pa_undercutCells_34 (v := nI ((ucT f p i) + ((ucS (fun k => f ((p - 1 - k) * 12 + i)) p).2 + (ucS (fun k => f ((p + k) * 12 + i)) (9 - p)).2))) (nI_add _ _) ?_
          refine r_istore_n (lv' := [(1, .int (nI ((ucT f p i) + ((ucS (fun k => f ((p - 1 - k) * 12 + i)) p).2 + (ucS (fun k => f ((p + k) * 12 + i)) (9 - p)).2)))), (2, .int (nI i)), (0, .ref a)]) d_Pa_undercutCells_35 rfl (by decide) rfl ?_
          refine r_iinc (lv' := [(2, .int (nI (i + 1))), (1, .int (nI ((ucT f p i) + ((ucS (fun k => f ((p - 1 - k) * 12 + i)) p).2 + (ucS (fun k => f ((p + k) * 12 + i)) (9 - p)).2)))), (0, .ref a)]) (v := nI (i + 1)) d_Pa_undercutCells_36 (j := 1) rfl (nI_add _ _) (by decide) rfl ?_
          refine r_goto (tgt := 4) d_Pa_undercutCells_39 (by decide) ?_
          refine r_lvE (lv2 := [(2, .int (nI (i + 1))), (1, .int (nI (ucT f p (i + 1)))), (0, .ref a)]) (rfl) ?_
          refine r_cs (cs2 := [(a, .inr (8, [.ref a1, .ref a2, .ref a3, .int (nI p)])), (a1, .inl (1, 108, .inl f)), (a2, .inl (2, 108, .inl sn)), (a3, .inl (0, 108, .inl qu))]) (rfl) ?_
          exact ih (i + 1) (by omega) (by omega)
set_option maxHeartbeats 4000000 in
set_option maxRecDepth 100000 in
theorem C_Pa_undercutCells (g : zG) (a a1 a2 a3 : Nat) (f sn qu : Nat → Int32) (p : Nat) (hp1 : 1 ≤ p) (hp : p < 9) : CT g M_Pa_undercutCells [.ref a] [(a, .inr (8, [.ref a1, .ref a2, .ref a3, .int (nI p)])), (a1, .inl (1, 108, .inl f)), (a2, .inl (2, 108, .inl sn)), (a3, .inl (0, 108, .inl qu))] (fun o cs1 => o = .inl (some (.int (nI (ucT f p 12)))) ∧ cs1 = [(a, .inr (8, [.ref a1, .ref a2, .ref a3, .int (nI p)])), (a1, .inl (1, 108, .inl f)), (a2, .inl (2, 108, .inl sn)), (a3, .inl (0, 108, .inl qu))]) 0 0 := by
  refine z_of (by decide) rfl (Nat.le_of_ble_eq_true rfl) (fun w0 => ?_)
  refine r_lvE (lv2 := [(0, .ref a)]) rfl ?_
  refine r_iconst d_Pa_undercutCells_0 (v := 0) (by decide) ?_
  refine r_istore_n (lv' := [(1, .int 0), (0, .ref a)]) d_Pa_undercutCells_1 rfl (by decide) rfl ?_
  refine r_iconst d_Pa_undercutCells_2 (v := 0) (by decide) ?_
  refine r_istore_n (lv' := [(2, .int 0), (1, .int 0), (0, .ref a)]) d_Pa_undercutCells_3 rfl (by decide) rfl ?_
  refine r_lvE (lv2 := [(2, .int (nI 0)), (1, .int (nI (ucT f p 0))), (0, .ref a)]) (rfl) ?_
  refine r_cs (cs2 := [(a, .inr (8, [.ref a1, .ref a2, .ref a3, .int (nI p)])), (a1, .inl (1, 108, .inl f)), (a2, .inl (2, 108, .inl sn)), (a3, .inl (0, 108, .inl qu))]) (rfl) ?_
  exact L_Pa_undercutCells_4 g a a1 a2 a3 f sn qu p hp1 hp w0 _  (12 + 1) 0 (Nat.zero_le _) (by omega)
end
