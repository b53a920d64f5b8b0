theorem C_Pa_besideSand (g : zG) (a a1 a2 a3 : Nat) (f sn : Nat → Int32) (qn : Nat → Nat) (part : Int32) (st : Nat) (hst : st < 108) : CT g M_Pa_cellsBesideSand [.ref a, .int (nI st)] [(a, .inr (8, [.ref a1, .ref a2, .ref a3, .int part])), (a1, .inl (1, 108, .inl f)), (a2, .inl (2, 108, .inl sn)), (a3, .inl (0, 108, .inl (fun k => nI (qn k))))] (fun o cs1 => o = .inl (some (.int (nI (bgB f sn qn st).2))) ∧ cs1 = [(a, .inr (8, [.ref a1, .ref a2, .ref a3, .int part])), (a1, .inl (1, 108, .inl f)), (a2, .inl (2, 108, .inl ((bgB f sn qn st).1.2.1))), (a3, .inl (0, 108, .inl (fun k => nI ((bgB f sn qn st).1.2.2 k))))]) 0 0 := by
  unfold bgB
  exact C_Pa_cellsBesideSand g a a1 a2 a3 f sn qn part st hst
abbrev M_Pa_groupsBarerThan : zM := (⟨"Ironpour$Pattern", "groupsBarerThan", "(I)I"⟩, prog_10_method_11_code, 4, (Option.some FieldType.int), 3, 68, [])
theorem d_Pa_groupsBarerThan_25 : decode prog_10_method_11_code 25 = .ok (.iload_n 3, 1) := zo_29 (zd_b zq_prog_10_method_11_code_0 25 rfl rfl rfl)
theorem d_Pa_groupsBarerThan_26 : decode prog_10_method_11_code 26 = .ok (.bipush 108, 2) := zo_16 (d := 108) (zd_b zq_prog_10_method_11_code_0 26 rfl rfl rfl) (zd_b zq_prog_10_method_11_code_0 27 rfl rfl rfl) (by decide +kernel)
theorem d_Pa_groupsBarerThan_28 : decode prog_10_method_11_code 28 = .ok (.if_icmp .ge 41, 3) := zo_162 (d := 0) (e := 41) (zd_b zq_prog_10_method_11_code_0 28 rfl rfl rfl) (zd_b zq_prog_10_method_11_code_0 29 rfl rfl rfl) (zd_b zq_prog_10_method_11_code_0 30 rfl rfl rfl) (by decide +kernel)
theorem d_Pa_groupsBarerThan_69 : decode prog_10_method_11_code 69 = .ok (.iload_n 2, 1) := zo_28 (zd_b zq_prog_10_method_11_code_2 5 rfl rfl rfl)
theorem d_Pa_groupsBarerThan_70 : decode prog_10_method_11_code 70 = .ok (.ireturn, 1) := zo_172 (zd_b zq_prog_10_method_11_code_2 6 rfl rfl rfl)
theorem d_Pa_groupsBarerThan_31 : decode prog_10_method_11_code 31 = .ok (.aload_n 0, 1) := zo_42 (zd_b zq_prog_10_method_11_code_0 31 rfl rfl rfl)
theorem d_Pa_groupsBarerThan_32 : decode prog_10_method_11_code 32 = .ok (.getfield 9, 3) := zo_180 (d := 0) (e := 9) (zd_b zq_prog_10_method_11_code_1 0 rfl rfl rfl) (zd_b zq_prog_10_method_11_code_1 1 rfl rfl rfl) (zd_b zq_prog_10_method_11_code_1 2 rfl rfl rfl)
theorem d_Pa_groupsBarerThan_35 : decode prog_10_method_11_code 35 = .ok (.iload_n 3, 1) := zo_29 (zd_b zq_prog_10_method_11_code_1 3 rfl rfl rfl)
theorem d_Pa_groupsBarerThan_36 : decode prog_10_method_11_code 36 = .ok (.caload, 1) := zo_52 (zd_b zq_prog_10_method_11_code_1 4 rfl rfl rfl)
theorem d_Pa_groupsBarerThan_37 : decode prog_10_method_11_code 37 = .ok (.bipush 111, 2) := zo_16 (d := 111) (zd_b zq_prog_10_method_11_code_1 5 rfl rfl rfl) (zd_b zq_prog_10_method_11_code_1 6 rfl rfl rfl) (by decide +kernel)
theorem d_Pa_groupsBarerThan_39 : decode prog_10_method_11_code 39 = .ok (.if_icmp .ne 24, 3) := zo_160 (d := 0) (e := 24) (zd_b zq_prog_10_method_11_code_1 7 rfl rfl rfl) (zd_b zq_prog_10_method_11_code_1 8 rfl rfl rfl) (zd_b zq_prog_10_method_11_code_1 9 rfl rfl rfl) (by decide +kernel)
theorem d_Pa_groupsBarerThan_63 : decode prog_10_method_11_code 63 = .ok (.iinc 3 1, 3) := by decide +kernel
theorem d_Pa_groupsBarerThan_66 : decode prog_10_method_11_code 66 = .ok (.goto (-41), 3) := zo_167 (d := 255) (e := 215) (zd_b zq_prog_10_method_11_code_2 2 rfl rfl rfl) (zd_b zq_prog_10_method_11_code_2 3 rfl rfl rfl) (zd_b zq_prog_10_method_11_code_2 4 rfl rfl rfl) (by decide +kernel)
theorem d_Pa_groupsBarerThan_42 : decode prog_10_method_11_code 42 = .ok (.aload_n 0, 1) := zo_42 (zd_b zq_prog_10_method_11_code_1 10 rfl rfl rfl)
theorem d_Pa_groupsBarerThan_43 : decode prog_10_method_11_code 43 = .ok (.getfield 15, 3) := zo_180 (d := 0) (e := 15) (zd_b zq_prog_10_method_11_code_1 11 rfl rfl rfl) (zd_b zq_prog_10_method_11_code_1 12 rfl rfl rfl) (zd_b zq_prog_10_method_11_code_1 13 rfl rfl rfl)
theorem d_Pa_groupsBarerThan_46 : decode prog_10_method_11_code 46 = .ok (.iload_n 3, 1) := zo_29 (zd_b zq_prog_10_method_11_code_1 14 rfl rfl rfl)
theorem d_Pa_groupsBarerThan_47 : decode prog_10_method_11_code 47 = .ok (.baload, 1) := zo_51 (zd_b zq_prog_10_method_11_code_1 15 rfl rfl rfl)
theorem d_Pa_groupsBarerThan_48 : decode prog_10_method_11_code 48 = .ok (.ifCond .ne 15, 3) := zo_154 (d := 0) (e := 15) (zd_b zq_prog_10_method_11_code_1 16 rfl rfl rfl) (zd_b zq_prog_10_method_11_code_1 17 rfl rfl rfl) (zd_b zq_prog_10_method_11_code_1 18 rfl rfl rfl) (by decide +kernel)
theorem d_Pa_groupsBarerThan_51 : decode prog_10_method_11_code 51 = .ok (.aload_n 0, 1) := zo_42 (zd_b zq_prog_10_method_11_code_1 19 rfl rfl rfl)
theorem d_Pa_groupsBarerThan_52 : decode prog_10_method_11_code 52 = .ok (.iload_n 3, 1) := zo_29 (zd_b zq_prog_10_method_11_code_1 20 rfl rfl rfl)
theorem d_Pa_groupsBarerThan_53 : decode prog_10_method_11_code 53 = .ok (.invokevirtual 49, 3) := zo_182 (d := 0) (e := 49) (zd_b zq_prog_10_method_11_code_1 21 rfl rfl rfl) (zd_b zq_prog_10_method_11_code_1 22 rfl rfl rfl) (zd_b zq_prog_10_method_11_code_1 23 rfl rfl rfl)
theorem ok_Pa_groupsBarerThan_Pa_cellsBesideSand : z_ok M_Pa_groupsBarerThan M_Pa_cellsBesideSand 1 := ⟨z_mj2 (i := 130) rfl (by decide +kernel), rfl, ⟨by decide +kernel, by decide +kernel, by decide +kernel⟩, ⟨by decide, by decide⟩, z_mj1 (i := 2) rfl (by decide +kernel), rfl⟩
theorem ln_Pa_49 : Cond.methodLink "Ironpour$Pattern" 49 M_Pa_cellsBesideSand.1 ∈ z_gw := z_mj2 (i := 127) rfl (by decide +kernel)
theorem w_im_Pa_cellsBesideSand : Cond.instanceMethod M_Pa_cellsBesideSand.1 ∈ z_gw := z_mj2 (i := 129) rfl (by decide +kernel)
theorem w_se_Pa_cellsBesideSand : Cond.selects M_Pa_cellsBesideSand.1.cls M_Pa_cellsBesideSand.1 M_Pa_cellsBesideSand.1 ∈ z_gw := z_mem (i := 2) (by decide +kernel) (by decide +kernel)
theorem d_Pa_groupsBarerThan_56 : decode prog_10_method_11_code 56 = .ok (.iload_n 1, 1) := zo_27 (zd_b zq_prog_10_method_11_code_1 24 rfl rfl rfl)
theorem d_Pa_groupsBarerThan_57 : decode prog_10_method_11_code 57 = .ok (.if_icmp .ge 6, 3) := zo_162 (d := 0) (e := 6) (zd_b zq_prog_10_method_11_code_1 25 rfl rfl rfl) (zd_b zq_prog_10_method_11_code_1 26 rfl rfl rfl) (zd_b zq_prog_10_method_11_code_1 27 rfl rfl rfl) (by decide +kernel)
theorem d_Pa_groupsBarerThan_60 : decode prog_10_method_11_code 60 = .ok (.iinc 2 1, 3) := by decide +kernel
theorem d_Pa_groupsBarerThan_2 : decode prog_10_method_11_code 2 = .ok (.iload_n 2, 1) := zo_28 (zd_b zq_prog_10_method_11_code_0 2 rfl rfl rfl)
theorem d_Pa_groupsBarerThan_3 : decode prog_10_method_11_code 3 = .ok (.bipush 108, 2) := zo_16 (d := 108) (zd_b zq_prog_10_method_11_code_0 3 rfl rfl rfl) (zd_b zq_prog_10_method_11_code_0 4 rfl rfl rfl) (by decide +kernel)
theorem d_Pa_groupsBarerThan_5 : decode prog_10_method_11_code 5 = .ok (.if_icmp .ge 16, 3) := zo_162 (d := 0) (e := 16) (zd_b zq_prog_10_method_11_code_0 5 rfl rfl rfl) (zd_b zq_prog_10_method_11_code_0 6 rfl rfl rfl) (zd_b zq_prog_10_method_11_code_0 7 rfl rfl rfl) (by decide +kernel)
theorem d_Pa_groupsBarerThan_21 : decode prog_10_method_11_code 21 = .ok (.iconst 0, 1) := zo_3 (zd_b zq_prog_10_method_11_code_0 21 rfl rfl rfl)
theorem d_Pa_groupsBarerThan_22 : decode prog_10_method_11_code 22 = .ok (.istore_n 2, 1) := zo_61 (zd_b zq_prog_10_method_11_code_0 22 rfl rfl rfl)
theorem d_Pa_groupsBarerThan_23 : decode prog_10_method_11_code 23 = .ok (.iconst 0, 1) := zo_3 (zd_b zq_prog_10_method_11_code_0 23 rfl rfl rfl)
theorem d_Pa_groupsBarerThan_24 : decode prog_10_method_11_code 24 = .ok (.istore_n 3, 1) := zo_62 (zd_b zq_prog_10_method_11_code_0 24 rfl rfl rfl)
theorem d_Pa_groupsBarerThan_8 : decode prog_10_method_11_code 8 = .ok (.aload_n 0, 1) := zo_42 (zd_b zq_prog_10_method_11_code_0 8 rfl rfl rfl)
theorem d_Pa_groupsBarerThan_9 : decode prog_10_method_11_code 9 = .ok (.getfield 15, 3) := zo_180 (d := 0) (e := 15) (zd_b zq_prog_10_method_11_code_0 9 rfl rfl rfl) (zd_b zq_prog_10_method_11_code_0 10 rfl rfl rfl) (zd_b zq_prog_10_method_11_code_0 11 rfl rfl rfl)
theorem d_Pa_groupsBarerThan_12 : decode prog_10_method_11_code 12 = .ok (.iload_n 2, 1) := zo_28 (zd_b zq_prog_10_method_11_code_0 12 rfl rfl rfl)
theorem d_Pa_groupsBarerThan_13 : decode prog_10_method_11_code 13 = .ok (.iconst 0, 1) := zo_3 (zd_b zq_prog_10_method_11_code_0 13 rfl rfl rfl)
theorem d_Pa_groupsBarerThan_14 : decode prog_10_method_11_code 14 = .ok (.bastore, 1) := zo_84 (zd_b zq_prog_10_method_11_code_0 14 rfl rfl rfl)
theorem d_Pa_groupsBarerThan_15 : decode prog_10_method_11_code 15 = .ok (.iinc 2 1, 3) := by decide +kernel
theorem d_Pa_groupsBarerThan_18 : decode prog_10_method_11_code 18 = .ok (.goto (-16), 3) := zo_167 (d := 255) (e := 240) (zd_b zq_prog_10_method_11_code_0 18 rfl rfl rfl) (zd_b zq_prog_10_method_11_code_0 19 rfl rfl rfl) (zd_b zq_prog_10_method_11_code_0 20 rfl rfl rfl) (by decide +kernel)
theorem d_Pa_groupsBarerThan_0 : decode prog_10_method_11_code 0 = .ok (.iconst 0, 1) := zo_3 (zd_b zq_prog_10_method_11_code_0 0 rfl rfl rfl)
theorem d_Pa_groupsBarerThan_1 : decode prog_10_method_11_code 1 = .ok (.istore_n 2, 1) := zo_61 (zd_b zq_prog_10_method_11_code_0 1 rfl rfl rfl)
set_option maxHeartbeats 4000000 in
set_option maxRecDepth 100000 in
theorem L_Pa_groupsBarerThan_25 (g : zG) (a a1 a2 a3 : Nat) (f sn : Nat → Int32) (qn : Nat → Nat) (part : Int32) (m : Nat) (hm : m < 1000) (w0 : zW) (n : Nat) : ∀ (d i : Nat), i ≤ 108 → 108 < i + d → DV g M_Pa_groupsBarerThan (fun o cs1 => o = .inl (some (.int (nI (grS f m (fa_fill (fun _ => 0) sn 108, qn, 0) 108).2.2))) ∧ cs1 = [(a, .inr (8, [.ref a1, .ref a2, .ref a3, .int part])), (a1, .inl (1, 108, .inl f)), (a2, .inl (2, 108, .inl ((grS f m (fa_fill (fun _ => 0) sn 108, qn, 0) 108).1))), (a3, .inl (0, 108, .inl (fun k => nI ((grS f m (fa_fill (fun _ => 0) sn 108, qn, 0) 108).2.1 k))))]) w0 n 25 [(3, .int (nI i)), (2, .int (nI (grS f m (fa_fill (fun _ => 0) sn 108, qn, 0) i).2.2)), (0, .ref a), (1, .int (nI m))] [] [(a, .inr (8, [.ref a1, .ref a2, .ref a3, .int part])), (a1, .inl (1, 108, .inl f)), (a2, .inl (2, 108, .inl ((grS f m (fa_fill (fun _ => 0) sn 108, qn, 0) i).1))), (a3, .inl (0, 108, .inl (fun k => nI ((grS f m (fa_fill (fun _ => 0) sn 108, qn, 0) i).2.1 k))))] 0 0 := by
  intro d
  induction d with
  | zero => intro i h1 h2 ; exact absurd h2 (by omega)
  | succ d ih =>
    intro i h1 h2 
    refine r_iload_n d_Pa_groupsBarerThan_25 rfl 0 rfl ?_
    refine r_bipush d_Pa_groupsBarerThan_26 (v := 108) (by decide) ?_
    refine r_icmp_ge (tgt := 69) d_Pa_groupsBarerThan_28 (by decide) (fun c_28 => ?_) (fun c_28 => ?_)
    · have hn := z_le (a := 108) (by omega) (by decide) c_28
      obtain rfl : i = 108 := by omega
      refine r_iload_n d_Pa_groupsBarerThan_69 rfl 1 rfl ?_
      refine r_iret d_Pa_groupsBarerThan_70 rfl rfl ?_
      exact ⟨rfl, rfl⟩
    · have hn := z_nle (a := 108) (by omega) (by decide) c_28
      refine r_aload_n d_Pa_groupsBarerThan_31 rfl 2 rfl ?_
      refine r_get fs_Pa_9 d_Pa_groupsBarerThan_32 (q0 := 0) rfl rfl ?_
      refine r_iload_n d_Pa_groupsBarerThan_35 rfl 0 rfl ?_
      refine r_cald d_Pa_groupsBarerThan_36 (q0 := 1) rfl (vp_in_nI (by omega) (by omega)) (v := f i) (by rw [nI_clamp (by omega)]) ?_
      refine r_bipush d_Pa_groupsBarerThan_37 (v := 111) (by decide) ?_
      refine r_icmp_ne (tgt := 63) d_Pa_groupsBarerThan_39 (by decide) (fun c_39 => ?_) (fun c_39 => ?_)
      · have hk := grS_f (m := m) (S0 := (fa_fill (fun _ => 0) sn 108, qn, 0)) (fun q => c_39 q.1)
        refine r_iinc (lv' := [(3, .int (nI (i + 1))), (2, .int (nI (grS f m (fa_fill (fun _ => 0) sn 108, qn, 0) i).2.2)), (0, .ref a), (1, .int (nI m))]) (v := nI (i + 1)) d_Pa_groupsBarerThan_63 (j := 0) rfl (nI_add _ _) (by decide) rfl ?_
        refine r_goto (tgt := 25) d_Pa_groupsBarerThan_66 (by decide) ?_
        refine r_lvE (lv2 := [(3, .int (nI (i + 1))), (2, .int (nI (grS f m (fa_fill (fun _ => 0) sn 108, qn, 0) (i + 1)).2.2)), (0, .ref a), (1, .int (nI m))]) (by rw [hk] <;> rfl) ?_
        refine r_cs (cs2 := [(a, .inr (8, [.ref a1, .ref a2, .ref a3, .int part])), (a1, .inl (1, 108, .inl f)), (a2, .inl (2, 108, .inl ((grS f m (fa_fill (fun _ => 0) sn 108, qn, 0) (i + 1)).1))), (a3, .inl (0, 108, .inl (fun k => nI ((grS f m (fa_fill (fun _ => 0) sn 108, qn, 0) (i + 1)).2.1 k))))]) (by rw [hk] <;> rfl) ?_
        exact ih (i + 1) (by omega) (by omega)
      · refine r_aload_n d_Pa_groupsBarerThan_42 rfl 2 rfl ?_
        refine r_get fs_Pa_15 d_Pa_groupsBarerThan_43 (q0 := 0) rfl rfl ?_
        refine r_iload_n d_Pa_groupsBarerThan_46 rfl 0 rfl ?_
        refine r_zald d_Pa_groupsBarerThan_47 (q0 := 2) rfl (vp_in_nI (by omega) (by omega)) (v := ((grS f m (fa_fill (fun _ => 0) sn 108, qn, 0) i).1) i) (by rw [nI_clamp (by omega)]) ?_
        refine r_if_ne (tgt := 63) d_Pa_groupsBarerThan_48 (by decide) (fun c_48 => ?_) (fun c_48 => ?_)
        · have hk := grS_f (m := m) (S0 := (fa_fill (fun _ => 0) sn 108, qn, 0)) (fun q => c_48 q.2)
          refine r_iinc (lv' := [(3, .int (nI (i + 1))), (2, .int (nI (grS f m (fa_fill (fun _ => 0) sn 108, qn, 0) i).2.2)), (0, .ref a), (1, .int (nI m))]) (v := nI (i + 1)) d_Pa_groupsBarerThan_63 (j := 0) rfl (nI_add _ _) (by decide) rfl ?_
          refine r_goto (tgt := 25) d_Pa_groupsBarerThan_66 (by decide) ?_
          refine r_lvE (lv2 := [(3, .int (nI (i + 1))), (2, .int (nI (grS f m (fa_fill (fun _ => 0) sn 108, qn, 0) (i + 1)).2.2)), (0, .ref a), (1, .int (nI m))]) (by rw [hk] <;> rfl) ?_
          refine r_cs (cs2 := [(a, .inr (8, [.ref a1, .ref a2, .ref a3, .int part])), (a1, .inl (1, 108, .inl f)), (a2, .inl (2, 108, .inl ((grS f m (fa_fill (fun _ => 0) sn 108, qn, 0) (i + 1)).1))), (a3, .inl (0, 108, .inl (fun k => nI ((grS f m (fa_fill (fun _ => 0) sn 108, qn, 0) (i + 1)).2.1 k))))]) (by rw [hk] <;> rfl) ?_
          exact ih (i + 1) (by omega) (by omega)
        · have hle := bgB_le (f := f) (sn := (grS f m (fa_fill (fun _ => 0) sn 108, qn, 0) i).1) (qn := (grS f m (fa_fill (fun _ => 0) sn 108, qn, 0) i).2.1) (st := i)
          refine r_aload_n d_Pa_groupsBarerThan_51 rfl 2 rfl ?_
          refine r_iload_n d_Pa_groupsBarerThan_52 rfl 0 rfl ?_
          refine r_callV (As := [.int (nI i)]) (rest := []) (csC := [(a, .inr (8, [.ref a1, .ref a2, .ref a3, .int part])), (a1, .inl (1, 108, .inl f)), (a2, .inl (2, 108, .inl ((grS f m (fa_fill (fun _ => 0) sn 108, qn, 0) i).1))), (a3, .inl (0, 108, .inl (fun k => nI ((grS f m (fa_fill (fun _ => 0) sn 108, qn, 0) i).2.1 k))))]) (is := [0, 1, 2, 3]) (q0 := 0) rfl rfl ln_Pa_49 w_im_Pa_cellsBesideSand w_se_Pa_cellsBesideSand ok_Pa_groupsBarerThan_Pa_cellsBesideSand d_Pa_groupsBarerThan_53 (C_Pa_besideSand g a a1 a2 a3 f (grS f m (fa_fill (fun _ => 0) sn 108, qn, 0) i).1 (grS f m (fa_fill (fun _ => 0) sn 108, qn, 0) i).2.1 part i (by omega)) rfl rfl (Nat.le_of_ble_eq_true rfl) rfl (by decide) (by omega) (by omega) (fun E cs1 hx => ?_) (fun v cs1 hx => ?_)
          · exact absurd hx.1 (by simp)
          · obtain ⟨e1, rfl⟩ := hx
            cases e1
            refine ⟨rfl, ?_⟩
            refine r_st (st2 := [.int (nI (bgB f (grS f m (fa_fill (fun _ => 0) sn 108, qn, 0) i).1 (grS f m (fa_fill (fun _ => 0) sn 108, qn, 0) i).2.1 i).2)]) rfl ?_
            refine r_cs (cs2 := [(a, .inr (8, [.ref a1, .ref a2, .ref a3, .int part])), (a1, .inl (1, 108, .inl f)), (a2, .inl (2, 108, .inl ((bgB f (grS f m (fa_fill (fun _ => 0) sn 108, qn, 0) i).1 (grS f m (fa_fill (fun _ => 0) sn 108, qn, 0) i).2.1 i).1.2.1))), (a3, .inl (0, 108, .inl (fun k => nI ((bgB f (grS f m (fa_fill (fun _ => 0) sn 108, qn, 0) i).1 (grS f m (fa_fill (fun _ => 0) sn 108, qn, 0) i).2.1 i).1.2.2 k))))]) rfl ?_
            refine r_iload_n d_Pa_groupsBarerThan_56 rfl 3 rfl ?_
            refine r_icmp_ge (tgt := 63) d_Pa_groupsBarerThan_57 (by decide) (fun c_57 => ?_) (fun c_57 => ?_)
            · have hk := grS_n (S0 := (fa_fill (fun _ => 0) sn 108, qn, 0)) ⟨c_39, c_48⟩ (Nat.not_lt.mpr (z_le (by omega) (by omega) c_57))
              refine r_iinc (lv' := [(3, .int (nI (i + 1))), (2, .int (nI (grS f m (fa_fill (fun _ => 0) sn 108, qn, 0) i).2.2)), (0, .ref a), (1, .int (nI m))]) (v := nI (i + 1)) d_Pa_groupsBarerThan_63 (j := 0) rfl (nI_add _ _) (by decide) rfl ?_
              refine r_goto (tgt := 25) d_Pa_groupsBarerThan_66 (by decide) ?_
              refine r_lvE (lv2 := [(3, .int (nI (i + 1))), (2, .int (nI (grS f m (fa_fill (fun _ => 0) sn 108, qn, 0) (i + 1)).2.2)), (0, .ref a), (1, .int (nI m))]) (by rw [hk] <;> rfl) ?_
              refine r_cs (cs2 := [(a, .inr (8, [.ref a1, .ref a2, .ref a3, .int part])), (a1, .inl (1, 108, .inl f)), (a2, .inl (2, 108, .inl ((grS f m (fa_fill (fun _ => 0) sn 108, qn, 0) (i + 1)).1))), (a3, .inl (0, 108, .inl (fun k => nI ((grS f m (fa_fill (fun _ => 0) sn 108, qn, 0) (i + 1)).2.1 k))))]) (by rw [hk] <;> rfl) ?_
              exact ih (i + 1) (by omega) (by omega)
            · have hk := grS_t (S0 := (fa_fill (fun _ => 0) sn 108, qn, 0)) ⟨c_39, c_48⟩ (z_nle (by omega) (by omega) c_57)
              refine r_iinc (lv' := [(2, .int (nI ((grS f m (fa_fill (fun _ => 0) sn 108, qn, 0) i).2.2 + 1))), (3, .int (nI i)), (0, .ref a), (1, .int (nI m))]) (v := nI ((grS f m (fa_fill (fun _ => 0) sn 108, qn, 0) i).2.2 + 1)) d_Pa_groupsBarerThan_60 (j := 1) rfl (nI_add _ _) (by decide) rfl ?_
              refine r_iinc (lv' := [(3, .int (nI (i + 1))), (2, .int (nI ((grS f m (fa_fill (fun _ => 0) sn 108, qn, 0) i).2.2 + 1))), (0, .ref a), (1, .int (nI m))]) (v := nI (i + 1)) d_Pa_groupsBarerThan_63 (j := 1) rfl (nI_add _ _) (by decide) rfl ?_
              refine r_goto (tgt := 25) d_Pa_groupsBarerThan_66 (by decide) ?_
              refine r_lvE (lv2 := [(3, .int (nI (i + 1))), (2, .int (nI (grS f m (fa_fill (fun _ => 0) sn 108, qn, 0) (i + 1)).2.2)), (0, .ref a), (1, .int (nI m))]) (by rw [hk] <;> rfl) ?_
              refine r_cs (cs2 := [(a, .inr (8, [.ref a1, .ref a2, .ref a3, .int part])), (a1, .inl (1, 108, .inl f)), (a2, .inl (2, 108, .inl ((grS f m (fa_fill (fun _ => 0) sn 108, qn, 0) (i + 1)).1))), (a3, .inl (0, 108, .inl (fun k => nI ((grS f m (fa_fill (fun _ => 0) sn 108, qn, 0) (i + 1)).2.1 k))))]) (by rw [hk] <;> rfl) ?_
              exact ih (i + 1) (by omega) (by omega)
set_option maxHeartbeats 4000000 in
set_option maxRecDepth 100000 in
theorem L_Pa_groupsBarerThan_2 (g : zG) (a a1 a2 a3 : Nat) (f sn : Nat → Int32) (qn : Nat → Nat) (part : Int32) (m : Nat) (hm : m < 1000) (w0 : zW) (n : Nat) : ∀ (d i : Nat), i ≤ 108 → 108 < i + d → DV g M_Pa_groupsBarerThan (fun o cs1 => o = .inl (some (.int (nI (grS f m (fa_fill (fun _ => 0) sn 108, qn, 0) 108).2.2))) ∧ cs1 = [(a, .inr (8, [.ref a1, .ref a2, .ref a3, .int part])), (a1, .inl (1, 108, .inl f)), (a2, .inl (2, 108, .inl ((grS f m (fa_fill (fun _ => 0) sn 108, qn, 0) 108).1))), (a3, .inl (0, 108, .inl (fun k => nI ((grS f m (fa_fill (fun _ => 0) sn 108, qn, 0) 108).2.1 k))))]) w0 n 2 [(2, .int (nI i)), (0, .ref a), (1, .int (nI m))] [] [(a, .inr (8, [.ref a1, .ref a2, .ref a3, .int part])), (a1, .inl (1, 108, .inl f)), (a2, .inl (2, 108, .inl (fa_fill (fun _ => 0) sn i))), (a3, .inl (0, 108, .inl (fun k => nI (qn k))))] 0 0 := by
  intro d
  induction d with
  | zero => intro i h1 h2 ; exact absurd h2 (by omega)
  | succ d ih =>
    intro i h1 h2 
    refine r_iload_n d_Pa_groupsBarerThan_2 rfl 0 rfl ?_
    refine r_bipush d_Pa_groupsBarerThan_3 (v := 108) (by decide) ?_
    refine r_icmp_ge (tgt := 21) d_Pa_groupsBarerThan_5 (by decide) (fun c_5 => ?_) (fun c_5 => ?_)
    · have hn := z_le (a := 108) (by omega) (by decide) c_5
      obtain rfl : i = 108 := by omega
      refine r_iconst d_Pa_groupsBarerThan_21 (v := 0) (by decide) ?_
      refine r_istore_n (lv' := [(2, .int 0), (0, .ref a), (1, .int (nI m))]) d_Pa_groupsBarerThan_22 rfl (by decide) rfl ?_
      refine r_iconst d_Pa_groupsBarerThan_23 (v := 0) (by decide) ?_
      refine r_istore_n (lv' := [(3, .int 0), (2, .int 0), (0, .ref a), (1, .int (nI m))]) d_Pa_groupsBarerThan_24 rfl (by decide) rfl ?_
      refine r_lvE (lv2 := [(3, .int (nI 0)), (2, .int (nI (grS f m (fa_fill (fun _ => 0) sn 108, qn, 0) 0).2.2)), (0, .ref a), (1, .int (nI m))]) (rfl) ?_
      refine r_cs (cs2 := [(a, .inr (8, [.ref a1, .ref a2, .ref a3, .int part])), (a1, .inl (1, 108, .inl f)), (a2, .inl (2, 108, .inl ((grS f m (fa_fill (fun _ => 0) sn 108, qn, 0) 0).1))), (a3, .inl (0, 108, .inl (fun k => nI ((grS f m (fa_fill (fun _ => 0) sn 108, qn, 0) 0).2.1 k))))]) (rfl) ?_
      exact L_Pa_groupsBarerThan_25 g a a1 a2 a3 f sn qn part m hm w0 _  (108 + 1) 0 (Nat.zero_le _) (by omega)
    · have hn := z_nle (a := 108) (by omega) (by decide) c_5
      refine r_aload_n d_Pa_groupsBarerThan_8 rfl 1 rfl ?_
      refine r_get fs_Pa_15 d_Pa_groupsBarerThan_9 (q0 := 0) rfl rfl ?_
      refine r_iload_n d_Pa_groupsBarerThan_12 rfl 0 rfl ?_
      refine r_iconst d_Pa_groupsBarerThan_13 (v := 0) (by decide) ?_
      refine r_zast d_Pa_groupsBarerThan_14 (q0 := 2) rfl (vp_in_nI (by omega) (by omega)) (f' := fa_fill (fun _ => 0) sn (i + 1)) (by rw [nI_clamp (by omega)]; exact fill_nI 0 sn i) (cs' := [(a, .inr (8, [.ref a1, .ref a2, .ref a3, .int part])), (a1, .inl (1, 108, .inl f)), (a2, .inl (2, 108, .inl (fa_fill (fun _ => 0) sn (i + 1)))), (a3, .inl (0, 108, .inl (fun k => nI (qn k))))]) rfl ?_
      refine r_iinc (lv' := [(2, .int (nI (i + 1))), (0, .ref a), (1, .int (nI m))]) (v := nI (i + 1)) d_Pa_groupsBarerThan_15 (j := 0) rfl (nI_add _ _) (by decide) rfl ?_
      refine r_goto (tgt := 2) d_Pa_groupsBarerThan_18 (by decide) ?_
      refine r_lvE (lv2 := [(2, .int (nI (i + 1))), (0, .ref a), (1, .int (nI m))]) (rfl) ?_
      refine r_cs (cs2 := [(a, .inr (8, [.ref a1, .ref a2, .ref a3, .int part])), (a1, .inl (1, 108, .inl f)), (a2, .inl (2, 108, .inl (fa_fill (fun _ => 0) sn (i + 1)))), (a3, .inl (0, 108, .inl (fun k => nI (qn k))))]) (rfl) ?_
      exact ih (i + 1) (by omega) (by omega)
set_option maxHeartbeats 4000000 in
set_option maxRecDepth 100000 in
theorem C_Pa_groupsBarerThan (g : zG) (a a1 a2 a3 : Nat) (f sn : Nat → Int32) (qn : Nat → Nat) (part : Int32) (m : Nat) (hm : m < 1000) : CT g M_Pa_groupsBarerThan [.ref a, .int (nI m)] [(a, .inr (8, [.ref a1, .ref a2, .ref a3, .int part])), (a1, .inl (1, 108, .inl f)), (a2, .inl (2, 108, .inl sn)), (a3, .inl (0, 108, .inl (fun k => nI (qn k))))] (fun o cs1 => o = .inl (some (.int (nI (grS f m (fa_fill (fun _ => 0) sn 108, qn, 0) 108).2.2))) ∧ cs1 = [(a, .inr (8, [.ref a1, .ref a2, .ref a3, .int part])), (a1, .inl (1, 108, .inl f)), (a2, .inl (2, 108, .inl ((grS f m (fa_fill (fun _ => 0) sn 108, qn, 0) 108).1))), (a3, .inl (0, 108, .inl (fun k => nI ((grS f m (fa_fill (fun _ => 0) sn 108, qn, 0) 108).2.1 k))))]) 0 0 := by
  refine z_of (by decide) rfl (Nat.le_of_ble_eq_true rfl) (fun w0 => ?_)
  refine r_lvE (lv2 := [(0, .ref a), (1, .int (nI m))]) rfl ?_
  refine r_iconst d_Pa_groupsBarerThan_0 (v := 0) (by decide) ?_
  refine r_istore_n (lv' := [(2, .int 0), (0, .ref a), (1, .int (nI m))]) d_Pa_groupsBarerThan_1 rfl (by decide) rfl ?_
  refine r_lvE (lv2 := [(2, .int (nI 0)), (0, .ref a), (1, .int (nI m))]) (rfl) ?_
  refine r_cs (cs2 := [(a, .inr (8, [.ref a1, .ref a2, .ref a3, .int part])), (a1, .inl (1, 108, .inl f)), (a2, .inl (2, 108, .inl (fa_fill (fun _ => 0) sn 0))), (a3, .inl (0, 108, .inl (fun k => nI (qn k))))]) (rfl) ?_
  exact L_Pa_groupsBarerThan_2 g a a1 a2 a3 f sn qn part m hm w0 _  (108 + 1) 0 (Nat.zero_le _) (by omega)
abbrev M_Pa_coreGroups : zM := (⟨"Ironpour$Pattern", "coreGroups", "()I"⟩, prog_10_method_9_code, 1, (Option.some FieldType.int), 4, 91, [])
theorem d_Pa_coreGroups_0 : decode prog_10_method_9_code 0 = .ok (.aload_n 0, 1) := zo_42 (zd_b zq_prog_10_method_9_code_0 0 rfl rfl rfl)
theorem d_Pa_coreGroups_1 : decode prog_10_method_9_code 1 = .ok (.bipush 109, 2) := zo_16 (d := 109) (zd_b zq_prog_10_method_9_code_0 1 rfl rfl rfl) (zd_b zq_prog_10_method_9_code_0 2 rfl rfl rfl) (by decide +kernel)
theorem d_Pa_coreGroups_3 : decode prog_10_method_9_code 3 = .ok (.invokevirtual 45, 3) := zo_182 (d := 0) (e := 45) (zd_b zq_prog_10_method_9_code_0 3 rfl rfl rfl) (zd_b zq_prog_10_method_9_code_0 4 rfl rfl rfl) (zd_b zq_prog_10_method_9_code_0 5 rfl rfl rfl)
theorem ok_Pa_coreGroups_Pa_groupsBarerThan : z_ok M_Pa_coreGroups M_Pa_groupsBarerThan 1 := ⟨z_mj2 (i := 126) rfl (by decide +kernel), rfl, ⟨by decide +kernel, by decide +kernel, by decide +kernel⟩, ⟨by decide, by decide⟩, z_mj1 (i := 2) rfl (by decide +kernel), rfl⟩
theorem ln_Pa_45 : Cond.methodLink "Ironpour$Pattern" 45 M_Pa_groupsBarerThan.1 ∈ z_gw := z_mj2 (i := 123) rfl (by decide +kernel)
theorem w_im_Pa_groupsBarerThan : Cond.instanceMethod M_Pa_groupsBarerThan.1 ∈ z_gw := z_mj2 (i := 125) rfl (by decide +kernel)
theorem w_se_Pa_groupsBarerThan : Cond.selects M_Pa_groupsBarerThan.1.cls M_Pa_groupsBarerThan.1 M_Pa_groupsBarerThan.1 ∈ z_gw := z_mem (i := 1) (by decide +kernel) (by decide +kernel)
theorem d_Pa_coreGroups_6 : decode prog_10_method_9_code 6 = .ok (.ireturn, 1) := zo_172 (zd_b zq_prog_10_method_9_code_0 6 rfl rfl rfl)
set_option maxHeartbeats 4000000 in
set_option maxRecDepth 100000 in
theorem C_Pa_coreGroups (g : zG) (a a1 a2 a3 : Nat) (f sn : Nat → Int32) (qn : Nat → Nat) (part : Int32) : CT g M_Pa_coreGroups [.ref a] [(a, .inr (8, [.ref a1, .ref a2, .ref a3, .int part])), (a1, .inl (1, 108, .inl f)), (a2, .inl (2, 108, .inl sn)), (a3, .inl (0, 108, .inl (fun k => nI (qn k))))] (fun o cs1 => o = .inl (some (.int (nI (grS f 109 (fa_fill (fun _ => 0) sn 108, qn, 0) 108).2.2))) ∧ cs1 = [(a, .inr (8, [.ref a1, .ref a2, .ref a3, .int part])), (a1, .inl (1, 108, .inl f)), (a2, .inl (2, 108, .inl ((grS f 109 (fa_fill (fun _ => 0) sn 108, qn, 0) 108).1))), (a3, .inl (0, 108, .inl (fun k => nI ((grS f 109 (fa_fill (fun _ => 0) sn 108, qn, 0) 108).2.1 k))))]) 0 0 := by
  refine z_of (by decide) rfl (Nat.le_of_ble_eq_true rfl) (fun w0 => ?_)
  refine r_lvE (lv2 := [(0, .ref a)]) rfl ?_
  refine r_aload_n d_Pa_coreGroups_0 rfl 0 rfl ?_
  refine r_bipush d_Pa_coreGroups_1 (v := 109) (by decide) ?_
  refine r_callV (As := [.int 109]) (rest := []) (csC := [(a, .inr (8, [.ref a1, .ref a2, .ref a3, .int part])), (a1, .inl (1, 108, .inl f)), (a2, .inl (2, 108, .inl sn)), (a3, .inl (0, 108, .inl (fun k => nI (qn k))))]) (is := [0, 1, 2, 3]) (q0 := 0) rfl rfl ln_Pa_45 w_im_Pa_groupsBarerThan w_se_Pa_groupsBarerThan ok_Pa_coreGroups_Pa_groupsBarerThan d_Pa_coreGroups_3 (C_Pa_groupsBarerThan g a a1 a2 a3 f sn qn part 109 (by decide)) rfl rfl (Nat.le_of_ble_eq_true rfl) rfl (by decide) (by omega) (by omega) (fun E cs1 hx => ?_) (fun v cs1 hx => ?_)
  · exact absurd hx.1 (by simp)
  · obtain ⟨e1, rfl⟩ := hx
    cases e1
    refine ⟨rfl, ?_⟩
    refine r_st (st2 := [.int (nI (grS f 109 (fa_fill (fun _ => 0) sn 108, qn, 0) 108).2.2)]) rfl ?_
    refine r_cs (cs2 := [(a, .inr (8, [.ref a1, .ref a2, .ref a3, .int part])), (a1, .inl (1, 108, .inl f)), (a2, .inl (2, 108, .inl ((grS f 109 (fa_fill (fun _ => 0) sn 108, qn, 0) 108).1))), (a3, .inl (0, 108, .inl (fun k => nI ((grS f 109 (fa_fill (fun _ => 0) sn 108, qn, 0) 108).2.1 k))))]) rfl ?_
    refine r_iret d_Pa_coreGroups_6 rfl rfl ?_
    exact ⟨rfl, rfl⟩
abbrev M_Pa_looseGroups : zM := (⟨"Ironpour$Pattern", "looseGroups", "()I"⟩, prog_10_method_10_code, 1, (Option.some FieldType.int), 4, 91, [])
theorem d_Pa_looseGroups_0 : decode prog_10_method_10_code 0 = .ok (.aload_n 0, 1) := zo_42 (zd_b zq_prog_10_method_10_code_0 0 rfl rfl rfl)
theorem d_Pa_looseGroups_1 : decode prog_10_method_10_code 1 = .ok (.iconst 2, 1) := zo_5 (zd_b zq_prog_10_method_10_code_0 1 rfl rfl rfl)
theorem d_Pa_looseGroups_2 : decode prog_10_method_10_code 2 = .ok (.invokevirtual 45, 3) := zo_182 (d := 0) (e := 45) (zd_b zq_prog_10_method_10_code_0 2 rfl rfl rfl) (zd_b zq_prog_10_method_10_code_0 3 rfl rfl rfl) (zd_b zq_prog_10_method_10_code_0 4 rfl rfl rfl)
theorem ok_Pa_looseGroups_Pa_groupsBarerThan : z_ok M_Pa_looseGroups M_Pa_groupsBarerThan 1 := ⟨z_mj2 (i := 126) rfl (by decide +kernel), rfl, ⟨by decide +kernel, by decide +kernel, by decide +kernel⟩, ⟨by decide, by decide⟩, z_mj1 (i := 2) rfl (by decide +kernel), rfl⟩
theorem d_Pa_looseGroups_5 : decode prog_10_method_10_code 5 = .ok (.ireturn, 1) := zo_172 (zd_b zq_prog_10_method_10_code_0 5 rfl rfl rfl)
set_option maxHeartbeats 4000000 in
set_option maxRecDepth 100000 in
theorem C_Pa_looseGroups (g : zG) (a a1 a2 a3 : Nat) (f sn : Nat → Int32) (qn : Nat → Nat) (part : Int32) : CT g M_Pa_looseGroups [.ref a] [(a, .inr (8, [.ref a1, .ref a2, .ref a3, .int part])), (a1, .inl (1, 108, .inl f)), (a2, .inl (2, 108, .inl sn)), (a3, .inl (0, 108, .inl (fun k => nI (qn k))))] (fun o cs1 => o = .inl (some (.int (nI (grS f 2 (fa_fill (fun _ => 0) sn 108, qn, 0) 108).2.2))) ∧ cs1 = [(a, .inr (8, [.ref a1, .ref a2, .ref a3, .int part])), (a1, .inl (1, 108, .inl f)), (a2, .inl (2, 108, .inl ((grS f 2 (fa_fill (fun _ => 0) sn 108, qn, 0) 108).1))), (a3, .inl (0, 108, .inl (fun k => nI ((grS f 2 (fa_fill (fun _ => 0) sn 108, qn, 0) 108).2.1 k))))]) 0 0 := by
  refine z_of (by decide) rfl (Nat.le_of_ble_eq_true rfl) (fun w0 => ?_)
  refine r_lvE (lv2 := [(0, .ref a)]) rfl ?_
  refine r_aload_n d_Pa_looseGroups_0 rfl 0 rfl ?_
  refine r_iconst d_Pa_looseGroups_1 (v := 2) (by decide) ?_
  refine r_callV (As := [.int 2]) (rest := []) (csC := [(a, .inr (8, [.ref a1, .ref a2, .ref a3, .int part])), (a1, .inl (1, 108, .inl f)), (a2, .inl (2, 108, .inl sn)), (a3, .inl (0, 108, .inl (fun k => nI (qn k))))]) (is := [0, 1, 2, 3]) (q0 := 0) rfl rfl ln_Pa_45 w_im_Pa_groupsBarerThan w_se_Pa_groupsBarerThan ok_Pa_looseGroups_Pa_groupsBarerThan d_Pa_looseGroups_2 (C_Pa_groupsBarerThan g a a1 a2 a3 f sn qn part 2 (by decide)) rfl rfl (Nat.le_of_ble_eq_true rfl) rfl (by decide) (by omega) (by omega) (fun E cs1 hx => ?_) (fun v cs1 hx => ?_)
  · exact absurd hx.1 (by simp)
  · obtain ⟨e1, rfl⟩ := hx
    cases e1
    refine ⟨rfl, ?_⟩
    refine r_st (st2 := [.int (nI (grS f 2 (fa_fill (fun _ => 0) sn 108, qn, 0) 108).2.2)]) rfl ?_
    refine r_cs (cs2 := [(a, .inr (8, [.ref a1, .ref a2, .ref a3, .int part])), (a1, .inl (1, 108, .inl f)), (a2, .inl (2, 108, .inl ((grS f 2 (fa_fill (fun _ => 0) sn 108, qn, 0) 108).1))), (a3, .inl (0, 108, .inl (fun k => nI ((grS f 2 (fa_fill (fun _ => 0) sn 108, qn, 0) 108).2.1 k))))]) rfl ?_
    refine r_iret d_Pa_looseGroups_5 rfl rfl ?_
    exact ⟨rfl, rfl⟩
