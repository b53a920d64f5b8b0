def bdI (f : Nat → Int32) (p : Nat) : Int32 := if 0 < loN f ∨ 0 < ucT f p 12 then 1 else 0
theorem bd_01 {f : Nat → Int32} {p : Nat} : bdI f p = 0 ∨ bdI f p = 1 := by
  unfold bdI
  split
  · exact Or.inr rfl
  · exact Or.inl rfl
theorem moB_lo {f sn : Nat → Int32} {qn : Nat → Nat} {p : Nat} : moB f sn qn p = bdI f p := by
  unfold moB bdI
  rw [lo_c]
def moV (t : zTT) : zV := (fun z => ([rsR (t.1 2).1, bdI (t.1 2).1 ((t.1 1).2.2 0), S_GS_strength 0 ((t.1 31).1 0) ((t.1 31).1 1) ((t.1 31).1 2) ((t.1 31).1 3) ((t.1 31).1 4), S_GS_draught 0 ((t.1 31).1 0) ((t.1 31).1 1) ((t.1 31).1 2) ((t.1 31).1 3) ((t.1 31).1 4), (t.1 31).1 1, 0] : List Int32).getD z 0, fa_fill (t.1 2).1 (fun _ => 0) 108, fun _ => 0, fun _ => fa_cnt (fun k => tmB ((t.1 2).1 k)) 108)
def gdN (t : zTT) : Int32 := bx_sum (fun k => if gdB (t.1 34).1 (t.1 35).1 k then (t.1 33).1 k else 0) ((t.1 32).2.2 0)
def toT (t : zTT) : zL3 := dlS (tkS (t.1 33).1 (t.1 34).1 (t.1 35).1 (nI (coN (t.1 2).1)) ((t.1 32).2.2 0)).1 (t.1 34).1 (t.1 35).1 ((t.1 32).2.2 0)
def ufI (f : Nat → Int32) (m : Int32) : Nat → Int32 := upd (upd (upd (upd (upd f 0 (if 0 < f 0 - 3 then f 0 - 3 else 0)) 1 (if 0 < f 1 - 8 then f 1 - 8 else 0)) 2 (if 0 < f 2 - 4 then f 2 - 4 else 0)) 3 (if f 3 + 2 < 300 then f 3 + 2 else 300)) 4 (if (f 4 + 10) + (m / 4) < 300 then (f 4 + 10) + (m / 4) else 300)
def mdT (t : zTT) (n : Nat) : zTT := (zup (zup t.1 [(32, ((t.1 32).1, (t.1 32).2.1, (fun z => ([(toT t).1] : List Nat).getD z 0))), (33, ((toT t).2.1, (t.1 33).2)), (34, ((toT t).2.2.1, (t.1 34).2)), (35, ((toT t).2.2.2, (t.1 35).2))]) [(31, (ufI (t.1 31).1 (nI (fa_cnt (fun k => tmB ((t.1 2).1 k)) 108)), (t.1 31).2))], z_upL t.2 0 (z_apV (t.2 0) n (moV t)))
def amI (t : zTT) (vm : zV) : Int32 := if (t.1 43).1 0 < 2 * nI (vm.2.2.2 0) then (t.1 43).1 0 else 2 * nI (vm.2.2.2 0)
def cstT (t : zTT) (am : Int32) : zTT := (zup t.1 [(43, (upd (t.1 43).1 0 ((t.1 43).1 0 - am), (t.1 43).2)), (44, ((t.1 44).1, mvS (t.1 44).2.1 am ((t.1 43).1 0) 4, (t.1 44).2.2))], t.2)
noncomputable def caX (t : zTT) (vm : zV) (X : zTr) : zTr := frT ((t.1 42).1 0) (tkT vm.2.1 X)
noncomputable def caS (t : zTT) (vm : zV) (X : zTr) : Int32 := nI (fa_cnt (scP (caX t vm X).1.1 (caX t vm X).1.2.1 (caX t vm X).2.2.1) 108)
noncomputable def caC (t : zTT) (vm : zV) (X : zTr) : Bool := anB (icP (caX t vm X).1.1 (caX t vm X).1.2.1 ((t.1 42).1 0)) 108
def caG (t : zTT) (vm : zV) : Nat → Int64 := mvT (t.1 44).2.1 (amI t vm) ((t.1 43).1 0) (fun _ => 0) 4
def caH (t : zTT) (vm : zV) : Bool := ihB ((t.1 42).1 1) (caG t vm) (0 + amI t vm)
noncomputable def caF1 (t : zTT) (vm : zV) (X : zTr) : Int32 := if caS t vm X ≤ 0 then moF (vm.1 1) (vm.1 0) (vm.1 2) (vm.1 3) (vm.1 4) (vm.1 5) else moF (vm.1 1) (vm.1 0) (vm.1 2) (vm.1 3) (vm.1 4) (vm.1 5) ||| 1
noncomputable def caF2 (t : zTT) (vm : zV) (X : zTr) : Int32 := if amI t vm < 2 * nI (vm.2.2.2 0) ∨ caC t vm X = true then caF1 t vm X ||| 2 else caF1 t vm X
noncomputable def caF (t : zTT) (vm : zV) (X : zTr) : Int32 := if caH t vm = true then caF2 t vm X ||| 32 else caF2 t vm X
noncomputable def caV (t : zTT) (vm : zV) (X : zTr) (fb : Int32) : zV := (fun z => ([(t.1 42).1 1, caS t vm X, fb, 0, 0, 0 + amI t vm] : List Int32).getD z 0, fun _ => 0, caG t vm, fun _ => 0)
noncomputable def poT (t : zTT) (X : zTr) (n1 : Nat) : zTT := tls (cstT (tls t 0 (z_dlV (t.2 0) 0)) (amI t (t.2 0 0))) 1 (z_apV (t.2 1) n1 (caV t (t.2 0 0) X (caF t (t.2 0 0) X)))
theorem d_Ip_mould_31 : decode prog_1_method_35_code 31 = .ok (.aload_n 0, 1) := zo_42 (zd_b zq_prog_1_method_35_code_0 31 rfl rfl rfl)
theorem d_Ip_mould_32 : decode prog_1_method_35_code 32 = .ok (.getfield 10, 3) := zo_180 (d := 0) (e := 10) (zd_b zq_prog_1_method_35_code_1 0 rfl rfl rfl) (zd_b zq_prog_1_method_35_code_1 1 rfl rfl rfl) (zd_b zq_prog_1_method_35_code_1 2 rfl rfl rfl)
theorem d_Ip_mould_35 : decode prog_1_method_35_code 35 = .ok (.invokevirtual 128, 3) := zo_182 (d := 0) (e := 128) (zd_b zq_prog_1_method_35_code_1 3 rfl rfl rfl) (zd_b zq_prog_1_method_35_code_1 4 rfl rfl rfl) (zd_b zq_prog_1_method_35_code_1 5 rfl rfl rfl)
theorem ok_Ip_mould_Pa_coreGroups : z_ok M_Ip_mould M_Pa_coreGroups 0 := ⟨z_mj2 (i := 122) rfl (by decide +kernel), rfl, ⟨by decide +kernel, by decide +kernel, by decide +kernel⟩, ⟨by decide, by decide⟩, z_mj1 (i := 2) rfl (by decide +kernel), rfl⟩
theorem d_Ip_mould_38 : decode prog_1_method_35_code 38 = .ok (.istore_n 1, 1) := zo_60 (zd_b zq_prog_1_method_35_code_1 6 rfl rfl rfl)
theorem d_Ip_mould_39 : decode prog_1_method_35_code 39 = .ok (.aload_n 0, 1) := zo_42 (zd_b zq_prog_1_method_35_code_1 7 rfl rfl rfl)
theorem d_Ip_mould_40 : decode prog_1_method_35_code 40 = .ok (.getfield 36, 3) := zo_180 (d := 0) (e := 36) (zd_b zq_prog_1_method_35_code_1 8 rfl rfl rfl) (zd_b zq_prog_1_method_35_code_1 9 rfl rfl rfl) (zd_b zq_prog_1_method_35_code_1 10 rfl rfl rfl)
theorem d_Ip_mould_43 : decode prog_1_method_35_code 43 = .ok (.invokevirtual 253, 3) := zo_182 (d := 0) (e := 253) (zd_b zq_prog_1_method_35_code_1 11 rfl rfl rfl) (zd_b zq_prog_1_method_35_code_1 12 rfl rfl rfl) (zd_b zq_prog_1_method_35_code_1 13 rfl rfl rfl)
theorem ok_Ip_mould_CS_allGood : z_ok M_Ip_mould M_CS_allGood 0 := ⟨z_mj2 (i := 160) rfl (by decide +kernel), rfl, ⟨by decide +kernel, by decide +kernel, by decide +kernel⟩, ⟨by decide, by decide⟩, z_mj1 (i := 6) rfl (by decide +kernel), rfl⟩
theorem d_Ip_mould_46 : decode prog_1_method_35_code 46 = .ok (.iload_n 1, 1) := zo_27 (zd_b zq_prog_1_method_35_code_1 14 rfl rfl rfl)
theorem d_Ip_mould_47 : decode prog_1_method_35_code 47 = .ok (.if_icmp .ge 14, 3) := zo_162 (d := 0) (e := 14) (zd_b zq_prog_1_method_35_code_1 15 rfl rfl rfl) (zd_b zq_prog_1_method_35_code_1 16 rfl rfl rfl) (zd_b zq_prog_1_method_35_code_1 17 rfl rfl rfl) (by decide +kernel)
theorem d_Ip_mould_50 : decode prog_1_method_35_code 50 = .ok (.new 272, 3) := zo_187 (d := 1) (e := 16) (zd_b zq_prog_1_method_35_code_1 18 rfl rfl rfl) (zd_b zq_prog_1_method_35_code_1 19 rfl rfl rfl) (zd_b zq_prog_1_method_35_code_1 20 rfl rfl rfl)
theorem sr_Ip_403 : Cond.stringRef "Ironpour" 403 "not so many good cores" ∈ lw_tbl := z_tb5 (i := 224) rfl
theorem d_Ip_mould_53 : decode prog_1_method_35_code 53 = .ok (.dup, 1) := zo_89 (zd_b zq_prog_1_method_35_code_1 21 rfl rfl rfl)
theorem d_Ip_mould_54 : decode prog_1_method_35_code 54 = .ok (.ldc_w 403, 3) := zo_19 (d := 1) (e := 147) (zd_b zq_prog_1_method_35_code_1 22 rfl rfl rfl) (zd_b zq_prog_1_method_35_code_1 23 rfl rfl rfl) (zd_b zq_prog_1_method_35_code_1 24 rfl rfl rfl)
theorem d_Ip_mould_57 : decode prog_1_method_35_code 57 = .ok (.invokespecial 276, 3) := zo_183 (d := 1) (e := 20) (zd_b zq_prog_1_method_35_code_1 25 rfl rfl rfl) (zd_b zq_prog_1_method_35_code_1 26 rfl rfl rfl) (zd_b zq_prog_1_method_35_code_1 27 rfl rfl rfl)
theorem d_Ip_mould_60 : decode prog_1_method_35_code 60 = .ok (.athrow, 1) := zo_191 (zd_b zq_prog_1_method_35_code_1 28 rfl rfl rfl)
set_option maxHeartbeats 4000000 in
set_option maxRecDepth 100000 in
theorem Qx_Ip_mouldB {g : zG} {ad : Nat → Nat} {t : zTT} {u : zNN} {w : zW} (hI : IV g ad t u w) (hg : ¬ fa_cnt (fun k => decide (((t.1 2).1) k = 103)) 12 = 0) (hc : anB (fun k => decide (((t.1 2).1) k = 99)) 108 = true) (hn : ¬ nI (coN ((t.1 2).1)) ≤ gdN t) : zMB g M_Ip_mould [.ref (ad 0)] w (fun o w1 => o = .inr "java/lang/UnsupportedOperationException" ∧ IV g ad t u w1) 4 170 := by
  obtain ⟨e_a, wf_a, k_a⟩ := hI.1.2 0 (by decide)
  obtain rfl := kd_0.mp k_a
  obtain ⟨e_pa, wf_pa, k_pa⟩ := hI.1.2 1 (by decide)
  obtain rfl := kd_1.mp k_pa
  obtain ⟨e_pa1, wf_pa1, k_pa1⟩ := hI.1.2 2 (by decide)
  obtain rfl := kd_2.mp k_pa1
  obtain ⟨e_pa2, wf_pa2, k_pa2⟩ := hI.1.2 3 (by decide)
  obtain ⟨v_pa2_f, rfl⟩ := kd_3.mp k_pa2
  obtain ⟨e_pa3, wf_pa3, k_pa3⟩ := hI.1.2 4 (by decide)
  obtain ⟨v_pa3_h, rfl⟩ := kd_4.mp k_pa3
  obtain ⟨e_gs, wf_gs, k_gs⟩ := hI.1.2 31 (by decide)
  obtain rfl := kd_31.mp k_gs
  obtain ⟨e_co, wf_co, k_co⟩ := hI.1.2 32 (by decide)
  obtain ⟨c_co_0, rfl⟩ := kd_32.mp k_co
  obtain ⟨e_co1, wf_co1, k_co1⟩ := hI.1.2 33 (by decide)
  obtain rfl := kd_33.mp k_co1
  obtain ⟨e_co2, wf_co2, k_co2⟩ := hI.1.2 34 (by decide)
  obtain rfl := kd_34.mp k_co2
  obtain ⟨e_co3, wf_co3, k_co3⟩ := hI.1.2 35 (by decide)
  obtain rfl := kd_35.mp k_co3
  have hf := hI.2.2.1
  have h33 := hI.n5 0 (by decide)
  refine y_of (by decide) rfl (Nat.le_of_ble_eq_true rfl) (y_base (cs := [((ad 0), .inr (11, [.ref (ad 1), .ref (ad 5), .ref (ad 18), .ref (ad 31), .ref (ad 32), .ref (ad 36), .ref (ad 42), .ref (ad 45), .ref (ad 47), .ref (ad 49), .ref (ad 50), .ref (ad 51)])), ((ad 1), .inr (8, [.ref (ad 2), .ref (ad 3), .ref (ad 4), .int (nI ((t.1 1).2.2 0))])), ((ad 2), .inl (1, 108, .inl ((t.1 2).1))), ((ad 3), .inl (2, 108, .inl v_pa2_f)), ((ad 4), .inl (0, 108, .inl (fun k => nI (v_pa3_h k)))), ((ad 31), .inr (4, [.int ((t.1 31).1 0), .int ((t.1 31).1 1), .int ((t.1 31).1 2), .int ((t.1 31).1 3), .int ((t.1 31).1 4)])), ((ad 32), .inr (1, [.ref (ad 33), .ref (ad 34), .ref (ad 35), .int (nI ((t.1 32).2.2 0))])), ((ad 33), .inl (0, 20, .inl ((t.1 33).1))), ((ad 34), .inl (0, 20, .inl ((t.1 34).1))), ((ad 35), .inl (0, 20, .inl ((t.1 35).1)))]) (hI.1.I [0, 1, 2, 3, 4, 31, 32, 33, 34, 35] _ rfl (by decide) (by decide) (List.forall_mem_cons.mpr ⟨wf_a, (List.forall_mem_cons.mpr ⟨wf_pa, (List.forall_mem_cons.mpr ⟨wf_pa1, (List.forall_mem_cons.mpr ⟨wf_pa2, (List.forall_mem_cons.mpr ⟨wf_pa3, (List.forall_mem_cons.mpr ⟨wf_gs, (List.forall_mem_cons.mpr ⟨wf_co, (List.forall_mem_cons.mpr ⟨wf_co1, (List.forall_mem_cons.mpr ⟨wf_co2, (List.forall_mem_cons.mpr ⟨wf_co3, (fun _ h => nomatch h)⟩)⟩)⟩)⟩)⟩)⟩)⟩)⟩)⟩)⟩)) ?_)
  refine y_lvE (lv2 := [(0, .ref (ad 0))]) rfl ?_
  refine y_aload_n d_Ip_mould_0 rfl 0 rfl ?_
  refine y_get fs_Ip_10 d_Ip_mould_1 (q0 := 0) rfl rfl ?_
  refine y_callV (As := []) (rest := []) (csC := [((ad 1), .inr (8, [.ref (ad 2), .ref (ad 3), .ref (ad 4), .int (nI ((t.1 1).2.2 0))])), ((ad 2), .inl (1, 108, .inl ((t.1 2).1))), ((ad 3), .inl (2, 108, .inl v_pa2_f)), ((ad 4), .inl (0, 108, .inl (fun k => nI (v_pa3_h k))))]) (is := [1, 2, 3, 4]) (q0 := 1) rfl rfl ln_Ip_147 w_im_Pa_gatesOnTop w_se_Pa_gatesOnTop ok_Ip_mould_Pa_gatesOnTop d_Ip_mould_4 (C_Pa_gatesOnTop g (ad 1) (ad 2) (ad 3) (ad 4) ((t.1 2).1) v_pa2_f (fun k => nI (v_pa3_h k)) (nI ((t.1 1).2.2 0))) rfl rfl (Nat.le_of_ble_eq_true rfl) rfl (by decide) (by omega) (by omega) (fun E cs1 hx => ?_) (fun v cs1 hx => ?_)
  · exact absurd hx.1 (by simp)
  · obtain ⟨e1, rfl⟩ := hx
    cases e1
    refine ⟨rfl, ?_⟩
    refine y_st (st2 := [.int (nI (fa_cnt (fun k => decide (((t.1 2).1) k = 103)) 12))]) rfl ?_
    refine y_cs (cs2 := [((ad 0), .inr (11, [.ref (ad 1), .ref (ad 5), .ref (ad 18), .ref (ad 31), .ref (ad 32), .ref (ad 36), .ref (ad 42), .ref (ad 45), .ref (ad 47), .ref (ad 49), .ref (ad 50), .ref (ad 51)])), ((ad 1), .inr (8, [.ref (ad 2), .ref (ad 3), .ref (ad 4), .int (nI ((t.1 1).2.2 0))])), ((ad 2), .inl (1, 108, .inl ((t.1 2).1))), ((ad 3), .inl (2, 108, .inl v_pa2_f)), ((ad 4), .inl (0, 108, .inl (fun k => nI (v_pa3_h k)))), ((ad 31), .inr (4, [.int ((t.1 31).1 0), .int ((t.1 31).1 1), .int ((t.1 31).1 2), .int ((t.1 31).1 3), .int ((t.1 31).1 4)])), ((ad 32), .inr (1, [.ref (ad 33), .ref (ad 34), .ref (ad 35), .int (nI ((t.1 32).2.2 0))])), ((ad 33), .inl (0, 20, .inl ((t.1 33).1))), ((ad 34), .inl (0, 20, .inl ((t.1 34).1))), ((ad 35), .inl (0, 20, .inl ((t.1 35).1)))]) rfl ?_
    refine y_if_eq (tgt := 20) d_Ip_mould_7 (by decide) (fun c_7 => ?_) (fun c_7 => ?_)
    · exact absurd (nI_z (by have := fa_cnt_le (fun k => decide (((t.1 2).1) k = 103)) 12; omega) c_7) hg
    · refine y_aload_n d_Ip_mould_10 rfl 0 rfl ?_
      refine y_get fs_Ip_10 d_Ip_mould_11 (q0 := 0) rfl rfl ?_
      refine y_callV (As := []) (rest := []) (csC := [((ad 1), .inr (8, [.ref (ad 2), .ref (ad 3), .ref (ad 4), .int (nI ((t.1 1).2.2 0))])), ((ad 2), .inl (1, 108, .inl ((t.1 2).1))), ((ad 3), .inl (2, 108, .inl v_pa2_f)), ((ad 4), .inl (0, 108, .inl (fun k => nI (v_pa3_h k))))]) (is := [1, 2, 3, 4]) (q0 := 1) rfl rfl ln_Ip_398 w_im_Pa_hasCasting w_se_Pa_hasCasting ok_Ip_mould_Pa_hasCasting d_Ip_mould_14 (C_Pa_hasCasting g (ad 1) (ad 2) (ad 3) (ad 4) ((t.1 2).1) v_pa2_f (fun k => nI (v_pa3_h k)) (nI ((t.1 1).2.2 0))) rfl rfl (Nat.le_of_ble_eq_true rfl) rfl (by decide) (by omega) (by omega) (fun E cs1 hx => ?_) (fun v cs1 hx => ?_)
      · exact absurd hx.1 (by simp)
      · obtain ⟨e1, rfl⟩ := hx
        cases e1
        refine ⟨rfl, ?_⟩
        refine y_st (st2 := [.int (z_bi (anB (fun k => decide (((t.1 2).1) k = 99)) 108))]) rfl ?_
        refine y_cs (cs2 := [((ad 0), .inr (11, [.ref (ad 1), .ref (ad 5), .ref (ad 18), .ref (ad 31), .ref (ad 32), .ref (ad 36), .ref (ad 42), .ref (ad 45), .ref (ad 47), .ref (ad 49), .ref (ad 50), .ref (ad 51)])), ((ad 1), .inr (8, [.ref (ad 2), .ref (ad 3), .ref (ad 4), .int (nI ((t.1 1).2.2 0))])), ((ad 2), .inl (1, 108, .inl ((t.1 2).1))), ((ad 3), .inl (2, 108, .inl v_pa2_f)), ((ad 4), .inl (0, 108, .inl (fun k => nI (v_pa3_h k)))), ((ad 31), .inr (4, [.int ((t.1 31).1 0), .int ((t.1 31).1 1), .int ((t.1 31).1 2), .int ((t.1 31).1 3), .int ((t.1 31).1 4)])), ((ad 32), .inr (1, [.ref (ad 33), .ref (ad 34), .ref (ad 35), .int (nI ((t.1 32).2.2 0))])), ((ad 33), .inl (0, 20, .inl ((t.1 33).1))), ((ad 34), .inl (0, 20, .inl ((t.1 34).1))), ((ad 35), .inl (0, 20, .inl ((t.1 35).1)))]) rfl ?_
        refine y_if_ne (tgt := 31) d_Ip_mould_17 (by decide) (fun c_17 => ?_) (fun c_17 => ?_)
        · refine y_aload_n d_Ip_mould_31 rfl 0 rfl ?_
          refine y_get fs_Ip_10 d_Ip_mould_32 (q0 := 0) rfl rfl ?_
          refine y_callV (As := []) (rest := []) (csC := [((ad 1), .inr (8, [.ref (ad 2), .ref (ad 3), .ref (ad 4), .int (nI ((t.1 1).2.2 0))])), ((ad 2), .inl (1, 108, .inl ((t.1 2).1))), ((ad 3), .inl (2, 108, .inl v_pa2_f)), ((ad 4), .inl (0, 108, .inl (fun k => nI (v_pa3_h k))))]) (is := [1, 2, 3, 4]) (q0 := 1) rfl rfl ln_Ip_128 w_im_Pa_coreGroups w_se_Pa_coreGroups ok_Ip_mould_Pa_coreGroups d_Ip_mould_35 (C_Pa_coreGroups g (ad 1) (ad 2) (ad 3) (ad 4) ((t.1 2).1) v_pa2_f v_pa3_h (nI ((t.1 1).2.2 0))) rfl rfl (Nat.le_of_ble_eq_true rfl) rfl (by decide) (by omega) (by omega) (fun E cs1 hx => ?_) (fun v cs1 hx => ?_)
          · exact absurd hx.1 (by simp)
          · obtain ⟨e1, rfl⟩ := hx
            rw [co_c] at e1
            cases e1
            refine ⟨rfl, ?_⟩
            refine y_st (st2 := [.int (nI (coN ((t.1 2).1)))]) rfl ?_
            refine y_cs (cs2 := [((ad 0), .inr (11, [.ref (ad 1), .ref (ad 5), .ref (ad 18), .ref (ad 31), .ref (ad 32), .ref (ad 36), .ref (ad 42), .ref (ad 45), .ref (ad 47), .ref (ad 49), .ref (ad 50), .ref (ad 51)])), ((ad 1), .inr (8, [.ref (ad 2), .ref (ad 3), .ref (ad 4), .int (nI ((t.1 1).2.2 0))])), ((ad 2), .inl (1, 108, .inl ((t.1 2).1))), ((ad 3), .inl (2, 108, .inl ((grS ((t.1 2).1) 109 (fa_fill (fun _ => 0) v_pa2_f 108, v_pa3_h, 0) 108).1))), ((ad 4), .inl (0, 108, .inl (fun k => nI ((grS ((t.1 2).1) 109 (fa_fill (fun _ => 0) v_pa2_f 108, v_pa3_h, 0) 108).2.1 k)))), ((ad 31), .inr (4, [.int ((t.1 31).1 0), .int ((t.1 31).1 1), .int ((t.1 31).1 2), .int ((t.1 31).1 3), .int ((t.1 31).1 4)])), ((ad 32), .inr (1, [.ref (ad 33), .ref (ad 34), .ref (ad 35), .int (nI ((t.1 32).2.2 0))])), ((ad 33), .inl (0, 20, .inl ((t.1 33).1))), ((ad 34), .inl (0, 20, .inl ((t.1 34).1))), ((ad 35), .inl (0, 20, .inl ((t.1 35).1)))]) rfl ?_
            refine y_istore_n (lv' := [(1, .int (nI (coN ((t.1 2).1)))), (0, .ref (ad 0))]) d_Ip_mould_38 rfl (by decide) rfl ?_
            refine y_aload_n d_Ip_mould_39 rfl 1 rfl ?_
            refine y_get fs_Ip_36 d_Ip_mould_40 (q0 := 0) rfl rfl ?_
            refine y_callV (As := []) (rest := []) (csC := [((ad 32), .inr (1, [.ref (ad 33), .ref (ad 34), .ref (ad 35), .int (nI ((t.1 32).2.2 0))])), ((ad 33), .inl (0, 20, .inl ((t.1 33).1))), ((ad 34), .inl (0, 20, .inl ((t.1 34).1))), ((ad 35), .inl (0, 20, .inl ((t.1 35).1)))]) (is := [6, 7, 8, 9]) (q0 := 6) rfl rfl ln_Ip_253 w_im_CS_allGood w_se_CS_allGood ok_Ip_mould_CS_allGood d_Ip_mould_43 (C_CS_allGood g (ad 32) (ad 33) (ad 34) (ad 35) ((t.1 33).1) ((t.1 34).1) ((t.1 35).1) ((t.1 32).2.2 0) c_co_0) rfl rfl (Nat.le_of_ble_eq_true rfl) rfl (by decide) (by omega) (by omega) (fun E cs1 hx => ?_) (fun v cs1 hx => ?_)
            · exact absurd hx.1 (by simp)
            · obtain ⟨e1, rfl⟩ := hx
              cases e1
              refine ⟨rfl, ?_⟩
              refine y_st (st2 := [.int (bx_sum (fun k => if gdB ((t.1 34).1) ((t.1 35).1) k then ((t.1 33).1) k else 0) ((t.1 32).2.2 0))]) rfl ?_
              refine y_cs (cs2 := [((ad 0), .inr (11, [.ref (ad 1), .ref (ad 5), .ref (ad 18), .ref (ad 31), .ref (ad 32), .ref (ad 36), .ref (ad 42), .ref (ad 45), .ref (ad 47), .ref (ad 49), .ref (ad 50), .ref (ad 51)])), ((ad 1), .inr (8, [.ref (ad 2), .ref (ad 3), .ref (ad 4), .int (nI ((t.1 1).2.2 0))])), ((ad 2), .inl (1, 108, .inl ((t.1 2).1))), ((ad 3), .inl (2, 108, .inl ((grS ((t.1 2).1) 109 (fa_fill (fun _ => 0) v_pa2_f 108, v_pa3_h, 0) 108).1))), ((ad 4), .inl (0, 108, .inl (fun k => nI ((grS ((t.1 2).1) 109 (fa_fill (fun _ => 0) v_pa2_f 108, v_pa3_h, 0) 108).2.1 k)))), ((ad 31), .inr (4, [.int ((t.1 31).1 0), .int ((t.1 31).1 1), .int ((t.1 31).1 2), .int ((t.1 31).1 3), .int ((t.1 31).1 4)])), ((ad 32), .inr (1, [.ref (ad 33), .ref (ad 34), .ref (ad 35), .int (nI ((t.1 32).2.2 0))])), ((ad 33), .inl (0, 20, .inl ((t.1 33).1))), ((ad 34), .inl (0, 20, .inl ((t.1 34).1))), ((ad 35), .inl (0, 20, .inl ((t.1 35).1)))]) rfl ?_
              refine y_iload_n d_Ip_mould_46 rfl 0 rfl ?_
              refine y_icmp_ge (tgt := 61) d_Ip_mould_47 (by decide) (fun c_47 => ?_) (fun c_47 => ?_)
              · exact absurd c_47 hn
              · refine y_throwW tb_Ip_272_276 sr_Ip_403 d_Ip_mould_50 d_Ip_mould_53 d_Ip_mould_54 d_Ip_mould_57 d_Ip_mould_60 rfl (by decide) (by decide) (Nat.le_of_ble_eq_true rfl) (by omega) (by omega) ?_
                exact fun w1 h1 => ⟨rfl, (hI.gen (t2 := t) (is := [0, 1, 2, 3, 4, 31, 32, 33, 34, 35]) (L2 := []) h1 rfl ⟨kd_0.mpr rfl, kd_1.mpr rfl, kd_2.mpr rfl, kd_3.mpr ⟨_, rfl⟩, kd_4.mpr ⟨_, rfl⟩, kd_31.mpr rfl, kd_32.mpr ⟨c_co_0, rfl⟩, kd_33.mpr rfl, kd_34.mpr rfl, kd_35.mpr rfl, trivial⟩ (by decide) (by decide) (fun _ h => nomatch h) (fun _ h => nomatch h) (fun _ _ _ => rfl) (fun h => h) rfl)⟩
        · exact absurd (z_bi0 c_17) (by rw [hc]; decide)
theorem d_Ip_mould_61 : decode prog_1_method_35_code 61 = .ok (.aload_n 0, 1) := zo_42 (zd_b zq_prog_1_method_35_code_1 29 rfl rfl rfl)
theorem d_Ip_mould_62 : decode prog_1_method_35_code 62 = .ok (.getfield 74, 3) := zo_180 (d := 0) (e := 74) (zd_b zq_prog_1_method_35_code_1 30 rfl rfl rfl) (zd_b zq_prog_1_method_35_code_1 31 rfl rfl rfl) (zd_b zq_prog_1_method_35_code_2 0 rfl rfl rfl)
theorem d_Ip_mould_65 : decode prog_1_method_35_code 65 = .ok (.invokevirtual 341, 3) := zo_182 (d := 1) (e := 85) (zd_b zq_prog_1_method_35_code_2 1 rfl rfl rfl) (zd_b zq_prog_1_method_35_code_2 2 rfl rfl rfl) (zd_b zq_prog_1_method_35_code_2 3 rfl rfl rfl)
theorem ok_Ip_mould_AL_size : z_ok M_Ip_mould M_AL_size 0 := ⟨z_mj2 (i := 172) rfl (by decide +kernel), rfl, ⟨by decide +kernel, by decide +kernel, by decide +kernel⟩, ⟨by decide, by decide⟩, z_mj1 (i := 13) rfl (by decide +kernel), rfl⟩
theorem d_Ip_mould_68 : decode prog_1_method_35_code 68 = .ok (.bipush 10, 2) := zo_16 (d := 10) (zd_b zq_prog_1_method_35_code_2 4 rfl rfl rfl) (zd_b zq_prog_1_method_35_code_2 5 rfl rfl rfl) (by decide +kernel)
theorem d_Ip_mould_70 : decode prog_1_method_35_code 70 = .ok (.if_icmp .lt 14, 3) := zo_161 (d := 0) (e := 14) (zd_b zq_prog_1_method_35_code_2 6 rfl rfl rfl) (zd_b zq_prog_1_method_35_code_2 7 rfl rfl rfl) (zd_b zq_prog_1_method_35_code_2 8 rfl rfl rfl) (by decide +kernel)
theorem d_Ip_mould_73 : decode prog_1_method_35_code 73 = .ok (.new 242, 3) := zo_187 (d := 0) (e := 242) (zd_b zq_prog_1_method_35_code_2 9 rfl rfl rfl) (zd_b zq_prog_1_method_35_code_2 10 rfl rfl rfl) (zd_b zq_prog_1_method_35_code_2 11 rfl rfl rfl)
theorem sr_Ip_405 : Cond.stringRef "Ironpour" 405 "10 moulds wait" ∈ lw_tbl := z_tb5 (i := 225) rfl
theorem d_Ip_mould_76 : decode prog_1_method_35_code 76 = .ok (.dup, 1) := zo_89 (zd_b zq_prog_1_method_35_code_2 12 rfl rfl rfl)
theorem d_Ip_mould_77 : decode prog_1_method_35_code 77 = .ok (.ldc_w 405, 3) := zo_19 (d := 1) (e := 149) (zd_b zq_prog_1_method_35_code_2 13 rfl rfl rfl) (zd_b zq_prog_1_method_35_code_2 14 rfl rfl rfl) (zd_b zq_prog_1_method_35_code_2 15 rfl rfl rfl)
theorem d_Ip_mould_80 : decode prog_1_method_35_code 80 = .ok (.invokespecial 246, 3) := zo_183 (d := 0) (e := 246) (zd_b zq_prog_1_method_35_code_2 16 rfl rfl rfl) (zd_b zq_prog_1_method_35_code_2 17 rfl rfl rfl) (zd_b zq_prog_1_method_35_code_2 18 rfl rfl rfl)
theorem d_Ip_mould_83 : decode prog_1_method_35_code 83 = .ok (.athrow, 1) := zo_191 (zd_b zq_prog_1_method_35_code_2 19 rfl rfl rfl)
