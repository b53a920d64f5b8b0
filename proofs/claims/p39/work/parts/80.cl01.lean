set_option maxHeartbeats 4000000 in
set_option maxRecDepth 100000 in
theorem Qx_Ip_mouldC {g : zG} {ad : Nat → Nat} {t : zTT} {u : zNN} {w : zW} (hI : IV g ad t u w) (hg : ¬ fa_cnt (fun k => decide (((t.1 2).1) k = 103)) 12 = 0) (hc : anB (fun k => decide (((t.1 2).1) k = 99)) 108 = true) (hn : nI (coN ((t.1 2).1)) ≤ gdN t) (hs : ¬ u.1 0 < 10) : zMB g M_Ip_mould [.ref (ad 0)] w (fun o w1 => o = .inr "java/lang/IllegalStateException" ∧ IV g ad t u w1) 4 170 := by
  obtain ⟨e_a, wf_a, k_a⟩ := hI.1.2 0 (by decide)
  obtain rfl := kd_0.mp k_a
  obtain ⟨e_pa, wf_pa, k_pa⟩ := hI.1.2 1 (by decide)
  obtain rfl := kd_1.mp k_pa
  obtain ⟨e_pa1, wf_pa1, k_pa1⟩ := hI.1.2 2 (by decide)
  obtain rfl := kd_2.mp k_pa1
  obtain ⟨e_pa2, wf_pa2, k_pa2⟩ := hI.1.2 3 (by decide)
  obtain ⟨v_pa2_f, rfl⟩ := kd_3.mp k_pa2
  obtain ⟨e_pa3, wf_pa3, k_pa3⟩ := hI.1.2 4 (by decide)
  obtain ⟨v_pa3_h, rfl⟩ := kd_4.mp k_pa3
  obtain ⟨e_gs, wf_gs, k_gs⟩ := hI.1.2 31 (by decide)
  obtain rfl := kd_31.mp k_gs
  obtain ⟨e_co, wf_co, k_co⟩ := hI.1.2 32 (by decide)
  obtain ⟨c_co_0, rfl⟩ := kd_32.mp k_co
  obtain ⟨e_co1, wf_co1, k_co1⟩ := hI.1.2 33 (by decide)
  obtain rfl := kd_33.mp k_co1
  obtain ⟨e_co2, wf_co2, k_co2⟩ := hI.1.2 34 (by decide)
  obtain rfl := kd_34.mp k_co2
  obtain ⟨e_co3, wf_co3, k_co3⟩ := hI.1.2 35 (by decide)
  obtain rfl := kd_35.mp k_co3
  have hf := hI.2.2.1
  have h33 := hI.n5 0 (by decide)
  refine y_of (by decide) rfl (Nat.le_of_ble_eq_true rfl) (y_base (cs := [((ad 0), .inr (11, [.ref (ad 1), .ref (ad 5), .ref (ad 18), .ref (ad 31), .ref (ad 32), .ref (ad 36), .ref (ad 42), .ref (ad 45), .ref (ad 47), .ref (ad 49), .ref (ad 50), .ref (ad 51)])), ((ad 1), .inr (8, [.ref (ad 2), .ref (ad 3), .ref (ad 4), .int (nI ((t.1 1).2.2 0))])), ((ad 2), .inl (1, 108, .inl ((t.1 2).1))), ((ad 3), .inl (2, 108, .inl v_pa2_f)), ((ad 4), .inl (0, 108, .inl (fun k => nI (v_pa3_h k)))), ((ad 31), .inr (4, [.int ((t.1 31).1 0), .int ((t.1 31).1 1), .int ((t.1 31).1 2), .int ((t.1 31).1 3), .int ((t.1 31).1 4)])), ((ad 32), .inr (1, [.ref (ad 33), .ref (ad 34), .ref (ad 35), .int (nI ((t.1 32).2.2 0))])), ((ad 33), .inl (0, 20, .inl ((t.1 33).1))), ((ad 34), .inl (0, 20, .inl ((t.1 34).1))), ((ad 35), .inl (0, 20, .inl ((t.1 35).1)))]) (hI.1.I [0, 1, 2, 3, 4, 31, 32, 33, 34, 35] _ rfl (by decide) (by decide) (List.forall_mem_cons.mpr ⟨wf_a, (List.forall_mem_cons.mpr ⟨wf_pa, (List.forall_mem_cons.mpr ⟨wf_pa1, (List.forall_mem_cons.mpr ⟨wf_pa2, (List.forall_mem_cons.mpr ⟨wf_pa3, (List.forall_mem_cons.mpr ⟨wf_gs, (List.forall_mem_cons.mpr ⟨wf_co, (List.forall_mem_cons.mpr ⟨wf_co1, (List.forall_mem_cons.mpr ⟨wf_co2, (List.forall_mem_cons.mpr ⟨wf_co3, (fun _ h => nomatch h)⟩)⟩)⟩)⟩)⟩)⟩)⟩)⟩)⟩)⟩)) ?_)
  refine y_lvE (lv2 := [(0, .ref (ad 0))]) rfl ?_
  refine y_aload_n d_Ip_mould_0 rfl 0 rfl ?_
  refine y_get fs_Ip_10 d_Ip_mould_1 (q0 := 0) rfl rfl ?_
  refine y_callV (As := []) (rest := []) (csC := [((ad 1), .inr (8, [.ref (ad 2), .ref (ad 3), .ref (ad 4), .int (nI ((t.1 1).2.2 0))])), ((ad 2), .inl (1, 108, .inl ((t.1 2).1))), ((ad 3), .inl (2, 108, .inl v_pa2_f)), ((ad 4), .inl (0, 108, .inl (fun k => nI (v_pa3_h k))))]) (is := [1, 2, 3, 4]) (q0 := 1) rfl rfl ln_Ip_147 w_im_Pa_gatesOnTop w_se_Pa_gatesOnTop ok_Ip_mould_Pa_gatesOnTop d_Ip_mould_4 (C_Pa_gatesOnTop g (ad 1) (ad 2) (ad 3) (ad 4) ((t.1 2).1) v_pa2_f (fun k => nI (v_pa3_h k)) (nI ((t.1 1).2.2 0))) rfl rfl (Nat.le_of_ble_eq_true rfl) rfl (by decide) (by omega) (by omega) (fun E cs1 hx => ?_) (fun v cs1 hx => ?_)
  · exact absurd hx.1 (by simp)
  · obtain ⟨e1, rfl⟩ := hx
    cases e1
    refine ⟨rfl, ?_⟩
    refine y_st (st2 := [.int (nI (fa_cnt (fun k => decide (((t.1 2).1) k = 103)) 12))]) rfl ?_
    refine y_cs (cs2 := [((ad 0), .inr (11, [.ref (ad 1), .ref (ad 5), .ref (ad 18), .ref (ad 31), .ref (ad 32), .ref (ad 36), .ref (ad 42), .ref (ad 45), .ref (ad 47), .ref (ad 49), .ref (ad 50), .ref (ad 51)])), ((ad 1), .inr (8, [.ref (ad 2), .ref (ad 3), .ref (ad 4), .int (nI ((t.1 1).2.2 0))])), ((ad 2), .inl (1, 108, .inl ((t.1 2).1))), ((ad 3), .inl (2, 108, .inl v_pa2_f)), ((ad 4), .inl (0, 108, .inl (fun k => nI (v_pa3_h k)))), ((ad 31), .inr (4, [.int ((t.1 31).1 0), .int ((t.1 31).1 1), .int ((t.1 31).1 2), .int ((t.1 31).1 3), .int ((t.1 31).1 4)])), ((ad 32), .inr (1, [.ref (ad 33), .ref (ad 34), .ref (ad 35), .int (nI ((t.1 32).2.2 0))])), ((ad 33), .inl (0, 20, .inl ((t.1 33).1))), ((ad 34), .inl (0, 20, .inl ((t.1 34).1))), ((ad 35), .inl (0, 20, .inl ((t.1 35).1)))]) rfl ?_
    refine y_if_eq (tgt := 20) d_Ip_mould_7 (by decide) (fun c_7 => ?_) (fun c_7 => ?_)
    · exact absurd (nI_z (by have := fa_cnt_le (fun k => decide (((t.1 2).1) k = 103)) 12; omega) c_7) hg
    · refine y_aload_n d_Ip_mould_10 rfl 0 rfl ?_
      refine y_get fs_Ip_10 d_Ip_mould_11 (q0 := 0) rfl rfl ?_
      refine y_callV (As := []) (rest := []) (csC := [((ad 1), .inr (8, [.ref (ad 2), .ref (ad 3), .ref (ad 4), .int (nI ((t.1 1).2.2 0))])), ((ad 2), .inl (1, 108, .inl ((t.1 2).1))), ((ad 3), .inl (2, 108, .inl v_pa2_f)), ((ad 4), .inl (0, 108, .inl (fun k => nI (v_pa3_h k))))]) (is := [1, 2, 3, 4]) (q0 := 1) rfl rfl ln_Ip_398 w_im_Pa_hasCasting w_se_Pa_hasCasting ok_Ip_mould_Pa_hasCasting d_Ip_mould_14 (C_Pa_hasCasting g (ad 1) (ad 2) (ad 3) (ad 4) ((t.1 2).1) v_pa2_f (fun k => nI (v_pa3_h k)) (nI ((t.1 1).2.2 0))) rfl rfl (Nat.le_of_ble_eq_true rfl) rfl (by decide) (by omega) (by omega) (fun E cs1 hx => ?_) (fun v cs1 hx => ?_)
      · exact absurd hx.1 (by simp)
      · obtain ⟨e1, rfl⟩ := hx
        cases e1
        refine ⟨rfl, ?_⟩
        refine y_st (st2 := [.int (z_bi (anB (fun k => decide (((t.1 2).1) k = 99)) 108))]) rfl ?_
        refine y_cs (cs2 := [((ad 0), .inr (11, [.ref (ad 1), .ref (ad 5), .ref (ad 18), .ref (ad 31), .ref (ad 32), .ref (ad 36), .ref (ad 42), .ref (ad 45), .ref (ad 47), .ref (ad 49), .ref (ad 50), .ref (ad 51)])), ((ad 1), .inr (8, [.ref (ad 2), .ref (ad 3), .ref (ad 4), .int (nI ((t.1 1).2.2 0))])), ((ad 2), .inl (1, 108, .inl ((t.1 2).1))), ((ad 3), .inl (2, 108, .inl v_pa2_f)), ((ad 4), .inl (0, 108, .inl (fun k => nI (v_pa3_h k)))), ((ad 31), .inr (4, [.int ((t.1 31).1 0), .int ((t.1 31).1 1), .int ((t.1 31).1 2), .int ((t.1 31).1 3), .int ((t.1 31).1 4)])), ((ad 32), .inr (1, [.ref (ad 33), .ref (ad 34), .ref (ad 35), .int (nI ((t.1 32).2.2 0))])), ((ad 33), .inl (0, 20, .inl ((t.1 33).1))), ((ad 34), .inl (0, 20, .inl ((t.1 34).1))), ((ad 35), .inl (0, 20, .inl ((t.1 35).1)))]) rfl ?_
        refine y_if_ne (tgt := 31) d_Ip_mould_17 (by decide) (fun c_17 => ?_) (fun c_17 => ?_)
        · refine y_aload_n d_Ip_mould_31 rfl 0 rfl ?_
          refine y_get fs_Ip_10 d_Ip_mould_32 (q0 := 0) rfl rfl ?_
          refine y_callV (As := []) (rest := []) (csC := [((ad 1), .inr (8, [.ref (ad 2), .ref (ad 3), .ref (ad 4), .int (nI ((t.1 1).2.2 0))])), ((ad 2), .inl (1, 108, .inl ((t.1 2).1))), ((ad 3), .inl (2, 108, .inl v_pa2_f)), ((ad 4), .inl (0, 108, .inl (fun k => nI (v_pa3_h k))))]) (is := [1, 2, 3, 4]) (q0 := 1) rfl rfl ln_Ip_128 w_im_Pa_coreGroups w_se_Pa_coreGroups ok_Ip_mould_Pa_coreGroups d_Ip_mould_35 (C_Pa_coreGroups g (ad 1) (ad 2) (ad 3) (ad 4) ((t.1 2).1) v_pa2_f v_pa3_h (nI ((t.1 1).2.2 0))) rfl rfl (Nat.le_of_ble_eq_true rfl) rfl (by decide) (by omega) (by omega) (fun E cs1 hx => ?_) (fun v cs1 hx => ?_)
          · exact absurd hx.1 (by simp)
          · obtain ⟨e1, rfl⟩ := hx
            rw [co_c] at e1
            cases e1
            refine ⟨rfl, ?_⟩
            refine y_st (st2 := [.int (nI (coN ((t.1 2).1)))]) rfl ?_
            refine y_cs (cs2 := [((ad 0), .inr (11, [.ref (ad 1), .ref (ad 5), .ref (ad 18), .ref (ad 31), .ref (ad 32), .ref (ad 36), .ref (ad 42), .ref (ad 45), .ref (ad 47), .ref (ad 49), .ref (ad 50), .ref (ad 51)])), ((ad 1), .inr (8, [.ref (ad 2), .ref (ad 3), .ref (ad 4), .int (nI ((t.1 1).2.2 0))])), ((ad 2), .inl (1, 108, .inl ((t.1 2).1))), ((ad 3), .inl (2, 108, .inl ((grS ((t.1 2).1) 109 (fa_fill (fun _ => 0) v_pa2_f 108, v_pa3_h, 0) 108).1))), ((ad 4), .inl (0, 108, .inl (fun k => nI ((grS ((t.1 2).1) 109 (fa_fill (fun _ => 0) v_pa2_f 108, v_pa3_h, 0) 108).2.1 k)))), ((ad 31), .inr (4, [.int ((t.1 31).1 0), .int ((t.1 31).1 1), .int ((t.1 31).1 2), .int ((t.1 31).1 3), .int ((t.1 31).1 4)])), ((ad 32), .inr (1, [.ref (ad 33), .ref (ad 34), .ref (ad 35), .int (nI ((t.1 32).2.2 0))])), ((ad 33), .inl (0, 20, .inl ((t.1 33).1))), ((ad 34), .inl (0, 20, .inl ((t.1 34).1))), ((ad 35), .inl (0, 20, .inl ((t.1 35).1)))]) rfl ?_
            refine y_istore_n (lv' := [(1, .int (nI (coN ((t.1 2).1)))), (0, .ref (ad 0))]) d_Ip_mould_38 rfl (by decide) rfl ?_
            refine y_aload_n d_Ip_mould_39 rfl 1 rfl ?_
            refine y_get fs_Ip_36 d_Ip_mould_40 (q0 := 0) rfl rfl ?_
            refine y_callV (As := []) (rest := []) (csC := [((ad 32), .inr (1, [.ref (ad 33), .ref (ad 34), .ref (ad 35), .int (nI ((t.1 32).2.2 0))])), ((ad 33), .inl (0, 20, .inl ((t.1 33).1))), ((ad 34), .inl (0, 20, .inl ((t.1 34).1))), ((ad 35), .inl (0, 20, .inl ((t.1 35).1)))]) (is := [6, 7, 8, 9]) (q0 := 6) rfl rfl ln_Ip_253 w_im_CS_allGood w_se_CS_allGood ok_Ip_mould_CS_allGood d_Ip_mould_43 (C_CS_allGood g (ad 32) (ad 33) (ad 34) (ad 35) ((t.1 33).1) ((t.1 34).1) ((t.1 35).1) ((t.1 32).2.2 0) c_co_0) rfl rfl (Nat.le_of_ble_eq_true rfl) rfl (by decide) (by omega) (by omega) (fun E cs1 hx => ?_) (fun v cs1 hx => ?_)
            · exact absurd hx.1 (by simp)
            · obtain ⟨e1, rfl⟩ := hx
              cases e1
              refine ⟨rfl, ?_⟩
              refine y_st (st2 := [.int (bx_sum (fun k => if gdB ((t.1 34).1) ((t.1 35).1) k then ((t.1 33).1) k else 0) ((t.1 32).2.2 0))]) rfl ?_
              refine y_cs (cs2 := [((ad 0), .inr (11, [.ref (ad 1), .ref (ad 5), .ref (ad 18), .ref (ad 31), .ref (ad 32), .ref (ad 36), .ref (ad 42), .ref (ad 45), .ref (ad 47), .ref (ad 49), .ref (ad 50), .ref (ad 51)])), ((ad 1), .inr (8, [.ref (ad 2), .ref (ad 3), .ref (ad 4), .int (nI ((t.1 1).2.2 0))])), ((ad 2), .inl (1, 108, .inl ((t.1 2).1))), ((ad 3), .inl (2, 108, .inl ((grS ((t.1 2).1) 109 (fa_fill (fun _ => 0) v_pa2_f 108, v_pa3_h, 0) 108).1))), ((ad 4), .inl (0, 108, .inl (fun k => nI ((grS ((t.1 2).1) 109 (fa_fill (fun _ => 0) v_pa2_f 108, v_pa3_h, 0) 108).2.1 k)))), ((ad 31), .inr (4, [.int ((t.1 31).1 0), .int ((t.1 31).1 1), .int ((t.1 31).1 2), .int ((t.1 31).1 3), .int ((t.1 31).1 4)])), ((ad 32), .inr (1, [.ref (ad 33), .ref (ad 34), .ref (ad 35), .int (nI ((t.1 32).2.2 0))])), ((ad 33), .inl (0, 20, .inl ((t.1 33).1))), ((ad 34), .inl (0, 20, .inl ((t.1 34).1))), ((ad 35), .inl (0, 20, .inl ((t.1 35).1)))]) rfl ?_
              refine y_iload_n d_Ip_mould_46 rfl 0 rfl ?_
              refine y_icmp_ge (tgt := 61) d_Ip_mould_47 (by decide) (fun c_47 => ?_) (fun c_47 => ?_)
              · refine y_aload_n d_Ip_mould_61 rfl 1 rfl ?_
                refine y_get fs_Ip_74 d_Ip_mould_62 (q0 := 0) rfl rfl ?_
                refine yw_callVL (As := []) (rest := []) (ci := 13) rfl (fun wA hA => ((hI.gen (t2 := t) (is := [0, 1, 2, 3, 4, 31, 32, 33, 34, 35]) (L2 := []) hA rfl ⟨kd_0.mpr rfl, kd_1.mpr rfl, kd_2.mpr rfl, kd_3.mpr ⟨_, rfl⟩, kd_4.mpr ⟨_, rfl⟩, kd_31.mpr rfl, kd_32.mpr ⟨c_co_0, rfl⟩, kd_33.mpr rfl, kd_34.mpr rfl, kd_35.mpr rfl, trivial⟩ (by decide) (by decide) (fun _ h => nomatch h) (fun _ h => nomatch h) (fun _ _ _ => rfl) (fun h => h) rfl).2.1.1 0 (by decide)).ob) ln_Ip_341 w_im_AL_size w_se_AL_size ok_Ip_mould_AL_size d_Ip_mould_65 (fun wA hA => Q_size ((hI.gen (t2 := t) (is := [0, 1, 2, 3, 4, 31, 32, 33, 34, 35]) (L2 := []) hA rfl ⟨kd_0.mpr rfl, kd_1.mpr rfl, kd_2.mpr rfl, kd_3.mpr ⟨_, rfl⟩, kd_4.mpr ⟨_, rfl⟩, kd_31.mpr rfl, kd_32.mpr ⟨c_co_0, rfl⟩, kd_33.mpr rfl, kd_34.mpr rfl, kd_35.mpr rfl, trivial⟩ (by decide) (by decide) (fun _ h => nomatch h) (fun _ h => nomatch h) (fun _ _ _ => rfl) (fun h => h) rfl).2.1.1 0 (by decide))) rfl rfl (Nat.le_of_ble_eq_true rfl) (by omega) (by omega) (fun wA65 hA65 E wB65 hx => ?_) (fun wA65 hA65 v wB65 hx => ?_)
                · exact absurd hx.1 (by simp)
                · obtain ⟨e1, e2⟩ := hx
                  cases e1
                  refine yw_st (st2 := [.int (nI (u.1 0))]) rfl ?_
                  subst e2
                  refine y_go hA65 ?_
                  refine y_bipush d_Ip_mould_68 (v := 10) (by decide) ?_
                  refine y_icmp_lt (tgt := 84) d_Ip_mould_70 (by decide) (fun c_70 => ?_) (fun c_70 => ?_)
                  · exact absurd (z_lt (a := u.1 0) (b := 10) (by decide) (by omega) c_70) hs
                  · refine y_throwW tb_Ip_242_246 sr_Ip_405 d_Ip_mould_73 d_Ip_mould_76 d_Ip_mould_77 d_Ip_mould_80 d_Ip_mould_83 rfl (by decide) (by decide) (Nat.le_of_ble_eq_true rfl) (by omega) (by omega) ?_
                    exact fun w1 h1 => ⟨rfl, (hI.gen (t2 := t) (is := [0, 1, 2, 3, 4, 31, 32, 33, 34, 35]) (L2 := []) h1 rfl ⟨kd_0.mpr rfl, kd_1.mpr rfl, kd_2.mpr rfl, kd_3.mpr ⟨_, rfl⟩, kd_4.mpr ⟨_, rfl⟩, kd_31.mpr rfl, kd_32.mpr ⟨c_co_0, rfl⟩, kd_33.mpr rfl, kd_34.mpr rfl, kd_35.mpr rfl, trivial⟩ (by decide) (by decide) (fun _ h => nomatch h) (fun _ h => nomatch h) (fun _ _ _ => rfl) (fun h => h) rfl)⟩
              · exact absurd hn c_47
        · exact absurd (z_bi0 c_17) (by rw [hc]; decide)
theorem d_Ip_mould_84 : decode prog_1_method_35_code 84 = .ok (.aload_n 0, 1) := zo_42 (zd_b zq_prog_1_method_35_code_2 20 rfl rfl rfl)
theorem d_Ip_mould_85 : decode prog_1_method_35_code 85 = .ok (.getfield 36, 3) := zo_180 (d := 0) (e := 36) (zd_b zq_prog_1_method_35_code_2 21 rfl rfl rfl) (zd_b zq_prog_1_method_35_code_2 22 rfl rfl rfl) (zd_b zq_prog_1_method_35_code_2 23 rfl rfl rfl)
theorem d_Ip_mould_88 : decode prog_1_method_35_code 88 = .ok (.iload_n 1, 1) := zo_27 (zd_b zq_prog_1_method_35_code_2 24 rfl rfl rfl)
theorem d_Ip_mould_89 : decode prog_1_method_35_code 89 = .ok (.invokevirtual 407, 3) := zo_182 (d := 1) (e := 151) (zd_b zq_prog_1_method_35_code_2 25 rfl rfl rfl) (zd_b zq_prog_1_method_35_code_2 26 rfl rfl rfl) (zd_b zq_prog_1_method_35_code_2 27 rfl rfl rfl)
theorem ok_Ip_mould_CS_takeOut : z_ok M_Ip_mould M_CS_takeOut 1 := ⟨z_mj5 (i := 229) rfl (by decide +kernel), rfl, ⟨by decide +kernel, by decide +kernel, by decide +kernel⟩, ⟨by decide, by decide⟩, z_mj1 (i := 6) rfl (by decide +kernel), rfl⟩
theorem ln_Ip_407 : Cond.methodLink "Ironpour" 407 M_CS_takeOut.1 ∈ z_gw := z_mj5 (i := 226) rfl (by decide +kernel)
theorem w_im_CS_takeOut : Cond.instanceMethod M_CS_takeOut.1 ∈ z_gw := z_mj5 (i := 227) rfl (by decide +kernel)
theorem w_se_CS_takeOut : Cond.selects M_CS_takeOut.1.cls M_CS_takeOut.1 M_CS_takeOut.1 ∈ z_gw := z_mj5 (i := 228) rfl (by decide +kernel)
theorem d_Ip_mould_92 : decode prog_1_method_35_code 92 = .ok (.aload_n 0, 1) := zo_42 (zd_b zq_prog_1_method_35_code_2 28 rfl rfl rfl)
theorem d_Ip_mould_93 : decode prog_1_method_35_code 93 = .ok (.getfield 74, 3) := zo_180 (d := 0) (e := 74) (zd_b zq_prog_1_method_35_code_2 29 rfl rfl rfl) (zd_b zq_prog_1_method_35_code_2 30 rfl rfl rfl) (zd_b zq_prog_1_method_35_code_2 31 rfl rfl rfl)
theorem d_Ip_mould_96 : decode prog_1_method_35_code 96 = .ok (.new 348, 3) := zo_187 (d := 1) (e := 92) (zd_b zq_prog_1_method_35_code_3 0 rfl rfl rfl) (zd_b zq_prog_1_method_35_code_3 1 rfl rfl rfl) (zd_b zq_prog_1_method_35_code_3 2 rfl rfl rfl)
theorem nc_Ip_348 : z_nc "Ironpour" 348 7 8 [.null, .int 0, .int 0, .int 0, .int 0, .int 0, .int 0, .int 0] := ⟨R_Mo, F_Mo, t_Mo, rfl, u_Mo, t_Mo_ok, z_mj5 (i := 145) rfl (by decide +kernel), z_mj5 (i := 231) rfl (by decide +kernel), z_mj1 (i := 34) rfl (by decide +kernel), by decide +kernel⟩
theorem d_Ip_mould_99 : decode prog_1_method_35_code 99 = .ok (.dup, 1) := zo_89 (zd_b zq_prog_1_method_35_code_3 3 rfl rfl rfl)
theorem d_Ip_mould_100 : decode prog_1_method_35_code 100 = .ok (.aload_n 0, 1) := zo_42 (zd_b zq_prog_1_method_35_code_3 4 rfl rfl rfl)
theorem d_Ip_mould_101 : decode prog_1_method_35_code 101 = .ok (.getfield 10, 3) := zo_180 (d := 0) (e := 10) (zd_b zq_prog_1_method_35_code_3 5 rfl rfl rfl) (zd_b zq_prog_1_method_35_code_3 6 rfl rfl rfl) (zd_b zq_prog_1_method_35_code_3 7 rfl rfl rfl)
theorem d_Ip_mould_104 : decode prog_1_method_35_code 104 = .ok (.aload_n 0, 1) := zo_42 (zd_b zq_prog_1_method_35_code_3 8 rfl rfl rfl)
theorem d_Ip_mould_105 : decode prog_1_method_35_code 105 = .ok (.getfield 29, 3) := zo_180 (d := 0) (e := 29) (zd_b zq_prog_1_method_35_code_3 9 rfl rfl rfl) (zd_b zq_prog_1_method_35_code_3 10 rfl rfl rfl) (zd_b zq_prog_1_method_35_code_3 11 rfl rfl rfl)
theorem d_Ip_mould_108 : decode prog_1_method_35_code 108 = .ok (.invokespecial 410, 3) := zo_183 (d := 1) (e := 154) (zd_b zq_prog_1_method_35_code_3 12 rfl rfl rfl) (zd_b zq_prog_1_method_35_code_3 13 rfl rfl rfl) (zd_b zq_prog_1_method_35_code_3 14 rfl rfl rfl)
theorem ok_Ip_mould_Mo_init : z_ok M_Ip_mould M_Mo_init 2 := ⟨z_mj5 (i := 234) rfl (by decide +kernel), rfl, ⟨by decide +kernel, by decide +kernel, by decide +kernel⟩, ⟨by decide, by decide⟩, z_mj1 (i := 34) rfl (by decide +kernel), rfl⟩
theorem ln_Ip_410 : Cond.methodLink "Ironpour" 410 M_Mo_init.1 ∈ z_gw := z_mj5 (i := 232) rfl (by decide +kernel)
theorem w_im_Mo_init : Cond.instanceMethod M_Mo_init.1 ∈ z_gw := z_mj5 (i := 233) rfl (by decide +kernel)
theorem d_Ip_mould_111 : decode prog_1_method_35_code 111 = .ok (.invokevirtual 413, 3) := zo_182 (d := 1) (e := 157) (zd_b zq_prog_1_method_35_code_3 15 rfl rfl rfl) (zd_b zq_prog_1_method_35_code_3 16 rfl rfl rfl) (zd_b zq_prog_1_method_35_code_3 17 rfl rfl rfl)
theorem ok_Ip_mould_AL_add_0 : z_ok M_Ip_mould M_AL_add_0 1 := ⟨z_mj6 (i := 34) rfl (by decide +kernel), rfl, ⟨by decide +kernel, by decide +kernel, by decide +kernel⟩, ⟨by decide, by decide⟩, z_mj1 (i := 13) rfl (by decide +kernel), rfl⟩
theorem ln_Ip_413 : Cond.methodLink "Ironpour" 413 M_AL_add_0.1 ∈ z_gw := z_mj6 (i := 31) rfl (by decide +kernel)
theorem d_Ip_mould_114 : decode prog_1_method_35_code 114 = .ok (.pop, 1) := zo_87 (zd_b zq_prog_1_method_35_code_3 18 rfl rfl rfl)
theorem d_Ip_mould_115 : decode prog_1_method_35_code 115 = .ok (.aload_n 0, 1) := zo_42 (zd_b zq_prog_1_method_35_code_3 19 rfl rfl rfl)
theorem d_Ip_mould_116 : decode prog_1_method_35_code 116 = .ok (.getfield 29, 3) := zo_180 (d := 0) (e := 29) (zd_b zq_prog_1_method_35_code_3 20 rfl rfl rfl) (zd_b zq_prog_1_method_35_code_3 21 rfl rfl rfl) (zd_b zq_prog_1_method_35_code_3 22 rfl rfl rfl)
theorem d_Ip_mould_119 : decode prog_1_method_35_code 119 = .ok (.aload_n 0, 1) := zo_42 (zd_b zq_prog_1_method_35_code_3 23 rfl rfl rfl)
theorem d_Ip_mould_120 : decode prog_1_method_35_code 120 = .ok (.getfield 10, 3) := zo_180 (d := 0) (e := 10) (zd_b zq_prog_1_method_35_code_3 24 rfl rfl rfl) (zd_b zq_prog_1_method_35_code_3 25 rfl rfl rfl) (zd_b zq_prog_1_method_35_code_3 26 rfl rfl rfl)
theorem d_Ip_mould_123 : decode prog_1_method_35_code 123 = .ok (.invokevirtual 134, 3) := zo_182 (d := 0) (e := 134) (zd_b zq_prog_1_method_35_code_3 27 rfl rfl rfl) (zd_b zq_prog_1_method_35_code_3 28 rfl rfl rfl) (zd_b zq_prog_1_method_35_code_3 29 rfl rfl rfl)
theorem ok_Ip_mould_Pa_metalCells : z_ok M_Ip_mould M_Pa_metalCells 0 := ⟨z_mj2 (i := 149) rfl (by decide +kernel), rfl, ⟨by decide +kernel, by decide +kernel, by decide +kernel⟩, ⟨by decide, by decide⟩, z_mj1 (i := 2) rfl (by decide +kernel), rfl⟩
theorem d_Ip_mould_126 : decode prog_1_method_35_code 126 = .ok (.invokevirtual 417, 3) := zo_182 (d := 1) (e := 161) (zd_b zq_prog_1_method_35_code_3 30 rfl rfl rfl) (zd_b zq_prog_1_method_35_code_3 31 rfl rfl rfl) (zd_b zq_prog_1_method_35_code_4 0 rfl rfl rfl)
theorem ok_Ip_mould_GS_useFor : z_ok M_Ip_mould M_GS_useFor 1 := ⟨z_mj6 (i := 96) rfl (by decide +kernel), rfl, ⟨by decide +kernel, by decide +kernel, by decide +kernel⟩, ⟨by decide, by decide⟩, z_mj1 (i := 5) rfl (by decide +kernel), rfl⟩
theorem ln_Ip_417 : Cond.methodLink "Ironpour" 417 M_GS_useFor.1 ∈ z_gw := z_mj6 (i := 93) rfl (by decide +kernel)
theorem w_im_GS_useFor : Cond.instanceMethod M_GS_useFor.1 ∈ z_gw := z_mj6 (i := 94) rfl (by decide +kernel)
theorem w_se_GS_useFor : Cond.selects M_GS_useFor.1.cls M_GS_useFor.1 M_GS_useFor.1 ∈ z_gw := z_mj6 (i := 95) rfl (by decide +kernel)
theorem d_Ip_mould_129 : decode prog_1_method_35_code 129 = .ok (.aload_n 0, 1) := zo_42 (zd_b zq_prog_1_method_35_code_4 1 rfl rfl rfl)
theorem d_Ip_mould_130 : decode prog_1_method_35_code 130 = .ok (.getfield 74, 3) := zo_180 (d := 0) (e := 74) (zd_b zq_prog_1_method_35_code_4 2 rfl rfl rfl) (zd_b zq_prog_1_method_35_code_4 3 rfl rfl rfl) (zd_b zq_prog_1_method_35_code_4 4 rfl rfl rfl)
theorem d_Ip_mould_133 : decode prog_1_method_35_code 133 = .ok (.invokevirtual 341, 3) := zo_182 (d := 1) (e := 85) (zd_b zq_prog_1_method_35_code_4 5 rfl rfl rfl) (zd_b zq_prog_1_method_35_code_4 6 rfl rfl rfl) (zd_b zq_prog_1_method_35_code_4 7 rfl rfl rfl)
theorem d_Ip_mould_136 : decode prog_1_method_35_code 136 = .ok (.ireturn, 1) := zo_172 (zd_b zq_prog_1_method_35_code_4 8 rfl rfl rfl)
