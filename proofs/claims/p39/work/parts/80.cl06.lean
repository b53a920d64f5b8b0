theorem d_Ip_pour_110 : decode prog_1_method_37_code 110 = .ok (.ireturn, 1) := zo_172 (zd_b zq_prog_1_method_37_code_3 14 rfl rfl rfl)
set_option maxHeartbeats 4000000 in
set_option maxRecDepth 100000 in
theorem Qx_Ip_pourN {g : zG} {ad : Nat → Nat} {t : zTT} {u : zNN} {w : zW} (hI : IV g ad t u w) (h0 : ¬ u.1 0 = 0) (h1 : ¬ (t.1 43).1 0 = 0) (h2 : 1250 ≤ (t.1 42).1 0) (h3 : u.1 1 < 30) (n0 : Nat → Nat) (hn0 : u.1 = n0) : zMB g M_Ip_pour [.ref (ad 0)] w (fun o w1 => ∃ X : zTr, o = .inl (some (.int (nI (n0 1 + 1) - 1))) ∧ ∃ u2 : zNN, u2.1 = z_upL (z_upL n0 0 (n0 0 - 1)) 1 (n0 1 + 1) ∧ IV g ad (poT t X (n0 1)) u2 w1) 6 60 := by
  obtain ⟨e_a, wf_a, k_a⟩ := hI.1.2 0 (by decide)
  obtain rfl := kd_0.mp k_a
  obtain ⟨e_la, wf_la, k_la⟩ := hI.1.2 42 (by decide)
  obtain ⟨c_la_0, rfl⟩ := kd_42.mp k_la
  obtain ⟨e_lab, wf_lab, k_lab⟩ := hI.1.2 43 (by decide)
  obtain ⟨c_lab_0, rfl⟩ := kd_43.mp k_lab
  obtain ⟨e_labg, wf_labg, k_labg⟩ := hI.1.2 44 (by decide)
  obtain rfl := kd_44.mp k_labg
  have hsz0 := hI.sz
  have h33 := hI.n5 1 (by decide)
  obtain ⟨m9, hm9⟩ : ∃ m9, u.1 0 = m9 + 1 := ⟨u.1 0 - 1, by omega⟩
  have hne0 := h1
  refine y_of (by decide) rfl (Nat.le_of_ble_eq_true rfl) (y_base (cs := [((ad 0), .inr (11, [.ref (ad 1), .ref (ad 5), .ref (ad 18), .ref (ad 31), .ref (ad 32), .ref (ad 36), .ref (ad 42), .ref (ad 45), .ref (ad 47), .ref (ad 49), .ref (ad 50), .ref (ad 51)])), ((ad 42), .inr (5, [.ref (ad 43), .int ((t.1 42).1 0), .int ((t.1 42).1 1), .int ((t.1 42).1 2)])), ((ad 43), .inr (6, [.ref (ad 44), .int ((t.1 43).1 0)])), ((ad 44), .inl (3, 4, .inr (.inl ((t.1 44).2.1))))]) (hI.1.I [0, 42, 43, 44] _ rfl (by decide) (by decide) (List.forall_mem_cons.mpr ⟨wf_a, (List.forall_mem_cons.mpr ⟨wf_la, (List.forall_mem_cons.mpr ⟨wf_lab, (List.forall_mem_cons.mpr ⟨wf_labg, (fun _ h => nomatch h)⟩)⟩)⟩)⟩)) ?_)
  refine y_lvE (lv2 := [(0, .ref (ad 0))]) rfl ?_
  refine y_aload_n d_Ip_pour_0 rfl 0 rfl ?_
  refine y_get fs_Ip_74 d_Ip_pour_1 (q0 := 0) rfl rfl ?_
  refine yw_callVL (As := []) (rest := []) (ci := 13) rfl (fun wA hA => ((hI.gen (t2 := t) (is := [0, 42, 43, 44]) (L2 := []) hA rfl ⟨kd_0.mpr rfl, kd_42.mpr ⟨c_la_0, rfl⟩, kd_43.mpr ⟨c_lab_0, rfl⟩, kd_44.mpr rfl, trivial⟩ (by decide) (by decide) (fun _ h => nomatch h) (fun _ h => nomatch h) (fun _ _ _ => rfl) (fun h => h) rfl).2.1.1 0 (by decide)).ob) ln_Ip_422 w_im_AL_isEmpty w_se_AL_isEmpty ok_Ip_pour_AL_isEmpty d_Ip_pour_4 (fun wA hA => Q_isEmpty ((hI.gen (t2 := t) (is := [0, 42, 43, 44]) (L2 := []) hA rfl ⟨kd_0.mpr rfl, kd_42.mpr ⟨c_la_0, rfl⟩, kd_43.mpr ⟨c_lab_0, rfl⟩, kd_44.mpr rfl, trivial⟩ (by decide) (by decide) (fun _ h => nomatch h) (fun _ h => nomatch h) (fun _ _ _ => rfl) (fun h => h) rfl).2.1.1 0 (by decide))) rfl rfl (Nat.le_of_ble_eq_true rfl) (by omega) (by omega) (fun wA4 hA4 E wB4 hx => ?_) (fun wA4 hA4 v wB4 hx => ?_)
  · exact absurd hx.1 (by simp)
  · obtain ⟨e1, e2⟩ := hx
    rw [if_neg h0] at e1
    cases e1
    refine yw_st (st2 := [.int 0]) rfl ?_
    subst e2
    refine y_go hA4 ?_
    refine y_if_eq (tgt := 21) d_Ip_pour_7 (by decide) (fun c_7 => ?_) (fun c_7 => ?_)
    · refine y_aload_n d_Ip_pour_21 rfl 0 rfl ?_
      refine y_get fs_Ip_50 d_Ip_pour_22 (q0 := 0) rfl rfl ?_
      refine y_callV (As := []) (rest := []) (csC := [((ad 42), .inr (5, [.ref (ad 43), .int ((t.1 42).1 0), .int ((t.1 42).1 1), .int ((t.1 42).1 2)])), ((ad 43), .inr (6, [.ref (ad 44), .int ((t.1 43).1 0)])), ((ad 44), .inl (3, 4, .inr (.inl ((t.1 44).2.1))))]) (is := [1, 2, 3]) (q0 := 1) rfl rfl ln_Ip_314 w_im_La_isEmpty w_se_La_isEmpty ok_Ip_pour_La_isEmpty d_Ip_pour_25 (C_La_isEmpty g (ad 42) (ad 43) (ad 44) ((t.1 44).2.1) ((t.1 42).1 0) ((t.1 42).1 1) ((t.1 42).1 2) ((t.1 43).1 0)) rfl rfl (Nat.le_of_ble_eq_true rfl) rfl (by decide) (by omega) (by omega) (fun E cs1 hx => ?_) (fun v cs1 hx => ?_)
      · exact absurd hx.1 (by simp)
      · obtain ⟨e1, rfl⟩ := hx
        cases e1
        refine ⟨rfl, ?_⟩
        refine y_st (st2 := [.int (if ((t.1 43).1 0) = 0 then 1 else 0)]) rfl ?_
        refine y_cs (cs2 := [((ad 0), .inr (11, [.ref (ad 1), .ref (ad 5), .ref (ad 18), .ref (ad 31), .ref (ad 32), .ref (ad 36), .ref (ad 42), .ref (ad 45), .ref (ad 47), .ref (ad 49), .ref (ad 50), .ref (ad 51)])), ((ad 42), .inr (5, [.ref (ad 43), .int ((t.1 42).1 0), .int ((t.1 42).1 1), .int ((t.1 42).1 2)])), ((ad 43), .inr (6, [.ref (ad 44), .int ((t.1 43).1 0)])), ((ad 44), .inl (3, 4, .inr (.inl ((t.1 44).2.1))))]) rfl ?_
        refine y_if_ne (tgt := 44) d_Ip_pour_28 (by decide) (fun c_28 => ?_) (fun c_28 => ?_)
        · exact absurd (z_b1 c_28) h1
        · refine y_aload_n d_Ip_pour_31 rfl 0 rfl ?_
          refine y_get fs_Ip_50 d_Ip_pour_32 (q0 := 0) rfl rfl ?_
          refine y_get fs_Ip_353 d_Ip_pour_35 (q0 := 1) rfl rfl ?_
          refine y_sipush d_Ip_pour_38 (v := 1250) (by decide) ?_
          refine y_icmp_ge (tgt := 55) d_Ip_pour_41 (by decide) (fun c_41 => ?_) (fun c_41 => ?_)
          · refine y_aload_n d_Ip_pour_55 rfl 0 rfl ?_
            refine y_get fs_Ip_78 d_Ip_pour_56 (q0 := 0) rfl rfl ?_
            refine yw_callVL (As := []) (rest := []) (ci := 13) rfl (fun wA hA => ((hI.gen (t2 := t) (is := [0, 42, 43, 44]) (L2 := []) hA rfl ⟨kd_0.mpr rfl, kd_42.mpr ⟨c_la_0, rfl⟩, kd_43.mpr ⟨c_lab_0, rfl⟩, kd_44.mpr rfl, trivial⟩ (by decide) (by decide) (fun _ h => nomatch h) (fun _ h => nomatch h) (fun _ _ _ => rfl) (fun h => h) rfl).2.1.1 1 (by decide)).ob) ln_Ip_341 w_im_AL_size w_se_AL_size ok_Ip_pour_AL_size d_Ip_pour_59 (fun wA hA => Q_size ((hI.gen (t2 := t) (is := [0, 42, 43, 44]) (L2 := []) hA rfl ⟨kd_0.mpr rfl, kd_42.mpr ⟨c_la_0, rfl⟩, kd_43.mpr ⟨c_lab_0, rfl⟩, kd_44.mpr rfl, trivial⟩ (by decide) (by decide) (fun _ h => nomatch h) (fun _ h => nomatch h) (fun _ _ _ => rfl) (fun h => h) rfl).2.1.1 1 (by decide))) rfl rfl (Nat.le_of_ble_eq_true rfl) (by omega) (by omega) (fun wA59 hA59 E wB59 hx => ?_) (fun wA59 hA59 v wB59 hx => ?_)
            · exact absurd hx.1 (by simp)
            · obtain ⟨e1, e2⟩ := hx
              cases e1
              refine yw_st (st2 := [.int (nI (u.1 1))]) rfl ?_
              subst e2
              refine y_go hA59 ?_
              refine y_bipush d_Ip_pour_62 (v := 30) (by decide) ?_
              refine y_icmp_lt (tgt := 78) d_Ip_pour_64 (by decide) (fun c_64 => ?_) (fun c_64 => ?_)
              · refine y_aload_n d_Ip_pour_78 rfl 0 rfl ?_
                refine y_get fs_Ip_78 d_Ip_pour_79 (q0 := 0) rfl rfl ?_
                refine y_aload_n d_Ip_pour_82 rfl 0 rfl ?_
                refine y_aload_n d_Ip_pour_83 rfl 0 rfl ?_
                refine y_get fs_Ip_74 d_Ip_pour_84 (q0 := 0) rfl rfl ?_
                refine y_iconst d_Ip_pour_87 (v := 0) (by decide) ?_
                refine yw_callVL (As := [.int 0]) (rest := [.ref (ad 0), .ref (ad 51)]) (ci := 13) rfl (fun wA hA => ((hI.gen (t2 := t) (is := [0, 42, 43, 44]) (L2 := []) hA rfl ⟨kd_0.mpr rfl, kd_42.mpr ⟨c_la_0, rfl⟩, kd_43.mpr ⟨c_lab_0, rfl⟩, kd_44.mpr rfl, trivial⟩ (by decide) (by decide) (fun _ h => nomatch h) (fun _ h => nomatch h) (fun _ _ _ => rfl) (fun h => h) rfl).2.1.1 0 (by decide)).ob) ln_Ip_429 w_im_AL_remove w_se_AL_remove ok_Ip_pour_AL_remove d_Ip_pour_88 (fun wA hA => Q_rem (i := 0) (m := m9) ((hI.gen (t2 := t) (is := [0, 42, 43, 44]) (L2 := []) hA rfl ⟨kd_0.mpr rfl, kd_42.mpr ⟨c_la_0, rfl⟩, kd_43.mpr ⟨c_lab_0, rfl⟩, kd_44.mpr rfl, trivial⟩ (by decide) (by decide) (fun _ h => nomatch h) (fun _ h => nomatch h) (fun _ _ _ => rfl) (fun h => h) rfl).2.1.1 0 (by decide)) hm9 (fun k hk => ((hI.gen (t2 := t) (is := [0, 42, 43, 44]) (L2 := []) hA rfl ⟨kd_0.mpr rfl, kd_42.mpr ⟨c_la_0, rfl⟩, kd_43.mpr ⟨c_lab_0, rfl⟩, kd_44.mpr rfl, trivial⟩ (by decide) (by decide) (fun _ h => nomatch h) (fun _ h => nomatch h) (fun _ _ _ => rfl) (fun h => h) rfl).2.1.2.1 0 (by decide) k (show k < u.1 0 by omega)).eltc0) (Nat.zero_le _)) rfl rfl (Nat.le_of_ble_eq_true rfl) (by omega) (by omega) (fun wA88 hA88 E wB88 hx => ?_) (fun wA88 hA88 v wB88 hx => ?_)
                · exact absurd hx.1 (by simp)
                · obtain ⟨e1, e2, e3⟩ := hx
                  cases e1
                  refine yw_st (st2 := [.ref (u.2.2 0 0), .ref (ad 0), .ref (ad 51)]) rfl ?_
                  have hsz := (hI.gen (t2 := t) (is := [0, 42, 43, 44]) (L2 := []) hA88 rfl ⟨kd_0.mpr rfl, kd_42.mpr ⟨c_la_0, rfl⟩, kd_43.mpr ⟨c_lab_0, rfl⟩, kd_44.mpr rfl, trivial⟩ (by decide) (by decide) (fun _ h => nomatch h) (fun _ h => nomatch h) (fun _ _ _ => rfl) (fun h => h) rfl).sz
                  have hI8 := (hI.gen (t2 := t) (is := [0, 42, 43, 44]) (L2 := []) hA88 rfl ⟨kd_0.mpr rfl, kd_42.mpr ⟨c_la_0, rfl⟩, kd_43.mpr ⟨c_lab_0, rfl⟩, kd_44.mpr rfl, trivial⟩ (by decide) (by decide) (fun _ h => nomatch h) (fun _ h => nomatch h) (fun _ _ _ => rfl) (fun h => h) rfl).iw
                  have hE := hI8.elk (L := 0) (by decide) e3 (hI8.2.1.2.1 0 (by decide) 0 (show 0 < u.1 0 by omega))
                  have hI : IV g ad (tls t 0 (z_dlV (t.2 0) 0)) _ _ := (hI8.rem (L := 0) (m := m9) (by decide) hm9 (Nat.zero_le _) e2 e3).iv (hsz.s0 (by have h9 : u.1 0 ≤ 10 := hsz.1; omega))
                  obtain ⟨nf_d, c_d, hw_d, hx_d, nfc_d, hwc_d, hch_d⟩ := hE
                  obtain ⟨e_a, wf_a, k_a⟩ := hI.1.2 0 (by decide)
                  obtain rfl := kd_0.mp k_a
                  obtain ⟨e_la, wf_la, k_la⟩ := hI.1.2 42 (by decide)
                  obtain ⟨c_la_0, rfl⟩ := kd_42.mp k_la
                  obtain ⟨e_lab, wf_lab, k_lab⟩ := hI.1.2 43 (by decide)
                  obtain ⟨c_lab_0, rfl⟩ := kd_43.mp k_lab
                  obtain ⟨e_labg, wf_labg, k_labg⟩ := hI.1.2 44 (by decide)
                  obtain rfl := kd_44.mp k_labg
                  refine y_base (cs := [((ad 0), .inr (11, [.ref (ad 1), .ref (ad 5), .ref (ad 18), .ref (ad 31), .ref (ad 32), .ref (ad 36), .ref (ad 42), .ref (ad 45), .ref (ad 47), .ref (ad 49), .ref (ad 50), .ref (ad 51)])), ((ad 42), .inr (5, [.ref (ad 43), .int (((tls t 0 (z_dlV (t.2 0) 0)).1 42).1 0), .int (((tls t 0 (z_dlV (t.2 0) 0)).1 42).1 1), .int (((tls t 0 (z_dlV (t.2 0) 0)).1 42).1 2)])), ((ad 43), .inr (6, [.ref (ad 44), .int (((tls t 0 (z_dlV (t.2 0) 0)).1 43).1 0)])), ((ad 44), .inl (3, 4, .inr (.inl (((tls t 0 (z_dlV (t.2 0) 0)).1 44).2.1)))), ((u.2.2 0 0), .inr (7, [.ref c_d, .int (nI ((t.2 0 0).2.2.2 0)), .int ((t.2 0 0).1 0), .int ((t.2 0 0).1 1), .int ((t.2 0 0).1 2), .int ((t.2 0 0).1 3), .int ((t.2 0 0).1 4), .int ((t.2 0 0).1 5)])), (c_d, .inl (1, 108, .inl ((t.2 0 0).2.1)))]) (hI.1.B [0, 42, 43, 44] [((ad 0), .inr (11, [.ref (ad 1), .ref (ad 5), .ref (ad 18), .ref (ad 31), .ref (ad 32), .ref (ad 36), .ref (ad 42), .ref (ad 45), .ref (ad 47), .ref (ad 49), .ref (ad 50), .ref (ad 51)])), ((ad 42), .inr (5, [.ref (ad 43), .int (((tls t 0 (z_dlV (t.2 0) 0)).1 42).1 0), .int (((tls t 0 (z_dlV (t.2 0) 0)).1 42).1 1), .int (((tls t 0 (z_dlV (t.2 0) 0)).1 42).1 2)])), ((ad 43), .inr (6, [.ref (ad 44), .int (((tls t 0 (z_dlV (t.2 0) 0)).1 43).1 0)])), ((ad 44), .inl (3, 4, .inr (.inl (((tls t 0 (z_dlV (t.2 0) 0)).1 44).2.1))))] [((u.2.2 0 0), .inr (7, [.ref c_d, .int (nI ((t.2 0 0).2.2.2 0)), .int ((t.2 0 0).1 0), .int ((t.2 0 0).1 1), .int ((t.2 0 0).1 2), .int ((t.2 0 0).1 3), .int ((t.2 0 0).1 4), .int ((t.2 0 0).1 5)])), (c_d, .inl (1, 108, .inl ((t.2 0 0).2.1)))] rfl (by decide) (by decide) (List.forall_mem_cons.mpr ⟨wf_a, (List.forall_mem_cons.mpr ⟨wf_la, (List.forall_mem_cons.mpr ⟨wf_lab, (List.forall_mem_cons.mpr ⟨wf_labg, (fun _ h => nomatch h)⟩)⟩)⟩)⟩) (List.forall_mem_cons.mpr ⟨hw_d, (List.forall_mem_cons.mpr ⟨hwc_d, (fun _ h => nomatch h)⟩)⟩) (List.forall_mem_cons.mpr ⟨nf_d, (List.forall_mem_cons.mpr ⟨nfc_d, (fun _ h => nomatch h)⟩)⟩) (by simp [z_kd])) ?_
                  refine y_castO lk_Ip_348 d_Ip_pour_91 (q0 := 4) rfl rfl ?_
                  refine yw_callV (As := [.ref (u.2.2 0 0)]) (rest := [.ref (ad 51)]) (q0 := 0) rfl rfl ln_Ip_432 w_im_Ip_cast w_se_Ip_cast ok_Ip_pour_Ip_cast d_Ip_pour_94 (fun wA hA => Qx_cast (hI.gen (t2 := (tls t 0 (z_dlV (t.2 0) 0))) (is := [0, 42, 43, 44]) (L2 := [(u.2.2 0 0), c_d]) hA rfl ⟨kd_0.mpr rfl, kd_42.mpr ⟨c_la_0, rfl⟩, kd_43.mpr ⟨c_lab_0, rfl⟩, kd_44.mpr rfl, trivial⟩ (by decide) (by decide) (List.forall_mem_cons.mpr ⟨nf_d, (List.forall_mem_cons.mpr ⟨nfc_d, (fun _ h => nomatch h)⟩)⟩) (List.forall_mem_cons.mpr ⟨⟨_, hw_d, hA.at (q0 := 4) rfl⟩, (List.forall_mem_cons.mpr ⟨⟨_, hwc_d, hA.at (q0 := 5) rfl⟩, (fun _ h => nomatch h)⟩)⟩) (fun _ _ _ => rfl) (fun h => h) rfl) (u.2.2 0 0) (t.2 0 0) (⟨nf_d, c_d, hA.at (q0 := 4) rfl, hx_d, nfc_d, hA.at (q0 := 5) rfl, hch_d⟩ : EL ad 0 wA _ (t.2 0 0)) hne0) rfl rfl (Nat.le_of_ble_eq_true rfl) (by omega) (by omega) (fun wA94 hA94 E wB94 hx => ?_) (fun wA94 hA94 v wB94 hx => ?_)
                  · obtain ⟨q, X, e1, -⟩ := hx
                    cases e1
                  · obtain ⟨q7, X7, e1, hI7, hE7, hn7⟩ := hx
                    cases e1
                    refine yw_st (st2 := [.ref q7, .ref (ad 51)]) rfl ?_
                    have hI := hI7
                    obtain ⟨e_a, wf_a, k_a⟩ := hI.1.2 0 (by decide)
                    obtain rfl := kd_0.mp k_a
                    have hJ := hI.1.I [0] [((ad 0), .inr (11, [.ref (ad 1), .ref (ad 5), .ref (ad 18), .ref (ad 31), .ref (ad 32), .ref (ad 36), .ref (ad 42), .ref (ad 45), .ref (ad 47), .ref (ad 49), .ref (ad 50), .ref (ad 51)]))] rfl (by decide) (by decide) (List.forall_mem_cons.mpr ⟨wf_a, (fun _ h => nomatch h)⟩)
                    refine y_base hJ ?_
                    refine yw_callVL (As := [.ref q7]) (rest := []) (ci := 13) rfl (fun wA hA => ((hI.gen (t2 := (cstT (tls t 0 (z_dlV (t.2 0) 0)) (amI (tls t 0 (z_dlV (t.2 0) 0)) (t.2 0 0)))) (is := [0]) (L2 := []) hA rfl ⟨kd_0.mpr rfl, trivial⟩ (by decide) (by decide) (fun _ h => nomatch h) (fun _ h => nomatch h) (fun _ _ _ => rfl) (fun h => h) rfl).2.1.1 1 (by decide)).ob) ln_Ip_413 w_im_AL_add_0 w_se_AL_add_0 ok_Ip_pour_AL_add_0 d_Ip_pour_97 (fun wA hA => Q_add ((hI.gen (t2 := (cstT (tls t 0 (z_dlV (t.2 0) 0)) (amI (tls t 0 (z_dlV (t.2 0) 0)) (t.2 0 0)))) (is := [0]) (L2 := []) hA rfl ⟨kd_0.mpr rfl, trivial⟩ (by decide) (by decide) (fun _ h => nomatch h) (fun _ h => nomatch h) (fun _ _ _ => rfl) (fun h => h) rfl).2.1.1 1 (by decide)) (fun k hk => ((hI.gen (t2 := (cstT (tls t 0 (z_dlV (t.2 0) 0)) (amI (tls t 0 (z_dlV (t.2 0) 0)) (t.2 0 0)))) (is := [0]) (L2 := []) hA rfl ⟨kd_0.mpr rfl, trivial⟩ (by decide) (by decide) (fun _ h => nomatch h) (fun _ h => nomatch h) (fun _ _ _ => rfl) (fun h => h) rfl).2.1.2.1 1 (by decide) k hk).eltc1) (EL.eltc1 ((z_I.same hJ hA).symm ▸ hE7 : EL ad 1 wA q7 _)) (by have h9 : u.1 1 ≤ 30 := hsz0.2.1; show u.1 1 < 33; omega)) rfl rfl (Nat.le_of_ble_eq_true rfl) (by omega) (by omega) (fun wA97 hA97 E wB97 hx => ?_) (fun wA97 hA97 v wB97 hx => ?_)
                    · exact absurd hx.1 (by simp)
                    · obtain ⟨e1, bk9, e2, e3, e4⟩ := hx
                      cases e1
                      refine yw_st (st2 := [.int 1]) rfl ?_
                      obtain rfl := z_I.same hJ hA97
                      have hI : IV g ad (poT t X7 (u.1 1)) _ _ := (hI.iw.app (L := 1) (by decide) hE7 (hn7 1 (by decide)) e2 e3 e4).iv (hI.sz.s1 (by show u.1 1 + 1 ≤ 30; omega))
                      obtain ⟨e_a, wf_a, k_a⟩ := hI.1.2 0 (by decide)
                      obtain rfl := kd_0.mp k_a
                      refine y_base (cs := [((ad 0), .inr (11, [.ref (ad 1), .ref (ad 5), .ref (ad 18), .ref (ad 31), .ref (ad 32), .ref (ad 36), .ref (ad 42), .ref (ad 45), .ref (ad 47), .ref (ad 49), .ref (ad 50), .ref (ad 51)]))]) (hI.1.I [0] _ rfl (by decide) (by decide) (List.forall_mem_cons.mpr ⟨wf_a, (fun _ h => nomatch h)⟩)) ?_
                      refine y_pop d_Ip_pour_100 rfl ?_
                      refine y_aload_n d_Ip_pour_101 rfl 0 rfl ?_
                      refine y_get fs_Ip_78 d_Ip_pour_102 (q0 := 0) rfl rfl ?_
                      refine yw_callVL (As := []) (rest := []) (ci := 13) rfl (fun wA hA => ((hI.gen (t2 := (poT t X7 (u.1 1))) (is := [0]) (L2 := []) hA rfl ⟨kd_0.mpr rfl, trivial⟩ (by decide) (by decide) (fun _ h => nomatch h) (fun _ h => nomatch h) (fun _ _ _ => rfl) (fun h => h) rfl).2.1.1 1 (by decide)).ob) ln_Ip_341 w_im_AL_size w_se_AL_size ok_Ip_pour_AL_size d_Ip_pour_105 (fun wA hA => Q_size ((hI.gen (t2 := (poT t X7 (u.1 1))) (is := [0]) (L2 := []) hA rfl ⟨kd_0.mpr rfl, trivial⟩ (by decide) (by decide) (fun _ h => nomatch h) (fun _ h => nomatch h) (fun _ _ _ => rfl) (fun h => h) rfl).2.1.1 1 (by decide))) rfl rfl (Nat.le_of_ble_eq_true rfl) (by omega) (by omega) (fun wA105 hA105 E wB105 hx => ?_) (fun wA105 hA105 v wB105 hx => ?_)
                      · exact absurd hx.1 (by simp)
                      · obtain ⟨e1, e2⟩ := hx
                        cases e1
                        refine yw_st (st2 := [.int (nI (u.1 1 + 1))]) rfl ?_
                        subst e2
                        refine y_go hA105 ?_
                        refine y_iconst d_Ip_pour_108 (v := 1) (by decide) ?_
                        refine y_isub d_Ip_pour_109 (v := nI (u.1 1 + 1) - 1) rfl ?_
                        refine y_iret d_Ip_pour_110 rfl rfl ?_
                        subst hn0
                        exact fun w1 h1 => ⟨X7, rfl, _, by rw [hm9]; rfl, (hI.gen (t2 := (poT t X7 (u.1 1))) (is := [0]) (L2 := []) h1 rfl ⟨kd_0.mpr rfl, trivial⟩ (by decide) (by decide) (fun _ h => nomatch h) (fun _ h => nomatch h) (fun _ _ _ => rfl) (fun h => h) rfl)⟩
              · exact absurd ((nI_ltI (by omega) (by decide)).mpr h3) c_64
          · exact absurd h2 c_41
    · exact absurd c_7 (by decide)

