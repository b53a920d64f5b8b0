set_option maxHeartbeats 4000000 in
set_option maxRecDepth 100000 in
theorem L_Qx_Ip_minutesN_31 (g : zG) {ad : Nat → Nat} {t : zTT} {u : zNN} {w : zW} (hI : IV g ad t u w) (m9 : Nat) (hm : m9 ≤ 60) (hw : 1 ≤ nI m9 ∧ nI m9 ≤ 60) : ∀ (d i : Nat) (w : zW), IV g ad (elT 0 (wtV9 (nI m9)) (fdT t m9) i) u w → i ≤ u.1 0 → u.1 0 < i + d → DW g M_Ip_minutes (fun o w1 => o = .inl (some (.int (if (t.1 43).1 0 = 0 then 0 else (if 20 < (t.1 42).1 0 - 4 * nI m9 then (t.1 42).1 0 - 4 * nI m9 else 20)))) ∧ IV g ad (elT 0 (wtV9 (nI m9)) (fdT t m9) (u.1 0)) u w1) w 31 [(2, .int (nI i)), (0, .ref (ad 0)), (1, .int (nI m9))] [] 1 6 := by
  have hI0 := hI
  clear hI
  intro d
  induction d with
  | zero => intro i w  hI h1 h2; exact absurd h2 (by omega)
  | succ d ih =>
    intro i w  hI h1 h2
    obtain ⟨e_a, wf_a, k_a⟩ := hI.1.2 0 (by decide)
    obtain rfl := kd_0.mp k_a
    obtain ⟨e_la, wf_la, k_la⟩ := hI.1.2 42 (by decide)
    obtain ⟨c_la_0, rfl⟩ := kd_42.mp k_la
    obtain ⟨e_lab, wf_lab, k_lab⟩ := hI.1.2 43 (by decide)
    obtain ⟨c_lab_0, rfl⟩ := kd_43.mp k_lab
    obtain ⟨e_labg, wf_labg, k_labg⟩ := hI.1.2 44 (by decide)
    obtain rfl := kd_44.mp k_labg
    have h33 := hI.n5 0 (by decide)
    refine y_base (hI.1.I [0, 42, 43, 44] [((ad 0), .inr (11, [.ref (ad 1), .ref (ad 5), .ref (ad 18), .ref (ad 31), .ref (ad 32), .ref (ad 36), .ref (ad 42), .ref (ad 45), .ref (ad 47), .ref (ad 49), .ref (ad 50), .ref (ad 51)])), ((ad 42), .inr (5, [.ref (ad 43), .int (((elT 0 (wtV9 (nI m9)) (fdT t m9) i).1 42).1 0), .int (((elT 0 (wtV9 (nI m9)) (fdT t m9) i).1 42).1 1), .int (((elT 0 (wtV9 (nI m9)) (fdT t m9) i).1 42).1 2)])), ((ad 43), .inr (6, [.ref (ad 44), .int (((elT 0 (wtV9 (nI m9)) (fdT t m9) i).1 43).1 0)])), ((ad 44), .inl (3, 4, .inr (.inl (((elT 0 (wtV9 (nI m9)) (fdT t m9) i).1 44).2.1))))] rfl (by decide) (by decide) (List.forall_mem_cons.mpr ⟨wf_a, (List.forall_mem_cons.mpr ⟨wf_la, (List.forall_mem_cons.mpr ⟨wf_lab, (List.forall_mem_cons.mpr ⟨wf_labg, (fun _ h => nomatch h)⟩)⟩)⟩)⟩)) ?_
    refine y_iload_n d_Ip_minutes_31 rfl 0 rfl ?_
    refine y_aload_n d_Ip_minutes_32 rfl 1 rfl ?_
    refine y_get fs_Ip_74 d_Ip_minutes_33 (q0 := 0) rfl rfl ?_
    refine yw_callVL (As := []) (rest := [.int (nI i)]) (ci := 13) rfl (fun wA hA => ((hI.gen (t2 := (elT 0 (wtV9 (nI m9)) (fdT t m9) i)) (is := [0, 42, 43, 44]) (L2 := []) hA rfl ⟨kd_0.mpr rfl, kd_42.mpr ⟨c_la_0, rfl⟩, kd_43.mpr ⟨c_lab_0, rfl⟩, kd_44.mpr rfl, trivial⟩ (by decide) (by decide) (fun _ h => nomatch h) (fun _ h => nomatch h) (fun _ _ _ => rfl) (fun h => h) rfl).2.1.1 0 (by decide)).ob) ln_Ip_341 w_im_AL_size w_se_AL_size ok_Ip_minutes_AL_size d_Ip_minutes_36 (fun wA hA => Q_size ((hI.gen (t2 := (elT 0 (wtV9 (nI m9)) (fdT t m9) i)) (is := [0, 42, 43, 44]) (L2 := []) hA rfl ⟨kd_0.mpr rfl, kd_42.mpr ⟨c_la_0, rfl⟩, kd_43.mpr ⟨c_lab_0, rfl⟩, kd_44.mpr rfl, trivial⟩ (by decide) (by decide) (fun _ h => nomatch h) (fun _ h => nomatch h) (fun _ _ _ => rfl) (fun h => h) rfl).2.1.1 0 (by decide))) rfl rfl (Nat.le_of_ble_eq_true rfl) (by omega) (by omega) (fun wA36 hA36 E wB36 hx => ?_) (fun wA36 hA36 v wB36 hx => ?_)
    · exact absurd hx.1 (by simp)
    · obtain ⟨e1, e2⟩ := hx
      cases e1
      refine yw_st (st2 := [.int (nI (u.1 0)), .int (nI i)]) rfl ?_
      subst e2
      refine y_go hA36 ?_
      refine y_icmp_ge (tgt := 68) d_Ip_minutes_39 (by decide) (fun c_39 => ?_) (fun c_39 => ?_)
      · have hn := z_le (a := (u.1 0)) (b := i) (by omega) (by omega) c_39
        obtain rfl : i = u.1 0 := by omega
        refine y_aload_n d_Ip_minutes_68 rfl 1 rfl ?_
        refine y_get fs_Ip_50 d_Ip_minutes_69 (q0 := 0) rfl rfl ?_
        refine y_callV (As := []) (rest := []) (csC := [((ad 42), .inr (5, [.ref (ad 43), .int (((elT 0 (wtV9 (nI m9)) (fdT t m9) (u.1 0)).1 42).1 0), .int (((elT 0 (wtV9 (nI m9)) (fdT t m9) (u.1 0)).1 42).1 1), .int (((elT 0 (wtV9 (nI m9)) (fdT t m9) (u.1 0)).1 42).1 2)])), ((ad 43), .inr (6, [.ref (ad 44), .int (((elT 0 (wtV9 (nI m9)) (fdT t m9) (u.1 0)).1 43).1 0)])), ((ad 44), .inl (3, 4, .inr (.inl (((elT 0 (wtV9 (nI m9)) (fdT t m9) (u.1 0)).1 44).2.1))))]) (is := [1, 2, 3]) (q0 := 1) rfl rfl ln_Ip_314 w_im_La_isEmpty w_se_La_isEmpty ok_Ip_minutes_La_isEmpty d_Ip_minutes_72 (C_La_isEmpty g (ad 42) (ad 43) (ad 44) (((elT 0 (wtV9 (nI m9)) (fdT t m9) (u.1 0)).1 44).2.1) (((elT 0 (wtV9 (nI m9)) (fdT t m9) (u.1 0)).1 42).1 0) (((elT 0 (wtV9 (nI m9)) (fdT t m9) (u.1 0)).1 42).1 1) (((elT 0 (wtV9 (nI m9)) (fdT t m9) (u.1 0)).1 42).1 2) (((elT 0 (wtV9 (nI m9)) (fdT t m9) (u.1 0)).1 43).1 0)) rfl rfl (Nat.le_of_ble_eq_true rfl) rfl (by decide) (by omega) (by omega) (fun E cs1 hx => ?_) (fun v cs1 hx => ?_)
        · exact absurd hx.1 (by simp)
        · obtain ⟨e1, rfl⟩ := hx
          cases e1
          refine ⟨rfl, ?_⟩
          refine y_st (st2 := [.int (if (((elT 0 (wtV9 (nI m9)) (fdT t m9) (u.1 0)).1 43).1 0) = 0 then 1 else 0)]) rfl ?_
          refine y_cs (cs2 := [((ad 0), .inr (11, [.ref (ad 1), .ref (ad 5), .ref (ad 18), .ref (ad 31), .ref (ad 32), .ref (ad 36), .ref (ad 42), .ref (ad 45), .ref (ad 47), .ref (ad 49), .ref (ad 50), .ref (ad 51)])), ((ad 42), .inr (5, [.ref (ad 43), .int (((elT 0 (wtV9 (nI m9)) (fdT t m9) (u.1 0)).1 42).1 0), .int (((elT 0 (wtV9 (nI m9)) (fdT t m9) (u.1 0)).1 42).1 1), .int (((elT 0 (wtV9 (nI m9)) (fdT t m9) (u.1 0)).1 42).1 2)])), ((ad 43), .inr (6, [.ref (ad 44), .int (((elT 0 (wtV9 (nI m9)) (fdT t m9) (u.1 0)).1 43).1 0)])), ((ad 44), .inl (3, 4, .inr (.inl (((elT 0 (wtV9 (nI m9)) (fdT t m9) (u.1 0)).1 44).2.1))))]) rfl ?_
          refine y_if_eq (tgt := 82) d_Ip_minutes_75 (by decide) (fun c_75 => ?_) (fun c_75 => ?_)
          · refine y_aload_n d_Ip_minutes_82 rfl 1 rfl ?_
            refine y_get fs_Ip_50 d_Ip_minutes_83 (q0 := 0) rfl rfl ?_
            refine y_get fs_Ip_353 d_Ip_minutes_86 (q0 := 1) rfl rfl ?_
            refine y_iret d_Ip_minutes_89 rfl rfl ?_
            exact fun w1 h1 => ⟨by first | exact congrArg (fun x : Int32 => (.inl (some (.int x)) : zO)) (if_pos (show (t.1 43).1 0 = 0 from z_b1 c_75)).symm | exact congrArg (fun x : Int32 => (.inl (some (.int x)) : zO)) (if_neg (show ¬ (t.1 43).1 0 = 0 from z_b0 c_75)).symm, (hI.gen (t2 := (elT 0 (wtV9 (nI m9)) (fdT t m9) (u.1 0))) (is := [0, 42, 43, 44]) (L2 := []) h1 rfl ⟨kd_0.mpr rfl, kd_42.mpr ⟨c_la_0, rfl⟩, kd_43.mpr ⟨c_lab_0, rfl⟩, kd_44.mpr rfl, trivial⟩ (by decide) (by decide) (fun _ h => nomatch h) (fun _ h => nomatch h) (fun _ _ _ => rfl) (fun h => h) rfl)⟩
          · refine y_iconst d_Ip_minutes_78 (v := 0) (by decide) ?_
            refine y_goto (tgt := 89) d_Ip_minutes_79 (by decide) ?_
            refine y_iret d_Ip_minutes_89 rfl rfl ?_
            exact fun w1 h1 => ⟨by first | exact congrArg (fun x : Int32 => (.inl (some (.int x)) : zO)) (if_pos (show (t.1 43).1 0 = 0 from z_b1 c_75)).symm | exact congrArg (fun x : Int32 => (.inl (some (.int x)) : zO)) (if_neg (show ¬ (t.1 43).1 0 = 0 from z_b0 c_75)).symm, (hI.gen (t2 := (elT 0 (wtV9 (nI m9)) (fdT t m9) (u.1 0))) (is := [0, 42, 43, 44]) (L2 := []) h1 rfl ⟨kd_0.mpr rfl, kd_42.mpr ⟨c_la_0, rfl⟩, kd_43.mpr ⟨c_lab_0, rfl⟩, kd_44.mpr rfl, trivial⟩ (by decide) (by decide) (fun _ h => nomatch h) (fun _ h => nomatch h) (fun _ _ _ => rfl) (fun h => h) rfl)⟩
      · have hn := z_nle (a := (u.1 0)) (b := i) (by omega) (by omega) c_39
        refine y_aload_n d_Ip_minutes_42 rfl 1 rfl ?_
        refine y_get fs_Ip_74 d_Ip_minutes_43 (q0 := 0) rfl rfl ?_
        refine y_iload_n d_Ip_minutes_46 rfl 0 rfl ?_
        refine yw_callVL (As := [.int (nI i)]) (rest := []) (ci := 13) rfl (fun wA hA => ((hI.gen (t2 := (elT 0 (wtV9 (nI m9)) (fdT t m9) i)) (is := [0, 42, 43, 44]) (L2 := []) hA rfl ⟨kd_0.mpr rfl, kd_42.mpr ⟨c_la_0, rfl⟩, kd_43.mpr ⟨c_lab_0, rfl⟩, kd_44.mpr rfl, trivial⟩ (by decide) (by decide) (fun _ h => nomatch h) (fun _ h => nomatch h) (fun _ _ _ => rfl) (fun h => h) rfl).2.1.1 0 (by decide)).ob) ln_Ip_344 w_im_AL_get w_se_AL_get ok_Ip_minutes_AL_get d_Ip_minutes_47 (fun wA hA => Q_get ((hI.gen (t2 := (elT 0 (wtV9 (nI m9)) (fdT t m9) i)) (is := [0, 42, 43, 44]) (L2 := []) hA rfl ⟨kd_0.mpr rfl, kd_42.mpr ⟨c_la_0, rfl⟩, kd_43.mpr ⟨c_lab_0, rfl⟩, kd_44.mpr rfl, trivial⟩ (by decide) (by decide) (fun _ h => nomatch h) (fun _ h => nomatch h) (fun _ _ _ => rfl) (fun h => h) rfl).2.1.1 0 (by decide)) hn) rfl rfl (Nat.le_of_ble_eq_true rfl) (by omega) (by omega) (fun wA47 hA47 E wB47 hx => ?_) (fun wA47 hA47 v wB47 hx => ?_)
        · exact absurd hx.1 (by simp)
        · obtain ⟨e1, e2⟩ := hx
          cases e1
          refine yw_st (st2 := [.ref (u.2.2 0 i)]) rfl ?_
          subst e2
          refine y_go hA47 ?_
          refine y_end (fun wC1 hC1 => ?_)
          have hI9 := (hI.gen (t2 := (elT 0 (wtV9 (nI m9)) (fdT t m9) i)) (is := [0, 42, 43, 44]) (L2 := []) hC1 rfl ⟨kd_0.mpr rfl, kd_42.mpr ⟨c_la_0, rfl⟩, kd_43.mpr ⟨c_lab_0, rfl⟩, kd_44.mpr rfl, trivial⟩ (by decide) (by decide) (fun _ h => nomatch h) (fun _ h => nomatch h) (fun _ _ _ => rfl) (fun h => h) rfl)
          have hI := hI9
          obtain ⟨nf_d, c_d, hw_d, hx_d, nfc_d, hwc_d, hch_d⟩ := hI.2.1.2.1 0 (by decide) i hn
          refine y_base (cs := [((ad 0), .inr (11, [.ref (ad 1), .ref (ad 5), .ref (ad 18), .ref (ad 31), .ref (ad 32), .ref (ad 36), .ref (ad 42), .ref (ad 45), .ref (ad 47), .ref (ad 49), .ref (ad 50), .ref (ad 51)])), ((ad 42), .inr (5, [.ref (ad 43), .int (((elT 0 (wtV9 (nI m9)) (fdT t m9) i).1 42).1 0), .int (((elT 0 (wtV9 (nI m9)) (fdT t m9) i).1 42).1 1), .int (((elT 0 (wtV9 (nI m9)) (fdT t m9) i).1 42).1 2)])), ((ad 43), .inr (6, [.ref (ad 44), .int (((elT 0 (wtV9 (nI m9)) (fdT t m9) i).1 43).1 0)])), ((ad 44), .inl (3, 4, .inr (.inl (((elT 0 (wtV9 (nI m9)) (fdT t m9) i).1 44).2.1)))), ((u.2.2 0 i), .inr (7, [.ref c_d, .int (nI (((elT 0 (wtV9 (nI m9)) (fdT t m9) i).2 0 i).2.2.2 0)), .int (((elT 0 (wtV9 (nI m9)) (fdT t m9) i).2 0 i).1 0), .int (((elT 0 (wtV9 (nI m9)) (fdT t m9) i).2 0 i).1 1), .int (((elT 0 (wtV9 (nI m9)) (fdT t m9) i).2 0 i).1 2), .int (((elT 0 (wtV9 (nI m9)) (fdT t m9) i).2 0 i).1 3), .int (((elT 0 (wtV9 (nI m9)) (fdT t m9) i).2 0 i).1 4), .int (((elT 0 (wtV9 (nI m9)) (fdT t m9) i).2 0 i).1 5)])), (c_d, .inl (1, 108, .inl (((elT 0 (wtV9 (nI m9)) (fdT t m9) i).2 0 i).2.1)))]) (z_I.kd (List.forall_mem_cons.mpr ⟨hC1.at (q0 := 0) rfl, (List.forall_mem_cons.mpr ⟨hC1.at (q0 := 1) rfl, (List.forall_mem_cons.mpr ⟨hC1.at (q0 := 2) rfl, (List.forall_mem_cons.mpr ⟨hC1.at (q0 := 3) rfl, (List.forall_mem_cons.mpr ⟨hw_d, (List.forall_mem_cons.mpr ⟨hwc_d, (fun _ h => nomatch h)⟩)⟩)⟩)⟩)⟩)⟩) (by simp [z_kd])) ?_
          refine y_castO lk_Ip_348 d_Ip_minutes_50 (q0 := 4) rfl rfl ?_
          refine y_dup d_Ip_minutes_53 rfl ?_
          refine y_get fs_Ip_350 d_Ip_minutes_54 (q0 := 4) rfl rfl ?_
          refine y_iload_n d_Ip_minutes_57 rfl 2 rfl ?_
          refine y_iadd d_Ip_minutes_58 (v := (((elT 0 (wtV9 (nI m9)) (fdT t m9) i).2 0 i).1 5) + (nI m9)) rfl ?_
          refine y_put fp_Ip_350 d_Ip_minutes_59 (fun h => nomatch h) rfl rfl (q0 := 4) rfl (Nat.le_of_ble_eq_true rfl) (cs' := [((ad 0), .inr (11, [.ref (ad 1), .ref (ad 5), .ref (ad 18), .ref (ad 31), .ref (ad 32), .ref (ad 36), .ref (ad 42), .ref (ad 45), .ref (ad 47), .ref (ad 49), .ref (ad 50), .ref (ad 51)])), ((ad 42), .inr (5, [.ref (ad 43), .int (((elT 0 (wtV9 (nI m9)) (fdT t m9) i).1 42).1 0), .int (((elT 0 (wtV9 (nI m9)) (fdT t m9) i).1 42).1 1), .int (((elT 0 (wtV9 (nI m9)) (fdT t m9) i).1 42).1 2)])), ((ad 43), .inr (6, [.ref (ad 44), .int (((elT 0 (wtV9 (nI m9)) (fdT t m9) i).1 43).1 0)])), ((ad 44), .inl (3, 4, .inr (.inl (((elT 0 (wtV9 (nI m9)) (fdT t m9) i).1 44).2.1)))), ((u.2.2 0 i), .inr (7, [.ref c_d, .int (nI (((elT 0 (wtV9 (nI m9)) (fdT t m9) i).2 0 i).2.2.2 0)), .int (((elT 0 (wtV9 (nI m9)) (fdT t m9) i).2 0 i).1 0), .int (((elT 0 (wtV9 (nI m9)) (fdT t m9) i).2 0 i).1 1), .int (((elT 0 (wtV9 (nI m9)) (fdT t m9) i).2 0 i).1 2), .int (((elT 0 (wtV9 (nI m9)) (fdT t m9) i).2 0 i).1 3), .int (((elT 0 (wtV9 (nI m9)) (fdT t m9) i).2 0 i).1 4), .int ((((elT 0 (wtV9 (nI m9)) (fdT t m9) i).2 0 i).1 5) + (nI m9))])), (c_d, .inl (1, 108, .inl (((elT 0 (wtV9 (nI m9)) (fdT t m9) i).2 0 i).2.1)))]) rfl ?_
          refine y_iinc (lv' := [(2, .int (nI (i + 1))), (0, .ref (ad 0)), (1, .int (nI m9))]) (v := nI (i + 1)) d_Ip_minutes_62 (j := 0) rfl (nI_add _ _) (by decide) rfl ?_
          refine y_goto (tgt := 31) d_Ip_minutes_65 (by decide) ?_
          refine y_end (fun wC2 hC2 => ?_)
          have hI9 : IV g ad (elT 0 (wtV9 (nI m9)) (fdT t m9) (i + 1)) u wC2 := Eq.mp (congrArg (fun T => IV g ad T u wC2) (show ((elT 0 (wtV9 (nI m9)) (fdT t m9) i).1, vup (elT 0 (wtV9 (nI m9)) (fdT t m9) i).2 0 i (upd (((elT 0 (wtV9 (nI m9)) (fdT t m9) i).2 0 i).1) 5 ((((elT 0 (wtV9 (nI m9)) (fdT t m9) i).2 0 i).1 5) + (nI m9)), ((elT 0 (wtV9 (nI m9)) (fdT t m9) i).2 0 i).2)) = elT 0 (wtV9 (nI m9)) (fdT t m9) (i + 1) from elT_s _ _ _ _)) (hI.gen1 (M := 0) (j := i) (v2 := (upd (((elT 0 (wtV9 (nI m9)) (fdT t m9) i).2 0 i).1) 5 ((((elT 0 (wtV9 (nI m9)) (fdT t m9) i).2 0 i).1 5) + (nI m9)), ((elT 0 (wtV9 (nI m9)) (fdT t m9) i).2 0 i).2)) (t2 := ((elT 0 (wtV9 (nI m9)) (fdT t m9) i).1, vup (elT 0 (wtV9 (nI m9)) (fdT t m9) i).2 0 i (upd (((elT 0 (wtV9 (nI m9)) (fdT t m9) i).2 0 i).1) 5 ((((elT 0 (wtV9 (nI m9)) (fdT t m9) i).2 0 i).1 5) + (nI m9)), ((elT 0 (wtV9 (nI m9)) (fdT t m9) i).2 0 i).2))) (is := [0, 42, 43, 44]) (L2 := [(u.2.2 0 i), c_d]) (by decide) hn (Or.inl rfl) hC2 rfl ⟨kd_0.mpr rfl, kd_42.mpr ⟨c_la_0, rfl⟩, kd_43.mpr ⟨c_lab_0, rfl⟩, kd_44.mpr rfl, trivial⟩ (by decide) (by decide) (List.forall_mem_cons.mpr ⟨nf_d, (List.forall_mem_cons.mpr ⟨nfc_d, (fun _ h => nomatch h)⟩)⟩) (List.forall_mem_cons.mpr ⟨(Or.inl rfl), (List.forall_mem_cons.mpr ⟨(Or.inr ⟨_, hwc_d, hC2.at (q0 := 5) rfl⟩), (fun _ h => nomatch h)⟩)⟩) (fun _ _ _ => rfl) (fun h => h) ⟨nf_d, c_d, hC2.at (q0 := 4) rfl, hx_d, nfc_d, hC2.at (q0 := 5) rfl, hch_d⟩ rfl)
          exact ih (i + 1) _  hI9 (by omega) (by omega)
set_option maxHeartbeats 4000000 in
set_option maxRecDepth 100000 in
theorem Qx_Ip_minutesN {g : zG} {ad : Nat → Nat} {t : zTT} {u : zNN} {w : zW} (hI : IV g ad t u w) (m9 : Nat) (hm : m9 ≤ 60) (hw : 1 ≤ nI m9 ∧ nI m9 ≤ 60) : zMB g M_Ip_minutes [.ref (ad 0), .int (nI m9)] w (fun o w1 => o = .inl (some (.int (if (t.1 43).1 0 = 0 then 0 else (if 20 < (t.1 42).1 0 - 4 * nI m9 then (t.1 42).1 0 - 4 * nI m9 else 20)))) ∧ IV g ad (elT 0 (wtV9 (nI m9)) (fdT t m9) (u.1 0)) u w1) 1 6 := by
  obtain ⟨e_a, wf_a, k_a⟩ := hI.1.2 0 (by decide)
  obtain rfl := kd_0.mp k_a
  obtain ⟨e_la, wf_la, k_la⟩ := hI.1.2 42 (by decide)
  obtain ⟨c_la_0, rfl⟩ := kd_42.mp k_la
  obtain ⟨e_lab, wf_lab, k_lab⟩ := hI.1.2 43 (by decide)
  obtain ⟨c_lab_0, rfl⟩ := kd_43.mp k_lab
  obtain ⟨e_labg, wf_labg, k_labg⟩ := hI.1.2 44 (by decide)
  obtain rfl := kd_44.mp k_labg
  have hI0 := hI
  refine y_of (by decide) rfl (Nat.le_of_ble_eq_true rfl) (y_base (cs := [((ad 0), .inr (11, [.ref (ad 1), .ref (ad 5), .ref (ad 18), .ref (ad 31), .ref (ad 32), .ref (ad 36), .ref (ad 42), .ref (ad 45), .ref (ad 47), .ref (ad 49), .ref (ad 50), .ref (ad 51)])), ((ad 42), .inr (5, [.ref (ad 43), .int ((t.1 42).1 0), .int ((t.1 42).1 1), .int ((t.1 42).1 2)])), ((ad 43), .inr (6, [.ref (ad 44), .int ((t.1 43).1 0)])), ((ad 44), .inl (3, 4, .inr (.inl ((t.1 44).2.1))))]) (hI.1.I [0, 42, 43, 44] _ rfl (by decide) (by decide) (List.forall_mem_cons.mpr ⟨wf_a, (List.forall_mem_cons.mpr ⟨wf_la, (List.forall_mem_cons.mpr ⟨wf_lab, (List.forall_mem_cons.mpr ⟨wf_labg, (fun _ h => nomatch h)⟩)⟩)⟩)⟩)) ?_)
  refine y_lvE (lv2 := [(0, .ref (ad 0)), (1, .int (nI m9))]) rfl ?_
  refine y_iload_n d_Ip_minutes_0 rfl 1 rfl ?_
  refine y_iconst d_Ip_minutes_1 (v := 1) (by decide) ?_
  refine y_bipush d_Ip_minutes_2 (v := 60) (by decide) ?_
  refine y_callS (As := [.int (nI m9), .int 1, .int 60]) (rest := []) (csC := []) (is := []) ln_Ip_203 w_st_Ip_isWithin ok_Ip_minutes_Ip_isWithin d_Ip_minutes_4 (C_Ip_isWithin g (nI m9) 1 60) rfl rfl (Nat.le_of_ble_eq_true rfl) rfl (by decide) (by omega) (by omega) (fun E cs1 hx => ?_) (fun v cs1 hx => ?_)
  · exact absurd hx.1 (by simp)
  · obtain ⟨e1, rfl⟩ := hx
    rw [if_pos hw] at e1
    cases e1
    refine ⟨rfl, ?_⟩
    refine y_st (st2 := [.int 1]) rfl ?_
    refine y_cs (cs2 := [((ad 0), .inr (11, [.ref (ad 1), .ref (ad 5), .ref (ad 18), .ref (ad 31), .ref (ad 32), .ref (ad 36), .ref (ad 42), .ref (ad 45), .ref (ad 47), .ref (ad 49), .ref (ad 50), .ref (ad 51)])), ((ad 42), .inr (5, [.ref (ad 43), .int ((t.1 42).1 0), .int ((t.1 42).1 1), .int ((t.1 42).1 2)])), ((ad 43), .inr (6, [.ref (ad 44), .int ((t.1 43).1 0)])), ((ad 44), .inl (3, 4, .inr (.inl ((t.1 44).2.1))))]) rfl ?_
    refine y_if_ne (tgt := 21) d_Ip_minutes_7 (by decide) (fun c_7 => ?_) (fun c_7 => ?_)
    · refine y_aload_n d_Ip_minutes_21 rfl 0 rfl ?_
      refine y_get fs_Ip_50 d_Ip_minutes_22 (q0 := 0) rfl rfl ?_
      refine y_iload_n d_Ip_minutes_25 rfl 1 rfl ?_
      refine y_callV (As := [.int (nI m9)]) (rest := []) (csC := [((ad 42), .inr (5, [.ref (ad 43), .int ((t.1 42).1 0), .int ((t.1 42).1 1), .int ((t.1 42).1 2)])), ((ad 43), .inr (6, [.ref (ad 44), .int ((t.1 43).1 0)])), ((ad 44), .inl (3, 4, .inr (.inl ((t.1 44).2.1))))]) (is := [1, 2, 3]) (q0 := 1) rfl rfl ln_Ip_338 w_im_La_fadeFor w_se_La_fadeFor ok_Ip_minutes_La_fadeFor d_Ip_minutes_26 (C_La_fadeFor g (ad 42) (ad 43) (ad 44) ((t.1 44).2.1) ((t.1 42).1 0) ((t.1 42).1 1) ((t.1 42).1 2) ((t.1 43).1 0) m9 (Nat.lt_of_le_of_lt hm (by decide))) rfl rfl (Nat.le_of_ble_eq_true rfl) rfl (by decide) (by omega) (by omega) (fun E cs1 hx => ?_) (fun v cs1 hx => ?_)
      · exact absurd hx.1 (by simp)
      · obtain ⟨e1, rfl⟩ := hx
        cases e1
        refine ⟨rfl, ?_⟩
        refine y_st (st2 := []) rfl ?_
        refine y_cs (cs2 := [((ad 0), .inr (11, [.ref (ad 1), .ref (ad 5), .ref (ad 18), .ref (ad 31), .ref (ad 32), .ref (ad 36), .ref (ad 42), .ref (ad 45), .ref (ad 47), .ref (ad 49), .ref (ad 50), .ref (ad 51)])), ((ad 42), .inr (5, [.ref (ad 43), .int (if 20 < ((t.1 42).1 0) - 4 * nI m9 then ((t.1 42).1 0) - 4 * nI m9 else 20), .int (mgS ((t.1 42).1 1) m9), .int ((t.1 42).1 2)])), ((ad 43), .inr (6, [.ref (ad 44), .int ((t.1 43).1 0)])), ((ad 44), .inl (3, 4, .inr (.inl ((t.1 44).2.1))))]) rfl ?_
        refine y_iconst d_Ip_minutes_29 (v := 0) (by decide) ?_
        refine y_istore_n (lv' := [(2, .int 0), (0, .ref (ad 0)), (1, .int (nI m9))]) d_Ip_minutes_30 rfl (by decide) rfl ?_
        refine y_end (fun wC3 hC3 => ?_)
        have hI9 : IV g ad (elT 0 (wtV9 (nI m9)) (fdT t m9) 0) u wC3 := Eq.mp (congrArg (fun T => IV g ad T u wC3) (show (zup t.1 [(42, ((upd (upd ((t.1 42).1) 0 (if 20 < ((t.1 42).1 0) - 4 * nI m9 then ((t.1 42).1 0) - 4 * nI m9 else 20)) 1 (mgS ((t.1 42).1 1) m9)), (t.1 42).2.1, (t.1 42).2.2))], t.2) = elT 0 (wtV9 (nI m9)) (fdT t m9) 0 from elT_0 _ _ _)) (hI.gen (t2 := (zup t.1 [(42, ((upd (upd ((t.1 42).1) 0 (if 20 < ((t.1 42).1 0) - 4 * nI m9 then ((t.1 42).1 0) - 4 * nI m9 else 20)) 1 (mgS ((t.1 42).1 1) m9)), (t.1 42).2.1, (t.1 42).2.2))], t.2)) (is := [0, 42, 43, 44]) (L2 := []) hC3 rfl ⟨kd_0.mpr rfl, kd_42.mpr ⟨c_la_0, rfl⟩, kd_43.mpr ⟨c_lab_0, rfl⟩, kd_44.mpr rfl, trivial⟩ (by decide) (by decide) (fun _ h => nomatch h) (fun _ h => nomatch h) (fun i hi hn => zup_out (fun q => hn ((by decide : ∀ j ∈ ([42] : List Nat), j ∈ ([0, 42, 43, 44] : List Nat)) i q))) (fun h => h) rfl)
        exact L_Qx_Ip_minutesN_31 g hI0 m9 hm hw (u.1 0 + 1) 0 _  hI9 (Nat.zero_le _) (by omega)
    · exact absurd c_7 (by decide)
theorem d_Ip_isSound_66 : decode prog_1_method_51_code 66 = .ok (.iconst 0, 1) := zo_3 (zd_b zq_prog_1_method_51_code_2 2 rfl rfl rfl)
theorem d_Ip_isSound_24 : decode prog_1_method_51_code 24 = .ok (.iconst 0, 1) := zo_3 (zd_b zq_prog_1_method_51_code_0 24 rfl rfl rfl)
theorem d_Ip_isSound_25 : decode prog_1_method_51_code 25 = .ok (.ireturn, 1) := zo_172 (zd_b zq_prog_1_method_51_code_0 25 rfl rfl rfl)
theorem d_Ip_isSound_7 : decode prog_1_method_51_code 7 = .ok (.iconst 0, 1) := zo_3 (zd_b zq_prog_1_method_51_code_0 7 rfl rfl rfl)
theorem d_Ip_isSound_8 : decode prog_1_method_51_code 8 = .ok (.ireturn, 1) := zo_172 (zd_b zq_prog_1_method_51_code_0 8 rfl rfl rfl)
