theorem SZ.s2 {u : zNN} {m : Nat} {bk : Option Nat} {el : Nat → Nat} (h : SZ u) (hm : m ≤ 20) : SZ (u_set u 2 m bk el) := by
  obtain ⟨h0, h1, h2, h3, h4, h5, h6⟩ := h
  exact ⟨h0, h1, hm, h3, h4, h5, h6⟩
theorem EL.elt2 {ad : Nat → Nat} {w : zW} {a : Nat} (h : EL ad 2 w a) : z_elt w a := by
  obtain ⟨f, h1⟩ := h.2
  exact ⟨_, h1, ⟨show (0 : Nat) < 5 by decide, cst_0⟩, fun q => by cases q⟩
def dkI (c : Nat) : Int32 := nI c - 1
theorem dk_f {c : Nat} (h : ¬ dkI c < 0) : ∃ e, c = e + 1 := by
  cases c with
  | zero => exact absurd (by decide) h
  | succ e => exact ⟨e, rfl⟩
theorem dk_s {e : Nat} : dkI (e + 1) = nI e := nI_prd e
theorem dk_d (e : Nat) : nI e + (-1) = dkI e := (Int32.sub_eq_add_neg ..).symm
theorem Q_rem {g : zG} {w : zW} {a n m i : Nat} {bk : Option Nat} {el : Nat → Nat} (h : z_L g w a n bk el) (hn : n = m + 1) (he : ∀ k, k < m + 1 → z_elt w (el k)) (hi : i ≤ m) : zMB g M_AL_remove [.ref a, .int (nI i)] w (fun o w1 => o = .inl (some (.ref (el i))) ∧ z_L g w1 a m bk (z_del el i) ∧ z_ke (fun q => q = a ∨ bk = some q) w w1) 0 0 := by
  subst hn
  exact Q_remove h he hi
theorem z_b0n {p : Prop} [Decidable p] (h : ¬ (if p then (1 : Int32) else 0) = 0) : p := Classical.byContradiction (fun q => h (if_neg q))
theorem d_Mm_goodShare_19 : decode prog_14_method_93_code 19 = .ok (.iconst 0, 1) := by decide +kernel
theorem d_Mm_goodShare_31 : decode prog_14_method_93_code 31 = .ok (.aload_n 0, 1) := by decide +kernel
theorem d_Mm_goodShare_32 : decode prog_14_method_93_code 32 = .ok (.getfield 316, 3) := by decide +kernel
theorem d_Mm_goodShare_35 : decode prog_14_method_93_code 35 = .ok (.l2f, 1) := by decide +kernel
theorem d_Mm_goodShare_36 : decode prog_14_method_93_code 36 = .ok (.aload_n 0, 1) := by decide +kernel
theorem d_Mm_goodShare_37 : decode prog_14_method_93_code 37 = .ok (.getfield 293, 3) := by decide +kernel
theorem d_Mm_goodShare_40 : decode prog_14_method_93_code 40 = .ok (.l2f, 1) := by decide +kernel
theorem d_Mm_goodShare_41 : decode prog_14_method_93_code 41 = .ok (.fdiv, 1) := by decide +kernel
set_option maxHeartbeats 4000000 in
set_option maxRecDepth 100000 in
theorem Q_Mm_goodShare {g : zG} {ad : Nat → Nat} {t : zTT} {u : zNN} {w : zW} (hI : IV g ad t u w) : zMB g M_Mm_goodShare [.ref (ad 52)] w (fun o w1 => (∃ v : UInt32, o = .inl (some (.float v))) ∧ IV g ad t u w1) 0 0 := by
  obtain ⟨e_m, wf_m, k_m⟩ := hI.1.2 52 (by decide)
  obtain ⟨v_m_th, v_m_cl, v_m_wa, v_m_co_, v_m_fi, v_m_bu, v_m_ho, v_m_lh, v_m_mg, v_m_wd, v_m_po, v_m_de, rfl⟩ := kd_52.mp k_m
  refine y_of (by decide) rfl (Nat.le_of_ble_eq_true rfl) (y_base (cs := [((ad 52), .inr (12, [.int v_m_th, .ref (ad 53), .int (nI t.2.2.2.1), .ref (ad 54), .ref (ad 55), .ref (ad 56), .ref (ad 57), .ref (ad 58), .ref (ad 59), .ref (ad 60), .ref (ad 61), .int v_m_cl, .int v_m_wa, .int v_m_co_, .int v_m_fi, .int v_m_bu, .int v_m_ho, .ref (ad 62), .ref (ad 63), .ref (ad 64), .int v_m_lh, .int v_m_mg, .int v_m_wd, .int (t.2.2.2.2 3), .int (t.2.2.2.2 4), .ref (ad 65), .ref (ad 66), .ref (ad 67), .ref (ad 68), .long v_m_po, .long v_m_de]))]) (hI.1.I [52] _ rfl (by decide) (by decide) (List.forall_mem_cons.mpr ⟨wf_m, (fun _ h => nomatch h)⟩)) ?_)
  refine y_lvE (lv2 := [(0, .ref (ad 52))]) rfl ?_
  refine y_aload_n d_Mm_goodShare_0 rfl 0 rfl ?_
  refine y_iconst d_Mm_goodShare_1 (v := 0) (by decide) ?_
  refine y_put fp_Mm_84 d_Mm_goodShare_2 (fun h => nomatch h) rfl rfl (q0 := 0) rfl (Nat.le_of_ble_eq_true rfl) (cs' := [((ad 52), .inr (12, [.int 0, .ref (ad 53), .int (nI t.2.2.2.1), .ref (ad 54), .ref (ad 55), .ref (ad 56), .ref (ad 57), .ref (ad 58), .ref (ad 59), .ref (ad 60), .ref (ad 61), .int v_m_cl, .int v_m_wa, .int v_m_co_, .int v_m_fi, .int v_m_bu, .int v_m_ho, .ref (ad 62), .ref (ad 63), .ref (ad 64), .int v_m_lh, .int v_m_mg, .int v_m_wd, .int (t.2.2.2.2 3), .int (t.2.2.2.2 4), .ref (ad 65), .ref (ad 66), .ref (ad 67), .ref (ad 68), .long v_m_po, .long v_m_de]))]) rfl ?_
  refine y_aload_n d_Mm_goodShare_5 rfl 0 rfl ?_
  refine y_aload_n d_Mm_goodShare_6 rfl 0 rfl ?_
  refine y_get fs_Mm_293 d_Mm_goodShare_7 (q0 := 0) rfl rfl ?_
  refine y_lconst d_Mm_goodShare_10 (v := 0) (by decide) ?_
  refine y_lcmp d_Mm_goodShare_11 (v := lg_cmp v_m_po 0) rfl ?_
  refine y_if_ne (tgt := 19) d_Mm_goodShare_12 (by decide) (fun c_12 => ?_) (fun c_12 => ?_)
  · refine y_iconst d_Mm_goodShare_19 (v := 0) (by decide) ?_
    refine y_iconst d_Mm_goodShare_20 (v := 1) (by decide) ?_
    refine y_callV (As := [.int 0, .int 1]) (rest := []) (csC := [((ad 52), .inr (12, [.int 0, .ref (ad 53), .int (nI t.2.2.2.1), .ref (ad 54), .ref (ad 55), .ref (ad 56), .ref (ad 57), .ref (ad 58), .ref (ad 59), .ref (ad 60), .ref (ad 61), .int v_m_cl, .int v_m_wa, .int v_m_co_, .int v_m_fi, .int v_m_bu, .int v_m_ho, .ref (ad 62), .ref (ad 63), .ref (ad 64), .int v_m_lh, .int v_m_mg, .int v_m_wd, .int (t.2.2.2.2 3), .int (t.2.2.2.2 4), .ref (ad 65), .ref (ad 66), .ref (ad 67), .ref (ad 68), .long v_m_po, .long v_m_de]))]) (is := [0]) (q0 := 0) rfl rfl ln_Mm_103 w_im_Mm_fails w_se_Mm_fails ok_Mm_goodShare_Mm_fails d_Mm_goodShare_21 (C_Mm_fails0 g (ad 52) (ad 53) (ad 54) (ad 55) (ad 56) (ad 57) (ad 58) (ad 59) (ad 60) (ad 61) (ad 62) (ad 63) (ad 64) (ad 65) (ad 66) (ad 67) (ad 68) 0 (nI t.2.2.2.1) v_m_cl v_m_wa v_m_co_ v_m_fi v_m_bu v_m_ho v_m_lh v_m_mg v_m_wd (t.2.2.2.2 3) (t.2.2.2.2 4) v_m_po v_m_de 1) rfl rfl (Nat.le_of_ble_eq_true rfl) rfl (by decide) (by omega) (by omega) (fun E cs1 hx => ?_) (fun v cs1 hx => ?_)
    · exact absurd hx.1 (by simp)
    · obtain ⟨e1, rfl⟩ := hx
      cases e1
      refine ⟨rfl, ?_⟩
      refine y_st (st2 := [.int 0]) rfl ?_
      refine y_cs (cs2 := [((ad 52), .inr (12, [.int 0, .ref (ad 53), .int (nI t.2.2.2.1), .ref (ad 54), .ref (ad 55), .ref (ad 56), .ref (ad 57), .ref (ad 58), .ref (ad 59), .ref (ad 60), .ref (ad 61), .int v_m_cl, .int v_m_wa, .int v_m_co_, .int v_m_fi, .int v_m_bu, .int v_m_ho, .ref (ad 62), .ref (ad 63), .ref (ad 64), .int v_m_lh, .int v_m_mg, .int v_m_wd, .int (t.2.2.2.2 3), .int (t.2.2.2.2 4), .ref (ad 65), .ref (ad 66), .ref (ad 67), .ref (ad 68), .long v_m_po, .long v_m_de]))]) rfl ?_
      refine y_if_eq (tgt := 31) d_Mm_goodShare_24 (by decide) (fun c_24 => ?_) (fun c_24 => ?_)
      · refine y_aload_n d_Mm_goodShare_31 rfl 0 rfl ?_
        refine y_get fs_Mm_316 d_Mm_goodShare_32 (q0 := 0) rfl rfl ?_
        refine y_l2f d_Mm_goodShare_35 ?_
        refine y_aload_n d_Mm_goodShare_36 rfl 0 rfl ?_
        refine y_get fs_Mm_293 d_Mm_goodShare_37 (q0 := 0) rfl rfl ?_
        refine y_l2f d_Mm_goodShare_40 ?_
        refine y_fdiv d_Mm_goodShare_41 (vf_n32_of (nan_fdiv (fun q => c_12 (by rw [q]; rfl)))) ?_
        refine y_fret d_Mm_goodShare_42 rfl ?_
        exact fun w1 h1 => ⟨⟨_, rfl⟩, (hI.gen (t2 := t) (is := [52]) (L2 := []) h1 rfl ⟨kd_52.mpr ⟨_, _, _, _, _, _, _, _, _, _, _, _, rfl⟩, trivial⟩ (by decide) (by decide) (fun _ h => nomatch h) (fun _ h => nomatch h) (fun _ _ _ _ h => h) (fun h => h))⟩
      · exact absurd c_24 (by decide)
  · refine y_iconst d_Mm_goodShare_15 (v := 1) (by decide) ?_
    refine y_goto (tgt := 20) d_Mm_goodShare_16 (by decide) ?_
    refine y_iconst d_Mm_goodShare_20 (v := 1) (by decide) ?_
    refine y_callV (As := [.int 1, .int 1]) (rest := []) (csC := [((ad 52), .inr (12, [.int 0, .ref (ad 53), .int (nI t.2.2.2.1), .ref (ad 54), .ref (ad 55), .ref (ad 56), .ref (ad 57), .ref (ad 58), .ref (ad 59), .ref (ad 60), .ref (ad 61), .int v_m_cl, .int v_m_wa, .int v_m_co_, .int v_m_fi, .int v_m_bu, .int v_m_ho, .ref (ad 62), .ref (ad 63), .ref (ad 64), .int v_m_lh, .int v_m_mg, .int v_m_wd, .int (t.2.2.2.2 3), .int (t.2.2.2.2 4), .ref (ad 65), .ref (ad 66), .ref (ad 67), .ref (ad 68), .long v_m_po, .long v_m_de]))]) (is := [0]) (q0 := 0) rfl rfl ln_Mm_103 w_im_Mm_fails w_se_Mm_fails ok_Mm_goodShare_Mm_fails d_Mm_goodShare_21 (C_Mm_fails1 g (ad 52) (ad 53) (ad 54) (ad 55) (ad 56) (ad 57) (ad 58) (ad 59) (ad 60) (ad 61) (ad 62) (ad 63) (ad 64) (ad 65) (ad 66) (ad 67) (ad 68) 0 (nI t.2.2.2.1) v_m_cl v_m_wa v_m_co_ v_m_fi v_m_bu v_m_ho v_m_lh v_m_mg v_m_wd (t.2.2.2.2 3) (t.2.2.2.2 4) v_m_po v_m_de) rfl rfl (Nat.le_of_ble_eq_true rfl) rfl (by decide) (by omega) (by omega) (fun E cs1 hx => ?_) (fun v cs1 hx => ?_)
    · exact absurd hx.1 (by simp)
    · obtain ⟨e1, rfl⟩ := hx
      cases e1
      refine ⟨rfl, ?_⟩
      refine y_st (st2 := [.int 1]) rfl ?_
      refine y_cs (cs2 := [((ad 52), .inr (12, [.int 1, .ref (ad 53), .int (nI t.2.2.2.1), .ref (ad 54), .ref (ad 55), .ref (ad 56), .ref (ad 57), .ref (ad 58), .ref (ad 59), .ref (ad 60), .ref (ad 61), .int v_m_cl, .int v_m_wa, .int v_m_co_, .int v_m_fi, .int v_m_bu, .int v_m_ho, .ref (ad 62), .ref (ad 63), .ref (ad 64), .int v_m_lh, .int v_m_mg, .int v_m_wd, .int (t.2.2.2.2 3), .int (t.2.2.2.2 4), .ref (ad 65), .ref (ad 66), .ref (ad 67), .ref (ad 68), .long v_m_po, .long v_m_de]))]) rfl ?_
      refine y_if_eq (tgt := 31) d_Mm_goodShare_24 (by decide) (fun c_24 => ?_) (fun c_24 => ?_)
      · exact absurd c_24 (by decide)
      · refine y_fconst0 d_Mm_goodShare_27 ?_
        refine y_goto (tgt := 42) d_Mm_goodShare_28 (by decide) ?_
        refine y_fret d_Mm_goodShare_42 rfl ?_
        exact fun w1 h1 => ⟨⟨_, rfl⟩, (hI.gen (t2 := t) (is := [52]) (L2 := []) h1 rfl ⟨kd_52.mpr ⟨_, _, _, _, _, _, _, _, _, _, _, _, rfl⟩, trivial⟩ (by decide) (by decide) (fun _ h => nomatch h) (fun _ h => nomatch h) (fun _ _ _ _ h => h) (fun h => h))⟩
set_option maxHeartbeats 4000000 in
set_option maxRecDepth 100000 in
theorem Q_Mm_meanBarE {g : zG} {ad : Nat → Nat} {t : zTT} {u : zNN} {w : zW} (hI : IV g ad t u w) (h0 : u.1 5 = 0) : zMB g M_Mm_meanBar [.ref (ad 52)] w (fun o w1 => (∃ v : UInt64, o = .inl (some (.double v))) ∧ IV g ad t u w1) 0 0 := by
  obtain ⟨e_m, wf_m, k_m⟩ := hI.1.2 52 (by decide)
  obtain ⟨v_m_th, v_m_cl, v_m_wa, v_m_co_, v_m_fi, v_m_bu, v_m_ho, v_m_lh, v_m_mg, v_m_wd, v_m_po, v_m_de, rfl⟩ := kd_52.mp k_m
  refine y_of (by decide) rfl (Nat.le_of_ble_eq_true rfl) (y_base (cs := [((ad 52), .inr (12, [.int v_m_th, .ref (ad 53), .int (nI t.2.2.2.1), .ref (ad 54), .ref (ad 55), .ref (ad 56), .ref (ad 57), .ref (ad 58), .ref (ad 59), .ref (ad 60), .ref (ad 61), .int v_m_cl, .int v_m_wa, .int v_m_co_, .int v_m_fi, .int v_m_bu, .int v_m_ho, .ref (ad 62), .ref (ad 63), .ref (ad 64), .int v_m_lh, .int v_m_mg, .int v_m_wd, .int (t.2.2.2.2 3), .int (t.2.2.2.2 4), .ref (ad 65), .ref (ad 66), .ref (ad 67), .ref (ad 68), .long v_m_po, .long v_m_de]))]) (hI.1.I [52] _ rfl (by decide) (by decide) (List.forall_mem_cons.mpr ⟨wf_m, (fun _ h => nomatch h)⟩)) ?_)
  refine y_lvE (lv2 := [(0, .ref (ad 52))]) rfl ?_
  refine y_aload_n d_Mm_meanBar_0 rfl 0 rfl ?_
  refine y_iconst d_Mm_meanBar_1 (v := 0) (by decide) ?_
  refine y_put fp_Mm_84 d_Mm_meanBar_2 (fun h => nomatch h) rfl rfl (q0 := 0) rfl (Nat.le_of_ble_eq_true rfl) (cs' := [((ad 52), .inr (12, [.int 0, .ref (ad 53), .int (nI t.2.2.2.1), .ref (ad 54), .ref (ad 55), .ref (ad 56), .ref (ad 57), .ref (ad 58), .ref (ad 59), .ref (ad 60), .ref (ad 61), .int v_m_cl, .int v_m_wa, .int v_m_co_, .int v_m_fi, .int v_m_bu, .int v_m_ho, .ref (ad 62), .ref (ad 63), .ref (ad 64), .int v_m_lh, .int v_m_mg, .int v_m_wd, .int (t.2.2.2.2 3), .int (t.2.2.2.2 4), .ref (ad 65), .ref (ad 66), .ref (ad 67), .ref (ad 68), .long v_m_po, .long v_m_de]))]) rfl ?_
  refine y_aload_n d_Mm_meanBar_5 rfl 0 rfl ?_
  refine y_aload_n d_Mm_meanBar_6 rfl 0 rfl ?_
  refine y_get fs_Mm_78 d_Mm_meanBar_7 (q0 := 0) rfl rfl ?_
  refine yw_callVL (As := []) (rest := [.ref (ad 52)]) (ci := 13) rfl (fun wA hA => ((hI.gen (t2 := t) (is := [52]) (L2 := []) hA rfl ⟨kd_52.mpr ⟨_, _, _, _, _, _, _, _, _, _, _, _, rfl⟩, trivial⟩ (by decide) (by decide) (fun _ h => nomatch h) (fun _ h => nomatch h) (fun _ _ _ _ h => h) (fun h => h)).2.1.1 5 (by decide)).ob) ln_Mm_289 w_im_AL_isEmpty w_se_AL_isEmpty ok_Mm_meanBar_AL_isEmpty d_Mm_meanBar_10 (fun wA hA => Q_isEmpty ((hI.gen (t2 := t) (is := [52]) (L2 := []) hA rfl ⟨kd_52.mpr ⟨_, _, _, _, _, _, _, _, _, _, _, _, rfl⟩, trivial⟩ (by decide) (by decide) (fun _ h => nomatch h) (fun _ h => nomatch h) (fun _ _ _ _ h => h) (fun h => h)).2.1.1 5 (by decide))) rfl rfl (Nat.le_of_ble_eq_true rfl) (by omega) (by omega) (fun wA10 hA10 E wB10 hx => ?_) (fun wA10 hA10 v wB10 hx => ?_)
  · exact absurd hx.1 (by simp)
  · obtain ⟨e1, e2⟩ := hx
    rw [if_pos h0] at e1
    cases e1
    refine yw_st (st2 := [.int 1, .ref (ad 52)]) rfl ?_
    subst e2
    refine y_go hA10 ?_
    refine y_iconst d_Mm_meanBar_13 (v := 1) (by decide) ?_
    refine y_callV (As := [.int 1, .int 1]) (rest := []) (csC := [((ad 52), .inr (12, [.int 0, .ref (ad 53), .int (nI t.2.2.2.1), .ref (ad 54), .ref (ad 55), .ref (ad 56), .ref (ad 57), .ref (ad 58), .ref (ad 59), .ref (ad 60), .ref (ad 61), .int v_m_cl, .int v_m_wa, .int v_m_co_, .int v_m_fi, .int v_m_bu, .int v_m_ho, .ref (ad 62), .ref (ad 63), .ref (ad 64), .int v_m_lh, .int v_m_mg, .int v_m_wd, .int (t.2.2.2.2 3), .int (t.2.2.2.2 4), .ref (ad 65), .ref (ad 66), .ref (ad 67), .ref (ad 68), .long v_m_po, .long v_m_de]))]) (is := [0]) (q0 := 0) rfl rfl ln_Mm_103 w_im_Mm_fails w_se_Mm_fails ok_Mm_meanBar_Mm_fails d_Mm_meanBar_14 (C_Mm_fails1 g (ad 52) (ad 53) (ad 54) (ad 55) (ad 56) (ad 57) (ad 58) (ad 59) (ad 60) (ad 61) (ad 62) (ad 63) (ad 64) (ad 65) (ad 66) (ad 67) (ad 68) 0 (nI t.2.2.2.1) v_m_cl v_m_wa v_m_co_ v_m_fi v_m_bu v_m_ho v_m_lh v_m_mg v_m_wd (t.2.2.2.2 3) (t.2.2.2.2 4) v_m_po v_m_de) rfl rfl (Nat.le_of_ble_eq_true rfl) rfl (by decide) (by omega) (by omega) (fun E cs1 hx => ?_) (fun v cs1 hx => ?_)
    · exact absurd hx.1 (by simp)
    · obtain ⟨e1, rfl⟩ := hx
      cases e1
      refine ⟨rfl, ?_⟩
      refine y_st (st2 := [.int 1]) rfl ?_
      refine y_cs (cs2 := [((ad 52), .inr (12, [.int 1, .ref (ad 53), .int (nI t.2.2.2.1), .ref (ad 54), .ref (ad 55), .ref (ad 56), .ref (ad 57), .ref (ad 58), .ref (ad 59), .ref (ad 60), .ref (ad 61), .int v_m_cl, .int v_m_wa, .int v_m_co_, .int v_m_fi, .int v_m_bu, .int v_m_ho, .ref (ad 62), .ref (ad 63), .ref (ad 64), .int v_m_lh, .int v_m_mg, .int v_m_wd, .int (t.2.2.2.2 3), .int (t.2.2.2.2 4), .ref (ad 65), .ref (ad 66), .ref (ad 67), .ref (ad 68), .long v_m_po, .long v_m_de]))]) rfl ?_
      refine y_if_eq (tgt := 22) d_Mm_meanBar_17 (by decide) (fun c_17 => ?_) (fun c_17 => ?_)
      · exact absurd c_17 (by decide)
      · refine y_dconst0 d_Mm_meanBar_20 ?_
        refine y_dret d_Mm_meanBar_21 rfl ?_
        exact fun w1 h1 => ⟨⟨_, rfl⟩, (hI.gen (t2 := t) (is := [52]) (L2 := []) h1 rfl ⟨kd_52.mpr ⟨_, _, _, _, _, _, _, _, _, _, _, _, rfl⟩, trivial⟩ (by decide) (by decide) (fun _ h => nomatch h) (fun _ h => nomatch h) (fun _ _ _ _ h => h) (fun h => h))⟩
theorem d_Mm_meanBar_26 : decode prog_14_method_94_code 26 = .ok (.iload_n 2, 1) := by decide +kernel
theorem d_Mm_meanBar_27 : decode prog_14_method_94_code 27 = .ok (.aload_n 0, 1) := by decide +kernel
theorem d_Mm_meanBar_28 : decode prog_14_method_94_code 28 = .ok (.getfield 78, 3) := by decide +kernel
theorem d_Mm_meanBar_31 : decode prog_14_method_94_code 31 = .ok (.invokevirtual 208, 3) := by decide +kernel
theorem ok_Mm_meanBar_AL_size : z_ok M_Mm_meanBar M_AL_size 0 := ⟨z_mem (i := 469) (by decide +kernel) (by decide +kernel), rfl, ⟨by decide +kernel, by decide +kernel, by decide +kernel⟩, ⟨by decide, by decide⟩, z_mem (i := 70) (by decide +kernel) (by decide +kernel), rfl⟩
theorem d_Mm_meanBar_34 : decode prog_14_method_94_code 34 = .ok (.if_icmp .ge 17, 3) := by decide +kernel
theorem d_Mm_meanBar_51 : decode prog_14_method_94_code 51 = .ok (.iload_n 1, 1) := by decide +kernel
theorem d_Mm_meanBar_52 : decode prog_14_method_94_code 52 = .ok (.i2d, 1) := by decide +kernel
theorem d_Mm_meanBar_53 : decode prog_14_method_94_code 53 = .ok (.aload_n 0, 1) := by decide +kernel
theorem d_Mm_meanBar_54 : decode prog_14_method_94_code 54 = .ok (.getfield 78, 3) := by decide +kernel
theorem d_Mm_meanBar_57 : decode prog_14_method_94_code 57 = .ok (.invokevirtual 208, 3) := by decide +kernel
theorem d_Mm_meanBar_60 : decode prog_14_method_94_code 60 = .ok (.i2d, 1) := by decide +kernel
theorem d_Mm_meanBar_61 : decode prog_14_method_94_code 61 = .ok (.ddiv, 1) := by decide +kernel
theorem d_Mm_meanBar_62 : decode prog_14_method_94_code 62 = .ok (.dreturn, 1) := by decide +kernel
theorem d_Mm_meanBar_37 : decode prog_14_method_94_code 37 = .ok (.iload_n 1, 1) := by decide +kernel
theorem d_Mm_meanBar_38 : decode prog_14_method_94_code 38 = .ok (.aload_n 0, 1) := by decide +kernel
theorem d_Mm_meanBar_39 : decode prog_14_method_94_code 39 = .ok (.iload_n 2, 1) := by decide +kernel
theorem d_Mm_meanBar_40 : decode prog_14_method_94_code 40 = .ok (.invokevirtual 313, 3) := by decide +kernel
theorem ok_Mm_meanBar_Mm_barOf : z_ok M_Mm_meanBar M_Mm_barOf 1 := ⟨z_mem (i := 2019) (by decide +kernel) (by decide +kernel), rfl, ⟨by decide +kernel, by decide +kernel, by decide +kernel⟩, ⟨by decide, by decide⟩, z_mem (i := 71) (by decide +kernel) (by decide +kernel), rfl⟩
theorem d_Mm_meanBar_43 : decode prog_14_method_94_code 43 = .ok (.iadd, 1) := by decide +kernel
theorem d_Mm_meanBar_44 : decode prog_14_method_94_code 44 = .ok (.istore_n 1, 1) := by decide +kernel
theorem d_Mm_meanBar_45 : decode prog_14_method_94_code 45 = .ok (.iinc 2 1, 3) := by decide +kernel
theorem d_Mm_meanBar_48 : decode prog_14_method_94_code 48 = .ok (.goto (-22), 3) := by decide +kernel
theorem d_Mm_meanBar_22 : decode prog_14_method_94_code 22 = .ok (.iconst 0, 1) := by decide +kernel
theorem d_Mm_meanBar_23 : decode prog_14_method_94_code 23 = .ok (.istore_n 1, 1) := by decide +kernel
theorem d_Mm_meanBar_24 : decode prog_14_method_94_code 24 = .ok (.iconst 0, 1) := by decide +kernel
theorem d_Mm_meanBar_25 : decode prog_14_method_94_code 25 = .ok (.istore_n 2, 1) := by decide +kernel
set_option maxHeartbeats 4000000 in
set_option maxRecDepth 100000 in
theorem L_Q_Mm_meanBarN_26 (g : zG) {ad : Nat → Nat} {t : zTT} {u : zNN} {w : zW} (hI : IV g ad t u w) (h0 : ¬ u.1 5 = 0) : ∀ (d i : Nat) (w : zW) (s9 : Int32), IV g ad t u w → i ≤ u.1 5 → u.1 5 < i + d → DW g M_Mm_meanBar (fun o w1 => (∃ v : UInt64, o = .inl (some (.double v))) ∧ IV g ad t u w1) w 26 [(2, .int (nI i)), (1, .int s9), (0, .ref (ad 52))] [] 0 0 := by
  clear hI w
  intro d
  induction d with
  | zero => intro i w s9 hI h1 h2; exact absurd h2 (by omega)
  | succ d ih =>
    intro i w s9 hI h1 h2
    obtain ⟨e_m, wf_m, k_m⟩ := hI.1.2 52 (by decide)
    obtain ⟨v_m_th, v_m_cl, v_m_wa, v_m_co_, v_m_fi, v_m_bu, v_m_ho, v_m_lh, v_m_mg, v_m_wd, v_m_po, v_m_de, rfl⟩ := kd_52.mp k_m
    have h33 := hI.n5 5 (by decide)
    refine y_base (hI.1.I [52] [((ad 52), .inr (12, [.int v_m_th, .ref (ad 53), .int (nI t.2.2.2.1), .ref (ad 54), .ref (ad 55), .ref (ad 56), .ref (ad 57), .ref (ad 58), .ref (ad 59), .ref (ad 60), .ref (ad 61), .int v_m_cl, .int v_m_wa, .int v_m_co_, .int v_m_fi, .int v_m_bu, .int v_m_ho, .ref (ad 62), .ref (ad 63), .ref (ad 64), .int v_m_lh, .int v_m_mg, .int v_m_wd, .int (t.2.2.2.2 3), .int (t.2.2.2.2 4), .ref (ad 65), .ref (ad 66), .ref (ad 67), .ref (ad 68), .long v_m_po, .long v_m_de]))] rfl (by decide) (by decide) (List.forall_mem_cons.mpr ⟨wf_m, (fun _ h => nomatch h)⟩)) ?_
    refine y_iload_n d_Mm_meanBar_26 rfl 0 rfl ?_
    refine y_aload_n d_Mm_meanBar_27 rfl 2 rfl ?_
    refine y_get fs_Mm_78 d_Mm_meanBar_28 (q0 := 0) rfl rfl ?_
    refine yw_callVL (As := []) (rest := [.int (nI i)]) (ci := 13) rfl (fun wA hA => ((hI.gen (t2 := t) (is := [52]) (L2 := []) hA rfl ⟨kd_52.mpr ⟨_, _, _, _, _, _, _, _, _, _, _, _, rfl⟩, trivial⟩ (by decide) (by decide) (fun _ h => nomatch h) (fun _ h => nomatch h) (fun _ _ _ _ h => h) (fun h => h)).2.1.1 5 (by decide)).ob) ln_Mm_208 w_im_AL_size w_se_AL_size ok_Mm_meanBar_AL_size d_Mm_meanBar_31 (fun wA hA => Q_size ((hI.gen (t2 := t) (is := [52]) (L2 := []) hA rfl ⟨kd_52.mpr ⟨_, _, _, _, _, _, _, _, _, _, _, _, rfl⟩, trivial⟩ (by decide) (by decide) (fun _ h => nomatch h) (fun _ h => nomatch h) (fun _ _ _ _ h => h) (fun h => h)).2.1.1 5 (by decide))) rfl rfl (Nat.le_of_ble_eq_true rfl) (by omega) (by omega) (fun wA31 hA31 E wB31 hx => ?_) (fun wA31 hA31 v wB31 hx => ?_)
    · exact absurd hx.1 (by simp)
    · obtain ⟨e1, e2⟩ := hx
      cases e1
      refine yw_st (st2 := [.int (nI (u.1 5)), .int (nI i)]) rfl ?_
      subst e2
      refine y_go hA31 ?_
      refine y_icmp_ge (tgt := 51) d_Mm_meanBar_34 (by decide) (fun c_34 => ?_) (fun c_34 => ?_)
      · have hn := z_le (a := (u.1 5)) (b := i) (by omega) (by omega) c_34
        refine y_iload_n d_Mm_meanBar_51 rfl 1 rfl ?_
        refine y_i2d d_Mm_meanBar_52 ?_
        refine y_aload_n d_Mm_meanBar_53 rfl 2 rfl ?_
        refine y_get fs_Mm_78 d_Mm_meanBar_54 (q0 := 0) rfl rfl ?_
        refine yw_callVL (As := []) (rest := [.double (FP.i2d s9)]) (ci := 13) rfl (fun wA hA => ((hI.gen (t2 := t) (is := [52]) (L2 := []) hA rfl ⟨kd_52.mpr ⟨_, _, _, _, _, _, _, _, _, _, _, _, rfl⟩, trivial⟩ (by decide) (by decide) (fun _ h => nomatch h) (fun _ h => nomatch h) (fun _ _ _ _ h => h) (fun h => h)).2.1.1 5 (by decide)).ob) ln_Mm_208 w_im_AL_size w_se_AL_size ok_Mm_meanBar_AL_size d_Mm_meanBar_57 (fun wA hA => Q_size ((hI.gen (t2 := t) (is := [52]) (L2 := []) hA rfl ⟨kd_52.mpr ⟨_, _, _, _, _, _, _, _, _, _, _, _, rfl⟩, trivial⟩ (by decide) (by decide) (fun _ h => nomatch h) (fun _ h => nomatch h) (fun _ _ _ _ h => h) (fun h => h)).2.1.1 5 (by decide))) rfl rfl (Nat.le_of_ble_eq_true rfl) (by omega) (by omega) (fun wA57 hA57 E wB57 hx => ?_) (fun wA57 hA57 v wB57 hx => ?_)
        · exact absurd hx.1 (by simp)
        · obtain ⟨e1, e2⟩ := hx
          cases e1
          refine yw_st (st2 := [.int (nI (u.1 5)), .double (FP.i2d s9)]) rfl ?_
          subst e2
          refine y_go hA57 ?_
          refine y_i2d d_Mm_meanBar_60 ?_
          refine y_ddiv d_Mm_meanBar_61 (vf_n64_of (nan_ddI (fun q => h0 (nI_z (by omega) q)))) ?_
          refine y_dret d_Mm_meanBar_62 rfl ?_
          exact fun w1 h1 => ⟨⟨_, rfl⟩, (hI.gen (t2 := t) (is := [52]) (L2 := []) h1 rfl ⟨kd_52.mpr ⟨_, _, _, _, _, _, _, _, _, _, _, _, rfl⟩, trivial⟩ (by decide) (by decide) (fun _ h => nomatch h) (fun _ h => nomatch h) (fun _ _ _ _ h => h) (fun h => h))⟩
      · have hn := z_nle (a := (u.1 5)) (b := i) (by omega) (by omega) c_34
        refine y_iload_n d_Mm_meanBar_37 rfl 1 rfl ?_
        refine y_aload_n d_Mm_meanBar_38 rfl 2 rfl ?_
        refine y_iload_n d_Mm_meanBar_39 rfl 0 rfl ?_
        refine yw_callV (As := [.int (nI i)]) (rest := [.int s9]) (q0 := 0) rfl rfl ln_Mm_313 w_im_Mm_barOf w_se_Mm_barOf ok_Mm_meanBar_Mm_barOf d_Mm_meanBar_40 (fun wA hA => Q_barOf (hI.gen (t2 := t) (is := [52]) (L2 := []) hA rfl ⟨kd_52.mpr ⟨_, _, _, _, _, _, _, _, _, _, _, _, rfl⟩, trivial⟩ (by decide) (by decide) (fun _ h => nomatch h) (fun _ h => nomatch h) (fun _ _ _ _ h => h) (fun h => h)) i hn) rfl rfl (Nat.le_of_ble_eq_true rfl) (by omega) (by omega) (fun wA40 hA40 E wB40 hx => ?_) (fun wA40 hA40 v wB40 hx => ?_)
        · exact absurd hx.1 (by simp)
        · obtain ⟨⟨v9, e1⟩, e2⟩ := hx
          cases e1
          refine yw_st (st2 := [.int v9, .int s9]) rfl ?_
          subst e2
          refine y_go hA40 ?_
          refine y_iadd d_Mm_meanBar_43 (v := s9 + v9) rfl ?_
          refine y_istore_n (lv' := [(1, .int (s9 + v9)), (2, .int (nI i)), (0, .ref (ad 52))]) d_Mm_meanBar_44 rfl (by decide) rfl ?_
          refine y_iinc (lv' := [(2, .int (nI (i + 1))), (1, .int (s9 + v9)), (0, .ref (ad 52))]) (v := nI (i + 1)) d_Mm_meanBar_45 (j := 1) rfl (nI_add _ _) (by decide) rfl ?_
          refine y_goto (tgt := 26) d_Mm_meanBar_48 (by decide) ?_
          refine y_end (fun wC1 hC1 => ?_)
          have hI9 := (hI.gen (t2 := t) (is := [52]) (L2 := []) hC1 rfl ⟨kd_52.mpr ⟨_, _, _, _, _, _, _, _, _, _, _, _, rfl⟩, trivial⟩ (by decide) (by decide) (fun _ h => nomatch h) (fun _ h => nomatch h) (fun _ _ _ _ h => h) (fun h => h))
          exact ih (i + 1) _ _ hI9 (by omega) (by omega)
set_option maxHeartbeats 4000000 in
set_option maxRecDepth 100000 in
theorem Q_Mm_meanBarN {g : zG} {ad : Nat → Nat} {t : zTT} {u : zNN} {w : zW} (hI : IV g ad t u w) (h0 : ¬ u.1 5 = 0) : zMB g M_Mm_meanBar [.ref (ad 52)] w (fun o w1 => (∃ v : UInt64, o = .inl (some (.double v))) ∧ IV g ad t u w1) 0 0 := by
  obtain ⟨e_m, wf_m, k_m⟩ := hI.1.2 52 (by decide)
  obtain ⟨v_m_th, v_m_cl, v_m_wa, v_m_co_, v_m_fi, v_m_bu, v_m_ho, v_m_lh, v_m_mg, v_m_wd, v_m_po, v_m_de, rfl⟩ := kd_52.mp k_m
  refine y_of (by decide) rfl (Nat.le_of_ble_eq_true rfl) (y_base (cs := [((ad 52), .inr (12, [.int v_m_th, .ref (ad 53), .int (nI t.2.2.2.1), .ref (ad 54), .ref (ad 55), .ref (ad 56), .ref (ad 57), .ref (ad 58), .ref (ad 59), .ref (ad 60), .ref (ad 61), .int v_m_cl, .int v_m_wa, .int v_m_co_, .int v_m_fi, .int v_m_bu, .int v_m_ho, .ref (ad 62), .ref (ad 63), .ref (ad 64), .int v_m_lh, .int v_m_mg, .int v_m_wd, .int (t.2.2.2.2 3), .int (t.2.2.2.2 4), .ref (ad 65), .ref (ad 66), .ref (ad 67), .ref (ad 68), .long v_m_po, .long v_m_de]))]) (hI.1.I [52] _ rfl (by decide) (by decide) (List.forall_mem_cons.mpr ⟨wf_m, (fun _ h => nomatch h)⟩)) ?_)
  refine y_lvE (lv2 := [(0, .ref (ad 52))]) rfl ?_
  refine y_aload_n d_Mm_meanBar_0 rfl 0 rfl ?_
  refine y_iconst d_Mm_meanBar_1 (v := 0) (by decide) ?_
  refine y_put fp_Mm_84 d_Mm_meanBar_2 (fun h => nomatch h) rfl rfl (q0 := 0) rfl (Nat.le_of_ble_eq_true rfl) (cs' := [((ad 52), .inr (12, [.int 0, .ref (ad 53), .int (nI t.2.2.2.1), .ref (ad 54), .ref (ad 55), .ref (ad 56), .ref (ad 57), .ref (ad 58), .ref (ad 59), .ref (ad 60), .ref (ad 61), .int v_m_cl, .int v_m_wa, .int v_m_co_, .int v_m_fi, .int v_m_bu, .int v_m_ho, .ref (ad 62), .ref (ad 63), .ref (ad 64), .int v_m_lh, .int v_m_mg, .int v_m_wd, .int (t.2.2.2.2 3), .int (t.2.2.2.2 4), .ref (ad 65), .ref (ad 66), .ref (ad 67), .ref (ad 68), .long v_m_po, .long v_m_de]))]) rfl ?_
  refine y_aload_n d_Mm_meanBar_5 rfl 0 rfl ?_
  refine y_aload_n d_Mm_meanBar_6 rfl 0 rfl ?_
  refine y_get fs_Mm_78 d_Mm_meanBar_7 (q0 := 0) rfl rfl ?_
  refine yw_callVL (As := []) (rest := [.ref (ad 52)]) (ci := 13) rfl (fun wA hA => ((hI.gen (t2 := t) (is := [52]) (L2 := []) hA rfl ⟨kd_52.mpr ⟨_, _, _, _, _, _, _, _, _, _, _, _, rfl⟩, trivial⟩ (by decide) (by decide) (fun _ h => nomatch h) (fun _ h => nomatch h) (fun _ _ _ _ h => h) (fun h => h)).2.1.1 5 (by decide)).ob) ln_Mm_289 w_im_AL_isEmpty w_se_AL_isEmpty ok_Mm_meanBar_AL_isEmpty d_Mm_meanBar_10 (fun wA hA => Q_isEmpty ((hI.gen (t2 := t) (is := [52]) (L2 := []) hA rfl ⟨kd_52.mpr ⟨_, _, _, _, _, _, _, _, _, _, _, _, rfl⟩, trivial⟩ (by decide) (by decide) (fun _ h => nomatch h) (fun _ h => nomatch h) (fun _ _ _ _ h => h) (fun h => h)).2.1.1 5 (by decide))) rfl rfl (Nat.le_of_ble_eq_true rfl) (by omega) (by omega) (fun wA10 hA10 E wB10 hx => ?_) (fun wA10 hA10 v wB10 hx => ?_)
  · exact absurd hx.1 (by simp)
  · obtain ⟨e1, e2⟩ := hx
    rw [if_neg h0] at e1
    cases e1
    refine yw_st (st2 := [.int 0, .ref (ad 52)]) rfl ?_
    subst e2
    refine y_go hA10 ?_
    refine y_iconst d_Mm_meanBar_13 (v := 1) (by decide) ?_
    refine y_callV (As := [.int 0, .int 1]) (rest := []) (csC := [((ad 52), .inr (12, [.int 0, .ref (ad 53), .int (nI t.2.2.2.1), .ref (ad 54), .ref (ad 55), .ref (ad 56), .ref (ad 57), .ref (ad 58), .ref (ad 59), .ref (ad 60), .ref (ad 61), .int v_m_cl, .int v_m_wa, .int v_m_co_, .int v_m_fi, .int v_m_bu, .int v_m_ho, .ref (ad 62), .ref (ad 63), .ref (ad 64), .int v_m_lh, .int v_m_mg, .int v_m_wd, .int (t.2.2.2.2 3), .int (t.2.2.2.2 4), .ref (ad 65), .ref (ad 66), .ref (ad 67), .ref (ad 68), .long v_m_po, .long v_m_de]))]) (is := [0]) (q0 := 0) rfl rfl ln_Mm_103 w_im_Mm_fails w_se_Mm_fails ok_Mm_meanBar_Mm_fails d_Mm_meanBar_14 (C_Mm_fails0 g (ad 52) (ad 53) (ad 54) (ad 55) (ad 56) (ad 57) (ad 58) (ad 59) (ad 60) (ad 61) (ad 62) (ad 63) (ad 64) (ad 65) (ad 66) (ad 67) (ad 68) 0 (nI t.2.2.2.1) v_m_cl v_m_wa v_m_co_ v_m_fi v_m_bu v_m_ho v_m_lh v_m_mg v_m_wd (t.2.2.2.2 3) (t.2.2.2.2 4) v_m_po v_m_de 1) rfl rfl (Nat.le_of_ble_eq_true rfl) rfl (by decide) (by omega) (by omega) (fun E cs1 hx => ?_) (fun v cs1 hx => ?_)
    · exact absurd hx.1 (by simp)
    · obtain ⟨e1, rfl⟩ := hx
      cases e1
      refine ⟨rfl, ?_⟩
      refine y_st (st2 := [.int 0]) rfl ?_
      refine y_cs (cs2 := [((ad 52), .inr (12, [.int 0, .ref (ad 53), .int (nI t.2.2.2.1), .ref (ad 54), .ref (ad 55), .ref (ad 56), .ref (ad 57), .ref (ad 58), .ref (ad 59), .ref (ad 60), .ref (ad 61), .int v_m_cl, .int v_m_wa, .int v_m_co_, .int v_m_fi, .int v_m_bu, .int v_m_ho, .ref (ad 62), .ref (ad 63), .ref (ad 64), .int v_m_lh, .int v_m_mg, .int v_m_wd, .int (t.2.2.2.2 3), .int (t.2.2.2.2 4), .ref (ad 65), .ref (ad 66), .ref (ad 67), .ref (ad 68), .long v_m_po, .long v_m_de]))]) rfl ?_
      refine y_if_eq (tgt := 22) d_Mm_meanBar_17 (by decide) (fun c_17 => ?_) (fun c_17 => ?_)
      · refine y_iconst d_Mm_meanBar_22 (v := 0) (by decide) ?_
        refine y_istore_n (lv' := [(1, .int 0), (0, .ref (ad 52))]) d_Mm_meanBar_23 rfl (by decide) rfl ?_
        refine y_iconst d_Mm_meanBar_24 (v := 0) (by decide) ?_
        refine y_istore_n (lv' := [(2, .int 0), (1, .int 0), (0, .ref (ad 52))]) d_Mm_meanBar_25 rfl (by decide) rfl ?_
        refine y_end (fun wC2 hC2 => ?_)
        have hI9 := (hI.gen (t2 := t) (is := [52]) (L2 := []) hC2 rfl ⟨kd_52.mpr ⟨_, _, _, _, _, _, _, _, _, _, _, _, rfl⟩, trivial⟩ (by decide) (by decide) (fun _ h => nomatch h) (fun _ h => nomatch h) (fun _ _ _ _ h => h) (fun h => h))
        exact L_Q_Mm_meanBarN_26 g hI9 h0 (u.1 5 + 1) 0 _ 0 hI9 (Nat.zero_le _) (by omega)
      · exact absurd c_17 (by decide)
theorem d_Mm_breakUp_93 : decode prog_14_method_89_code 93 = .ok (.iload 4, 2) := by decide +kernel
theorem d_Mm_breakUp_95 : decode prog_14_method_89_code 95 = .ok (.iconst 4, 1) := by decide +kernel
theorem d_Mm_breakUp_96 : decode prog_14_method_89_code 96 = .ok (.if_icmp .ge 37, 3) := by decide +kernel
theorem d_Mm_breakUp_133 : decode prog_14_method_89_code 133 = .ok (.aload_n 0, 1) := by decide +kernel
theorem d_Mm_breakUp_134 : decode prog_14_method_89_code 134 = .ok (.getfield 62, 3) := by decide +kernel
theorem d_Mm_breakUp_137 : decode prog_14_method_89_code 137 = .ok (.iload_n 3, 1) := by decide +kernel
theorem d_Mm_breakUp_138 : decode prog_14_method_89_code 138 = .ok (.iaload, 1) := by decide +kernel
theorem d_Mm_breakUp_139 : decode prog_14_method_89_code 139 = .ok (.ireturn, 1) := by decide +kernel
theorem d_Mm_breakUp_99 : decode prog_14_method_89_code 99 = .ok (.aload_n 0, 1) := by decide +kernel
theorem d_Mm_breakUp_100 : decode prog_14_method_89_code 100 = .ok (.getfield 65, 3) := by decide +kernel
theorem d_Mm_breakUp_103 : decode prog_14_method_89_code 103 = .ok (.iconst 4, 1) := by decide +kernel
theorem d_Mm_breakUp_104 : decode prog_14_method_89_code 104 = .ok (.iload_n 3, 1) := by decide +kernel
theorem d_Mm_breakUp_105 : decode prog_14_method_89_code 105 = .ok (.imul, 1) := by decide +kernel
theorem d_Mm_breakUp_106 : decode prog_14_method_89_code 106 = .ok (.iload 4, 2) := by decide +kernel
theorem d_Mm_breakUp_108 : decode prog_14_method_89_code 108 = .ok (.iadd, 1) := by decide +kernel
theorem d_Mm_breakUp_109 : decode prog_14_method_89_code 109 = .ok (.dup2, 1) := by decide +kernel
theorem d_Mm_breakUp_110 : decode prog_14_method_89_code 110 = .ok (.laload, 1) := by decide +kernel
theorem d_Mm_breakUp_111 : decode prog_14_method_89_code 111 = .ok (.aload_n 0, 1) := by decide +kernel
theorem d_Mm_breakUp_112 : decode prog_14_method_89_code 112 = .ok (.getfield 81, 3) := by decide +kernel
theorem d_Mm_breakUp_115 : decode prog_14_method_89_code 115 = .ok (.iload_n 1, 1) := by decide +kernel
theorem d_Mm_breakUp_116 : decode prog_14_method_89_code 116 = .ok (.invokevirtual 211, 3) := by decide +kernel
theorem ok_Mm_breakUp_AL_get : z_ok M_Mm_breakUp M_AL_get 1 := ⟨z_mem (i := 477) (by decide +kernel) (by decide +kernel), rfl, ⟨by decide +kernel, by decide +kernel, by decide +kernel⟩, ⟨by decide, by decide⟩, z_mem (i := 70) (by decide +kernel) (by decide +kernel), rfl⟩
theorem d_Mm_breakUp_119 : decode prog_14_method_89_code 119 = .ok (.checkcast 304, 3) := by decide +kernel
theorem d_Mm_breakUp_122 : decode prog_14_method_89_code 122 = .ok (.iload 4, 2) := by decide +kernel
theorem d_Mm_breakUp_124 : decode prog_14_method_89_code 124 = .ok (.laload, 1) := by decide +kernel
theorem d_Mm_breakUp_125 : decode prog_14_method_89_code 125 = .ok (.ladd, 1) := by decide +kernel
theorem d_Mm_breakUp_126 : decode prog_14_method_89_code 126 = .ok (.lastore, 1) := by decide +kernel
theorem d_Mm_breakUp_127 : decode prog_14_method_89_code 127 = .ok (.iinc 4 1, 3) := by decide +kernel
theorem d_Mm_breakUp_130 : decode prog_14_method_89_code 130 = .ok (.goto (-37), 3) := by decide +kernel
theorem d_Mm_breakUp_18 : decode prog_14_method_89_code 18 = .ok (.aload_n 0, 1) := by decide +kernel
theorem d_Mm_breakUp_19 : decode prog_14_method_89_code 19 = .ok (.aload_n 0, 1) := by decide +kernel
theorem d_Mm_breakUp_20 : decode prog_14_method_89_code 20 = .ok (.getfield 78, 3) := by decide +kernel
theorem d_Mm_breakUp_23 : decode prog_14_method_89_code 23 = .ok (.iload_n 1, 1) := by decide +kernel
theorem d_Mm_breakUp_24 : decode prog_14_method_89_code 24 = .ok (.invokevirtual 211, 3) := by decide +kernel
theorem d_Mm_breakUp_27 : decode prog_14_method_89_code 27 = .ok (.checkcast 215, 3) := by decide +kernel
theorem d_Mm_breakUp_30 : decode prog_14_method_89_code 30 = .ok (.iconst 5, 1) := by decide +kernel
theorem d_Mm_breakUp_31 : decode prog_14_method_89_code 31 = .ok (.iaload, 1) := by decide +kernel
theorem d_Mm_breakUp_32 : decode prog_14_method_89_code 32 = .ok (.ifCond .eq 7, 3) := by decide +kernel
theorem d_Mm_breakUp_39 : decode prog_14_method_89_code 39 = .ok (.iconst 0, 1) := by decide +kernel
theorem d_Mm_breakUp_40 : decode prog_14_method_89_code 40 = .ok (.iconst 2, 1) := by decide +kernel
theorem d_Mm_breakUp_41 : decode prog_14_method_89_code 41 = .ok (.invokevirtual 103, 3) := by decide +kernel
theorem d_Mm_breakUp_44 : decode prog_14_method_89_code 44 = .ok (.ifCond .eq 5, 3) := by decide +kernel
theorem d_Mm_breakUp_49 : decode prog_14_method_89_code 49 = .ok (.aload_n 0, 1) := by decide +kernel
theorem d_Mm_breakUp_50 : decode prog_14_method_89_code 50 = .ok (.getfield 78, 3) := by decide +kernel
theorem d_Mm_breakUp_53 : decode prog_14_method_89_code 53 = .ok (.iload_n 1, 1) := by decide +kernel
theorem d_Mm_breakUp_54 : decode prog_14_method_89_code 54 = .ok (.invokevirtual 211, 3) := by decide +kernel
theorem d_Mm_breakUp_57 : decode prog_14_method_89_code 57 = .ok (.checkcast 215, 3) := by decide +kernel
theorem d_Mm_breakUp_60 : decode prog_14_method_89_code 60 = .ok (.astore_n 2, 1) := by decide +kernel
theorem d_Mm_breakUp_61 : decode prog_14_method_89_code 61 = .ok (.aload_n 2, 1) := by decide +kernel
theorem d_Mm_breakUp_62 : decode prog_14_method_89_code 62 = .ok (.iconst 4, 1) := by decide +kernel
theorem d_Mm_breakUp_63 : decode prog_14_method_89_code 63 = .ok (.iaload, 1) := by decide +kernel
theorem d_Mm_breakUp_64 : decode prog_14_method_89_code 64 = .ok (.iconst 1, 1) := by decide +kernel
theorem d_Mm_breakUp_65 : decode prog_14_method_89_code 65 = .ok (.if_icmp .ne 7, 3) := by decide +kernel
theorem d_Mm_breakUp_72 : decode prog_14_method_89_code 72 = .ok (.iconst 2, 1) := by decide +kernel
theorem d_Mm_breakUp_73 : decode prog_14_method_89_code 73 = .ok (.istore_n 3, 1) := by decide +kernel
theorem d_Mm_breakUp_74 : decode prog_14_method_89_code 74 = .ok (.aload_n 2, 1) := by decide +kernel
theorem d_Mm_breakUp_75 : decode prog_14_method_89_code 75 = .ok (.iconst 5, 1) := by decide +kernel
theorem d_Mm_breakUp_76 : decode prog_14_method_89_code 76 = .ok (.iconst 2, 1) := by decide +kernel
theorem d_Mm_breakUp_77 : decode prog_14_method_89_code 77 = .ok (.iastore, 1) := by decide +kernel
theorem d_Mm_breakUp_78 : decode prog_14_method_89_code 78 = .ok (.aload_n 0, 1) := by decide +kernel
theorem d_Mm_breakUp_79 : decode prog_14_method_89_code 79 = .ok (.getfield 62, 3) := by decide +kernel
theorem d_Mm_breakUp_82 : decode prog_14_method_89_code 82 = .ok (.iload_n 3, 1) := by decide +kernel
theorem d_Mm_breakUp_83 : decode prog_14_method_89_code 83 = .ok (.dup2, 1) := by decide +kernel
theorem d_Mm_breakUp_84 : decode prog_14_method_89_code 84 = .ok (.iaload, 1) := by decide +kernel
theorem d_Mm_breakUp_85 : decode prog_14_method_89_code 85 = .ok (.aload_n 2, 1) := by decide +kernel
theorem d_Mm_breakUp_86 : decode prog_14_method_89_code 86 = .ok (.iconst 0, 1) := by decide +kernel
theorem d_Mm_breakUp_87 : decode prog_14_method_89_code 87 = .ok (.iaload, 1) := by decide +kernel
theorem d_Mm_breakUp_88 : decode prog_14_method_89_code 88 = .ok (.iadd, 1) := by decide +kernel
theorem d_Mm_breakUp_89 : decode prog_14_method_89_code 89 = .ok (.iastore, 1) := by decide +kernel
theorem d_Mm_breakUp_90 : decode prog_14_method_89_code 90 = .ok (.iconst 0, 1) := by decide +kernel
theorem d_Mm_breakUp_91 : decode prog_14_method_89_code 91 = .ok (.istore 4, 2) := by decide +kernel
theorem d_Mm_breakUp_68 : decode prog_14_method_89_code 68 = .ok (.iconst 3, 1) := by decide +kernel
theorem d_Mm_breakUp_69 : decode prog_14_method_89_code 69 = .ok (.goto 4, 3) := by decide +kernel
theorem d_Mm_breakUp_35 : decode prog_14_method_89_code 35 = .ok (.iconst 1, 1) := by decide +kernel
theorem d_Mm_breakUp_36 : decode prog_14_method_89_code 36 = .ok (.goto 4, 3) := by decide +kernel
set_option maxHeartbeats 4000000 in
set_option maxRecDepth 100000 in
theorem L_Q_Mm_breakUpN_93 (g : zG) {ad : Nat → Nat} {t : zTT} {u : zNN} {w : zW} (hI : IV g ad t u w) (k : Nat) (hk : k < u.1 5) : ∀ (d i : Nat) (w : zW) (to : Nat) (hto : to < 4), IV g ad t u w → i ≤ 4 → 4 < i + d → DW g M_Mm_breakUp (fun o w1 => (∃ v : Int32, o = .inl (some (.int v))) ∧ IV g ad t u w1) w 93 [(4, .int (nI i)), (3, .int (nI to)), (1, .int (nI k)), (0, .ref (ad 52))] [] 0 0 := by
  clear hI w
  intro d
  induction d with
  | zero => intro i w to hto hI h1 h2; exact absurd h2 (by omega)
  | succ d ih =>
    intro i w to hto hI h1 h2
    obtain ⟨e_m, wf_m, k_m⟩ := hI.1.2 52 (by decide)
    obtain ⟨v_m_th, v_m_cl, v_m_wa, v_m_co_, v_m_fi, v_m_bu, v_m_ho, v_m_lh, v_m_mg, v_m_wd, v_m_po, v_m_de, rfl⟩ := kd_52.mp k_m
    obtain ⟨e_mi, wf_mi, k_mi⟩ := hI.1.2 63 (by decide)
    obtain ⟨v_mi_f, rfl⟩ := kd_63.mp k_mi
    obtain ⟨e_mr, wf_mr, k_mr⟩ := hI.1.2 64 (by decide)
    obtain ⟨v_mr_f, rfl⟩ := kd_64.mp k_mr
    refine y_base (hI.1.I [52, 63, 64] [((ad 52), .inr (12, [.int v_m_th, .ref (ad 53), .int (nI t.2.2.2.1), .ref (ad 54), .ref (ad 55), .ref (ad 56), .ref (ad 57), .ref (ad 58), .ref (ad 59), .ref (ad 60), .ref (ad 61), .int v_m_cl, .int v_m_wa, .int v_m_co_, .int v_m_fi, .int v_m_bu, .int v_m_ho, .ref (ad 62), .ref (ad 63), .ref (ad 64), .int v_m_lh, .int v_m_mg, .int v_m_wd, .int (t.2.2.2.2 3), .int (t.2.2.2.2 4), .ref (ad 65), .ref (ad 66), .ref (ad 67), .ref (ad 68), .long v_m_po, .long v_m_de])), ((ad 63), .inl (0, 4, .inl v_mi_f)), ((ad 64), .inl (3, 16, .inr (.inl v_mr_f)))] rfl (by decide) (by decide) (List.forall_mem_cons.mpr ⟨wf_m, (List.forall_mem_cons.mpr ⟨wf_mi, (List.forall_mem_cons.mpr ⟨wf_mr, (fun _ h => nomatch h)⟩)⟩)⟩)) ?_
    refine y_iload d_Mm_breakUp_93 0 rfl ?_
    refine y_iconst d_Mm_breakUp_95 (v := 4) (by decide) ?_
    refine y_icmp_ge (tgt := 133) d_Mm_breakUp_96 (by decide) (fun c_96 => ?_) (fun c_96 => ?_)
    · have hn := z_le (a := 4) (by omega) (by decide) c_96
      obtain rfl : i = 4 := by omega
      refine y_aload_n d_Mm_breakUp_133 rfl 3 rfl ?_
      refine y_get fs_Mm_62 d_Mm_breakUp_134 (q0 := 0) rfl rfl ?_
      refine y_iload_n d_Mm_breakUp_137 rfl 1 rfl ?_
      refine y_iald d_Mm_breakUp_138 (q0 := 1) rfl (vp_in_nI (by omega) (by omega)) (v := v_mi_f to) (by rw [nI_clamp (by omega)]) ?_
      refine y_iret d_Mm_breakUp_139 rfl rfl ?_
      exact fun w1 h1 => ⟨⟨_, rfl⟩, (hI.gen (t2 := t) (is := [52, 63, 64]) (L2 := []) h1 rfl ⟨kd_52.mpr ⟨_, _, _, _, _, _, _, _, _, _, _, _, rfl⟩, kd_63.mpr ⟨_, rfl⟩, kd_64.mpr ⟨_, rfl⟩, trivial⟩ (by decide) (by decide) (fun _ h => nomatch h) (fun _ h => nomatch h) (fun _ _ _ _ h => h) (fun h => h))⟩
    · have hn := z_nle (a := 4) (by omega) (by decide) c_96
      refine y_aload_n d_Mm_breakUp_99 rfl 3 rfl ?_
      refine y_get fs_Mm_65 d_Mm_breakUp_100 (q0 := 0) rfl rfl ?_
      refine y_iconst d_Mm_breakUp_103 (v := 4) (by decide) ?_
      refine y_iload_n d_Mm_breakUp_104 rfl 1 rfl ?_
      refine y_imul d_Mm_breakUp_105 (v := nI (4 * to)) (pk_mul _ _) ?_
      refine y_iload d_Mm_breakUp_106 0 rfl ?_
      refine y_iadd d_Mm_breakUp_108 (v := nI (4 * to + i)) (nI_add _ _) ?_
      refine y_dup2_11 d_Mm_breakUp_109 rfl rfl ?_
      refine y_lald d_Mm_breakUp_110 (q0 := 2) rfl (vp_in_nI (by omega) (by omega)) (v := v_mr_f (4 * to + i)) (by rw [nI_clamp (by omega)]) ?_
      refine y_aload_n d_Mm_breakUp_111 rfl 3 rfl ?_
      refine y_get fs_Mm_81 d_Mm_breakUp_112 (q0 := 0) rfl rfl ?_
      refine y_iload_n d_Mm_breakUp_115 rfl 2 rfl ?_
      refine yw_callVL (As := [.int (nI k)]) (rest := [.long (v_mr_f (4 * to + i)), .int (nI (4 * to + i)), .ref (ad 64)]) (ci := 13) rfl (fun wA hA => ((hI.gen (t2 := t) (is := [52, 63, 64]) (L2 := []) hA rfl ⟨kd_52.mpr ⟨_, _, _, _, _, _, _, _, _, _, _, _, rfl⟩, kd_63.mpr ⟨_, rfl⟩, kd_64.mpr ⟨_, rfl⟩, trivial⟩ (by decide) (by decide) (fun _ h => nomatch h) (fun _ h => nomatch h) (fun _ _ _ _ h => h) (fun h => h)).2.1.1 6 (by decide)).ob) ln_Mm_211 w_im_AL_get w_se_AL_get ok_Mm_breakUp_AL_get d_Mm_breakUp_116 (fun wA hA => Q_get ((hI.gen (t2 := t) (is := [52, 63, 64]) (L2 := []) hA rfl ⟨kd_52.mpr ⟨_, _, _, _, _, _, _, _, _, _, _, _, rfl⟩, kd_63.mpr ⟨_, rfl⟩, kd_64.mpr ⟨_, rfl⟩, trivial⟩ (by decide) (by decide) (fun _ h => nomatch h) (fun _ h => nomatch h) (fun _ _ _ _ h => h) (fun h => h)).2.1.1 6 (by decide)) (by rw [hI.c56]; exact hk)) rfl rfl (Nat.le_of_ble_eq_true rfl) (by omega) (by omega) (fun wA116 hA116 E wB116 hx => ?_) (fun wA116 hA116 v wB116 hx => ?_)
      · exact absurd hx.1 (by simp)
      · obtain ⟨e1, e2⟩ := hx
        cases e1
        refine yw_st (st2 := [.ref (u.2.2 6 k), .long (v_mr_f (4 * to + i)), .int (nI (4 * to + i)), .ref (ad 64)]) rfl ?_
        subst e2
        refine y_go hA116 ?_
        refine y_end (fun wC1 hC1 => ?_)
        have hI9 := (hI.gen (t2 := t) (is := [52, 63, 64]) (L2 := []) hC1 rfl ⟨kd_52.mpr ⟨_, _, _, _, _, _, _, _, _, _, _, _, rfl⟩, kd_63.mpr ⟨_, rfl⟩, kd_64.mpr ⟨_, rfl⟩, trivial⟩ (by decide) (by decide) (fun _ h => nomatch h) (fun _ h => nomatch h) (fun _ _ _ _ h => h) (fun h => h))
        have hI := hI9
        obtain ⟨nf_g, f_g, hw_g⟩ := hI.2.1.2.1 6 (by decide) k (by rw [hI.c56]; exact hk)
        refine y_base (cs := [((ad 52), .inr (12, [.int v_m_th, .ref (ad 53), .int (nI t.2.2.2.1), .ref (ad 54), .ref (ad 55), .ref (ad 56), .ref (ad 57), .ref (ad 58), .ref (ad 59), .ref (ad 60), .ref (ad 61), .int v_m_cl, .int v_m_wa, .int v_m_co_, .int v_m_fi, .int v_m_bu, .int v_m_ho, .ref (ad 62), .ref (ad 63), .ref (ad 64), .int v_m_lh, .int v_m_mg, .int v_m_wd, .int (t.2.2.2.2 3), .int (t.2.2.2.2 4), .ref (ad 65), .ref (ad 66), .ref (ad 67), .ref (ad 68), .long v_m_po, .long v_m_de])), ((ad 63), .inl (0, 4, .inl v_mi_f)), ((ad 64), .inl (3, 16, .inr (.inl v_mr_f))), ((u.2.2 6 k), .inl (3, 4, .inr (.inl f_g)))]) (z_I.kd (List.forall_mem_cons.mpr ⟨hC1.at (q0 := 0) rfl, (List.forall_mem_cons.mpr ⟨hC1.at (q0 := 1) rfl, (List.forall_mem_cons.mpr ⟨hC1.at (q0 := 2) rfl, (List.forall_mem_cons.mpr ⟨hw_g, (fun _ h => nomatch h)⟩)⟩)⟩)⟩) (by simp [z_kd])) ?_
        refine y_castA (t := 3) (by decide) lk_Mm_304 d_Mm_breakUp_119 (q0 := 3) rfl ?_
        refine y_iload d_Mm_breakUp_122 0 rfl ?_
        refine y_lald d_Mm_breakUp_124 (q0 := 3) rfl (vp_in_nI (by omega) (by omega)) (v := f_g i) (by rw [nI_clamp (by omega)]) ?_
        refine y_ladd d_Mm_breakUp_125 (v := (v_mr_f (4 * to + i)) + (f_g i)) rfl ?_
        refine y_last d_Mm_breakUp_126 (q0 := 2) rfl (vp_in_nI (by omega) (by omega)) (f' := vp_updL v_mr_f (4 * to + i) ((v_mr_f (4 * to + i)) + (f_g i))) (by rw [nI_clamp (by omega)]) (cs' := [((ad 52), .inr (12, [.int v_m_th, .ref (ad 53), .int (nI t.2.2.2.1), .ref (ad 54), .ref (ad 55), .ref (ad 56), .ref (ad 57), .ref (ad 58), .ref (ad 59), .ref (ad 60), .ref (ad 61), .int v_m_cl, .int v_m_wa, .int v_m_co_, .int v_m_fi, .int v_m_bu, .int v_m_ho, .ref (ad 62), .ref (ad 63), .ref (ad 64), .int v_m_lh, .int v_m_mg, .int v_m_wd, .int (t.2.2.2.2 3), .int (t.2.2.2.2 4), .ref (ad 65), .ref (ad 66), .ref (ad 67), .ref (ad 68), .long v_m_po, .long v_m_de])), ((ad 63), .inl (0, 4, .inl v_mi_f)), ((ad 64), .inl (3, 16, .inr (.inl (vp_updL v_mr_f (4 * to + i) ((v_mr_f (4 * to + i)) + (f_g i)))))), ((u.2.2 6 k), .inl (3, 4, .inr (.inl f_g)))]) rfl ?_
        refine y_iinc (lv' := [(4, .int (nI (i + 1))), (3, .int (nI to)), (1, .int (nI k)), (0, .ref (ad 52))]) (v := nI (i + 1)) d_Mm_breakUp_127 (j := 0) rfl (nI_add _ _) (by decide) rfl ?_
        refine y_goto (tgt := 93) d_Mm_breakUp_130 (by decide) ?_
        refine y_end (fun wC2 hC2 => ?_)
        have hI9 := (hI.gen (t2 := t) (is := [52, 63, 64]) (L2 := [(u.2.2 6 k)]) hC2 rfl ⟨kd_52.mpr ⟨_, _, _, _, _, _, _, _, _, _, _, _, rfl⟩, kd_63.mpr ⟨_, rfl⟩, kd_64.mpr ⟨_, rfl⟩, trivial⟩ (by decide) (by decide) (List.forall_mem_cons.mpr ⟨nf_g, (fun _ h => nomatch h)⟩) (List.forall_mem_cons.mpr ⟨⟨_, _, hw_g, hC2.at (q0 := 3) rfl, Or.inl rfl⟩, (fun _ h => nomatch h)⟩) (fun _ _ _ _ h => h) (fun h => h))
        exact ih (i + 1) _ _ hto hI9 (by omega) (by omega)
set_option maxHeartbeats 4000000 in
set_option maxRecDepth 100000 in
theorem Q_Mm_breakUpN {g : zG} {ad : Nat → Nat} {t : zTT} {u : zNN} {w : zW} (hI : IV g ad t u w) (k : Nat) (hk : k < u.1 5) : zMB g M_Mm_breakUp [.ref (ad 52), .int (nI k)] w (fun o w1 => (∃ v : Int32, o = .inl (some (.int v))) ∧ IV g ad t u w1) 0 0 := by
  obtain ⟨e_m, wf_m, k_m⟩ := hI.1.2 52 (by decide)
  obtain ⟨v_m_th, v_m_cl, v_m_wa, v_m_co_, v_m_fi, v_m_bu, v_m_ho, v_m_lh, v_m_mg, v_m_wd, v_m_po, v_m_de, rfl⟩ := kd_52.mp k_m
  obtain ⟨e_mi, wf_mi, k_mi⟩ := hI.1.2 63 (by decide)
  obtain ⟨v_mi_f, rfl⟩ := kd_63.mp k_mi
  obtain ⟨e_mr, wf_mr, k_mr⟩ := hI.1.2 64 (by decide)
  obtain ⟨v_mr_f, rfl⟩ := kd_64.mp k_mr
  refine y_of (by decide) rfl (Nat.le_of_ble_eq_true rfl) (y_base (cs := [((ad 52), .inr (12, [.int v_m_th, .ref (ad 53), .int (nI t.2.2.2.1), .ref (ad 54), .ref (ad 55), .ref (ad 56), .ref (ad 57), .ref (ad 58), .ref (ad 59), .ref (ad 60), .ref (ad 61), .int v_m_cl, .int v_m_wa, .int v_m_co_, .int v_m_fi, .int v_m_bu, .int v_m_ho, .ref (ad 62), .ref (ad 63), .ref (ad 64), .int v_m_lh, .int v_m_mg, .int v_m_wd, .int (t.2.2.2.2 3), .int (t.2.2.2.2 4), .ref (ad 65), .ref (ad 66), .ref (ad 67), .ref (ad 68), .long v_m_po, .long v_m_de])), ((ad 63), .inl (0, 4, .inl v_mi_f)), ((ad 64), .inl (3, 16, .inr (.inl v_mr_f)))]) (hI.1.I [52, 63, 64] _ rfl (by decide) (by decide) (List.forall_mem_cons.mpr ⟨wf_m, (List.forall_mem_cons.mpr ⟨wf_mi, (List.forall_mem_cons.mpr ⟨wf_mr, (fun _ h => nomatch h)⟩)⟩)⟩)) ?_)
  refine y_lvE (lv2 := [(0, .ref (ad 52)), (1, .int (nI k))]) rfl ?_
  refine y_aload_n d_Mm_breakUp_0 rfl 0 rfl ?_
  refine y_iconst d_Mm_breakUp_1 (v := 0) (by decide) ?_
  refine y_put fp_Mm_84 d_Mm_breakUp_2 (fun h => nomatch h) rfl rfl (q0 := 0) rfl (Nat.le_of_ble_eq_true rfl) (cs' := [((ad 52), .inr (12, [.int 0, .ref (ad 53), .int (nI t.2.2.2.1), .ref (ad 54), .ref (ad 55), .ref (ad 56), .ref (ad 57), .ref (ad 58), .ref (ad 59), .ref (ad 60), .ref (ad 61), .int v_m_cl, .int v_m_wa, .int v_m_co_, .int v_m_fi, .int v_m_bu, .int v_m_ho, .ref (ad 62), .ref (ad 63), .ref (ad 64), .int v_m_lh, .int v_m_mg, .int v_m_wd, .int (t.2.2.2.2 3), .int (t.2.2.2.2 4), .ref (ad 65), .ref (ad 66), .ref (ad 67), .ref (ad 68), .long v_m_po, .long v_m_de])), ((ad 63), .inl (0, 4, .inl v_mi_f)), ((ad 64), .inl (3, 16, .inr (.inl v_mr_f)))]) rfl ?_
  refine y_aload_n d_Mm_breakUp_5 rfl 0 rfl ?_
  refine y_aload_n d_Mm_breakUp_6 rfl 0 rfl ?_
  refine y_iload_n d_Mm_breakUp_7 rfl 1 rfl ?_
  refine yw_callV (As := [.int (nI k)]) (rest := [.ref (ad 52)]) (q0 := 0) rfl rfl ln_Mm_301 w_im_Mm_noCasting w_se_Mm_noCasting ok_Mm_breakUp_Mm_noCasting d_Mm_breakUp_8 (fun wA hA => Q_noCasting0 (hI.gen (t2 := t) (is := [52, 63, 64]) (L2 := []) hA rfl ⟨kd_52.mpr ⟨_, _, _, _, _, _, _, _, _, _, _, _, rfl⟩, kd_63.mpr ⟨_, rfl⟩, kd_64.mpr ⟨_, rfl⟩, trivial⟩ (by decide) (by decide) (fun _ h => nomatch h) (fun _ h => nomatch h) (fun _ _ _ _ h => h) (fun h => h)) (nI k) ⟨k, hk, rfl⟩) rfl rfl (Nat.le_of_ble_eq_true rfl) (by omega) (by omega) (fun wA8 hA8 E wB8 hx => ?_) (fun wA8 hA8 v wB8 hx => ?_)
  · exact absurd hx.1 (by simp)
  · obtain ⟨e1, e2⟩ := hx
    cases e1
    refine yw_st (st2 := [.int 0, .ref (ad 52)]) rfl ?_
    subst e2
    refine y_go hA8 ?_
    refine y_iconst d_Mm_breakUp_11 (v := 1) (by decide) ?_
    refine y_callV (As := [.int 0, .int 1]) (rest := []) (csC := [((ad 52), .inr (12, [.int 0, .ref (ad 53), .int (nI t.2.2.2.1), .ref (ad 54), .ref (ad 55), .ref (ad 56), .ref (ad 57), .ref (ad 58), .ref (ad 59), .ref (ad 60), .ref (ad 61), .int v_m_cl, .int v_m_wa, .int v_m_co_, .int v_m_fi, .int v_m_bu, .int v_m_ho, .ref (ad 62), .ref (ad 63), .ref (ad 64), .int v_m_lh, .int v_m_mg, .int v_m_wd, .int (t.2.2.2.2 3), .int (t.2.2.2.2 4), .ref (ad 65), .ref (ad 66), .ref (ad 67), .ref (ad 68), .long v_m_po, .long v_m_de]))]) (is := [0]) (q0 := 0) rfl rfl ln_Mm_103 w_im_Mm_fails w_se_Mm_fails ok_Mm_breakUp_Mm_fails d_Mm_breakUp_12 (C_Mm_fails0 g (ad 52) (ad 53) (ad 54) (ad 55) (ad 56) (ad 57) (ad 58) (ad 59) (ad 60) (ad 61) (ad 62) (ad 63) (ad 64) (ad 65) (ad 66) (ad 67) (ad 68) 0 (nI t.2.2.2.1) v_m_cl v_m_wa v_m_co_ v_m_fi v_m_bu v_m_ho v_m_lh v_m_mg v_m_wd (t.2.2.2.2 3) (t.2.2.2.2 4) v_m_po v_m_de 1) rfl rfl (Nat.le_of_ble_eq_true rfl) rfl (by decide) (by omega) (by omega) (fun E cs1 hx => ?_) (fun v cs1 hx => ?_)
    · exact absurd hx.1 (by simp)
    · obtain ⟨e1, rfl⟩ := hx
      cases e1
      refine ⟨rfl, ?_⟩
      refine y_st (st2 := [.int 0]) rfl ?_
      refine y_cs (cs2 := [((ad 52), .inr (12, [.int 0, .ref (ad 53), .int (nI t.2.2.2.1), .ref (ad 54), .ref (ad 55), .ref (ad 56), .ref (ad 57), .ref (ad 58), .ref (ad 59), .ref (ad 60), .ref (ad 61), .int v_m_cl, .int v_m_wa, .int v_m_co_, .int v_m_fi, .int v_m_bu, .int v_m_ho, .ref (ad 62), .ref (ad 63), .ref (ad 64), .int v_m_lh, .int v_m_mg, .int v_m_wd, .int (t.2.2.2.2 3), .int (t.2.2.2.2 4), .ref (ad 65), .ref (ad 66), .ref (ad 67), .ref (ad 68), .long v_m_po, .long v_m_de])), ((ad 63), .inl (0, 4, .inl v_mi_f)), ((ad 64), .inl (3, 16, .inr (.inl v_mr_f)))]) rfl ?_
      refine y_if_ne (tgt := 47) d_Mm_breakUp_15 (by decide) (fun c_15 => ?_) (fun c_15 => ?_)
      · exact absurd c_15 (by decide)
      · refine y_aload_n d_Mm_breakUp_18 rfl 0 rfl ?_
        refine y_aload_n d_Mm_breakUp_19 rfl 0 rfl ?_
        refine y_get fs_Mm_78 d_Mm_breakUp_20 (q0 := 0) rfl rfl ?_
        refine y_iload_n d_Mm_breakUp_23 rfl 1 rfl ?_
        refine yw_callVL (As := [.int (nI k)]) (rest := [.ref (ad 52)]) (ci := 13) rfl (fun wA hA => ((hI.gen (t2 := t) (is := [52, 63, 64]) (L2 := []) hA rfl ⟨kd_52.mpr ⟨_, _, _, _, _, _, _, _, _, _, _, _, rfl⟩, kd_63.mpr ⟨_, rfl⟩, kd_64.mpr ⟨_, rfl⟩, trivial⟩ (by decide) (by decide) (fun _ h => nomatch h) (fun _ h => nomatch h) (fun _ _ _ _ h => h) (fun h => h)).2.1.1 5 (by decide)).ob) ln_Mm_211 w_im_AL_get w_se_AL_get ok_Mm_breakUp_AL_get d_Mm_breakUp_24 (fun wA hA => Q_get ((hI.gen (t2 := t) (is := [52, 63, 64]) (L2 := []) hA rfl ⟨kd_52.mpr ⟨_, _, _, _, _, _, _, _, _, _, _, _, rfl⟩, kd_63.mpr ⟨_, rfl⟩, kd_64.mpr ⟨_, rfl⟩, trivial⟩ (by decide) (by decide) (fun _ h => nomatch h) (fun _ h => nomatch h) (fun _ _ _ _ h => h) (fun h => h)).2.1.1 5 (by decide)) hk) rfl rfl (Nat.le_of_ble_eq_true rfl) (by omega) (by omega) (fun wA24 hA24 E wB24 hx => ?_) (fun wA24 hA24 v wB24 hx => ?_)
        · exact absurd hx.1 (by simp)
        · obtain ⟨e1, e2⟩ := hx
          cases e1
          refine yw_st (st2 := [.ref (u.2.2 5 k), .ref (ad 52)]) rfl ?_
          subst e2
          refine y_go hA24 ?_
          refine y_end (fun wC3 hC3 => ?_)
          have hI9 := (hI.gen (t2 := t) (is := [52, 63, 64]) (L2 := []) hC3 rfl ⟨kd_52.mpr ⟨_, _, _, _, _, _, _, _, _, _, _, _, rfl⟩, kd_63.mpr ⟨_, rfl⟩, kd_64.mpr ⟨_, rfl⟩, trivial⟩ (by decide) (by decide) (fun _ h => nomatch h) (fun _ h => nomatch h) (fun _ _ _ _ h => h) (fun h => h))
          have hI := hI9
          obtain ⟨nf_c, f_c, hw_c, h0_c⟩ := hI.2.1.2.1 5 (by decide) k hk
          refine y_base (cs := [((ad 52), .inr (12, [.int 0, .ref (ad 53), .int (nI t.2.2.2.1), .ref (ad 54), .ref (ad 55), .ref (ad 56), .ref (ad 57), .ref (ad 58), .ref (ad 59), .ref (ad 60), .ref (ad 61), .int v_m_cl, .int v_m_wa, .int v_m_co_, .int v_m_fi, .int v_m_bu, .int v_m_ho, .ref (ad 62), .ref (ad 63), .ref (ad 64), .int v_m_lh, .int v_m_mg, .int v_m_wd, .int (t.2.2.2.2 3), .int (t.2.2.2.2 4), .ref (ad 65), .ref (ad 66), .ref (ad 67), .ref (ad 68), .long v_m_po, .long v_m_de])), ((ad 63), .inl (0, 4, .inl v_mi_f)), ((ad 64), .inl (3, 16, .inr (.inl v_mr_f))), ((u.2.2 5 k), .inl (0, 6, .inl f_c))]) (z_I.kd (List.forall_mem_cons.mpr ⟨hC3.at (q0 := 0) rfl, (List.forall_mem_cons.mpr ⟨hC3.at (q0 := 1) rfl, (List.forall_mem_cons.mpr ⟨hC3.at (q0 := 2) rfl, (List.forall_mem_cons.mpr ⟨hw_c, (fun _ h => nomatch h)⟩)⟩)⟩)⟩) (by simp [z_kd])) ?_
          refine y_castA (t := 0) (by decide) lk_Mm_215 d_Mm_breakUp_27 (q0 := 3) rfl ?_
          refine y_iconst d_Mm_breakUp_30 (v := 5) (by decide) ?_
          refine y_iald d_Mm_breakUp_31 (q0 := 3) rfl (fun q => q.elim (by decide) (by decide)) (v := f_c 5) rfl ?_
          refine y_if_eq (tgt := 39) d_Mm_breakUp_32 (by decide) (fun c_32 => ?_) (fun c_32 => ?_)
          · refine y_iconst d_Mm_breakUp_39 (v := 0) (by decide) ?_
            refine y_iconst d_Mm_breakUp_40 (v := 2) (by decide) ?_
            refine y_callV (As := [.int 0, .int 2]) (rest := []) (csC := [((ad 52), .inr (12, [.int 0, .ref (ad 53), .int (nI t.2.2.2.1), .ref (ad 54), .ref (ad 55), .ref (ad 56), .ref (ad 57), .ref (ad 58), .ref (ad 59), .ref (ad 60), .ref (ad 61), .int v_m_cl, .int v_m_wa, .int v_m_co_, .int v_m_fi, .int v_m_bu, .int v_m_ho, .ref (ad 62), .ref (ad 63), .ref (ad 64), .int v_m_lh, .int v_m_mg, .int v_m_wd, .int (t.2.2.2.2 3), .int (t.2.2.2.2 4), .ref (ad 65), .ref (ad 66), .ref (ad 67), .ref (ad 68), .long v_m_po, .long v_m_de]))]) (is := [0]) (q0 := 0) rfl rfl ln_Mm_103 w_im_Mm_fails w_se_Mm_fails ok_Mm_breakUp_Mm_fails d_Mm_breakUp_41 (C_Mm_fails0 g (ad 52) (ad 53) (ad 54) (ad 55) (ad 56) (ad 57) (ad 58) (ad 59) (ad 60) (ad 61) (ad 62) (ad 63) (ad 64) (ad 65) (ad 66) (ad 67) (ad 68) 0 (nI t.2.2.2.1) v_m_cl v_m_wa v_m_co_ v_m_fi v_m_bu v_m_ho v_m_lh v_m_mg v_m_wd (t.2.2.2.2 3) (t.2.2.2.2 4) v_m_po v_m_de 2) rfl rfl (Nat.le_of_ble_eq_true rfl) rfl (by decide) (by omega) (by omega) (fun E cs1 hx => ?_) (fun v cs1 hx => ?_)
            · exact absurd hx.1 (by simp)
            · obtain ⟨e1, rfl⟩ := hx
              cases e1
              refine ⟨rfl, ?_⟩
              refine y_st (st2 := [.int 0]) rfl ?_
              refine y_cs (cs2 := [((ad 52), .inr (12, [.int 0, .ref (ad 53), .int (nI t.2.2.2.1), .ref (ad 54), .ref (ad 55), .ref (ad 56), .ref (ad 57), .ref (ad 58), .ref (ad 59), .ref (ad 60), .ref (ad 61), .int v_m_cl, .int v_m_wa, .int v_m_co_, .int v_m_fi, .int v_m_bu, .int v_m_ho, .ref (ad 62), .ref (ad 63), .ref (ad 64), .int v_m_lh, .int v_m_mg, .int v_m_wd, .int (t.2.2.2.2 3), .int (t.2.2.2.2 4), .ref (ad 65), .ref (ad 66), .ref (ad 67), .ref (ad 68), .long v_m_po, .long v_m_de])), ((ad 63), .inl (0, 4, .inl v_mi_f)), ((ad 64), .inl (3, 16, .inr (.inl v_mr_f))), ((u.2.2 5 k), .inl (0, 6, .inl f_c))]) rfl ?_
              refine y_if_eq (tgt := 49) d_Mm_breakUp_44 (by decide) (fun c_44 => ?_) (fun c_44 => ?_)
              · refine y_aload_n d_Mm_breakUp_49 rfl 0 rfl ?_
                refine y_get fs_Mm_78 d_Mm_breakUp_50 (q0 := 0) rfl rfl ?_
                refine y_iload_n d_Mm_breakUp_53 rfl 1 rfl ?_
                refine yw_callVL (As := [.int (nI k)]) (rest := []) (ci := 13) rfl (fun wA hA => ((hI.gen (t2 := t) (is := [52, 63, 64]) (L2 := [(u.2.2 5 k)]) hA rfl ⟨kd_52.mpr ⟨_, _, _, _, _, _, _, _, _, _, _, _, rfl⟩, kd_63.mpr ⟨_, rfl⟩, kd_64.mpr ⟨_, rfl⟩, trivial⟩ (by decide) (by decide) (List.forall_mem_cons.mpr ⟨nf_c, (fun _ h => nomatch h)⟩) (List.forall_mem_cons.mpr ⟨⟨_, _, hw_c, hA.at (q0 := 3) rfl, Or.inl rfl⟩, (fun _ h => nomatch h)⟩) (fun _ _ _ _ h => h) (fun h => h)).2.1.1 5 (by decide)).ob) ln_Mm_211 w_im_AL_get w_se_AL_get ok_Mm_breakUp_AL_get d_Mm_breakUp_54 (fun wA hA => Q_get ((hI.gen (t2 := t) (is := [52, 63, 64]) (L2 := [(u.2.2 5 k)]) hA rfl ⟨kd_52.mpr ⟨_, _, _, _, _, _, _, _, _, _, _, _, rfl⟩, kd_63.mpr ⟨_, rfl⟩, kd_64.mpr ⟨_, rfl⟩, trivial⟩ (by decide) (by decide) (List.forall_mem_cons.mpr ⟨nf_c, (fun _ h => nomatch h)⟩) (List.forall_mem_cons.mpr ⟨⟨_, _, hw_c, hA.at (q0 := 3) rfl, Or.inl rfl⟩, (fun _ h => nomatch h)⟩) (fun _ _ _ _ h => h) (fun h => h)).2.1.1 5 (by decide)) hk) rfl rfl (Nat.le_of_ble_eq_true rfl) (by omega) (by omega) (fun wA54 hA54 E wB54 hx => ?_) (fun wA54 hA54 v wB54 hx => ?_)
                · exact absurd hx.1 (by simp)
                · obtain ⟨e1, e2⟩ := hx
                  cases e1
                  refine yw_st (st2 := [.ref (u.2.2 5 k)]) rfl ?_
                  subst e2
                  refine y_go hA54 ?_
                  refine y_castA (t := 0) (by decide) lk_Mm_215 d_Mm_breakUp_57 (q0 := 3) rfl ?_
                  refine y_astore_n (lv' := [(2, .ref (u.2.2 5 k)), (0, .ref (ad 52)), (1, .int (nI k))]) d_Mm_breakUp_60 rfl (by decide) rfl ?_
                  refine y_aload_n d_Mm_breakUp_61 rfl 0 rfl ?_
                  refine y_iconst d_Mm_breakUp_62 (v := 4) (by decide) ?_
                  refine y_iald d_Mm_breakUp_63 (q0 := 3) rfl (fun q => q.elim (by decide) (by decide)) (v := f_c 4) rfl ?_
                  refine y_iconst d_Mm_breakUp_64 (v := 1) (by decide) ?_
                  refine y_icmp_ne (tgt := 72) d_Mm_breakUp_65 (by decide) (fun c_65 => ?_) (fun c_65 => ?_)
                  · refine y_iconst d_Mm_breakUp_72 (v := 2) (by decide) ?_
                    refine y_istore_n (lv' := [(3, .int 2), (2, .ref (u.2.2 5 k)), (0, .ref (ad 52)), (1, .int (nI k))]) d_Mm_breakUp_73 rfl (by decide) rfl ?_
                    refine y_aload_n d_Mm_breakUp_74 rfl 1 rfl ?_
                    refine y_iconst d_Mm_breakUp_75 (v := 5) (by decide) ?_
                    refine y_iconst d_Mm_breakUp_76 (v := 2) (by decide) ?_
                    refine y_iast d_Mm_breakUp_77 (q0 := 3) rfl (fun q => q.elim (by decide) (by decide)) (f' := upd f_c 5 2) rfl (cs' := [((ad 52), .inr (12, [.int 0, .ref (ad 53), .int (nI t.2.2.2.1), .ref (ad 54), .ref (ad 55), .ref (ad 56), .ref (ad 57), .ref (ad 58), .ref (ad 59), .ref (ad 60), .ref (ad 61), .int v_m_cl, .int v_m_wa, .int v_m_co_, .int v_m_fi, .int v_m_bu, .int v_m_ho, .ref (ad 62), .ref (ad 63), .ref (ad 64), .int v_m_lh, .int v_m_mg, .int v_m_wd, .int (t.2.2.2.2 3), .int (t.2.2.2.2 4), .ref (ad 65), .ref (ad 66), .ref (ad 67), .ref (ad 68), .long v_m_po, .long v_m_de])), ((ad 63), .inl (0, 4, .inl v_mi_f)), ((ad 64), .inl (3, 16, .inr (.inl v_mr_f))), ((u.2.2 5 k), .inl (0, 6, .inl (upd f_c 5 2)))]) rfl ?_
                    refine y_aload_n d_Mm_breakUp_78 rfl 2 rfl ?_
                    refine y_get fs_Mm_62 d_Mm_breakUp_79 (q0 := 0) rfl rfl ?_
                    refine y_iload_n d_Mm_breakUp_82 rfl 0 rfl ?_
                    refine y_dup2_11 d_Mm_breakUp_83 rfl rfl ?_
                    refine y_iald d_Mm_breakUp_84 (q0 := 1) rfl (fun q => q.elim (by decide) (by decide)) (v := v_mi_f 2) rfl ?_
                    refine y_aload_n d_Mm_breakUp_85 rfl 1 rfl ?_
                    refine y_iconst d_Mm_breakUp_86 (v := 0) (by decide) ?_
                    refine y_iald d_Mm_breakUp_87 (q0 := 3) rfl (fun q => q.elim (by decide) (by decide)) (v := (upd f_c 5 2) 0) rfl ?_
                    refine y_iadd d_Mm_breakUp_88 (v := (v_mi_f 2) + ((upd f_c 5 2) 0)) rfl ?_
                    refine y_iast d_Mm_breakUp_89 (q0 := 1) rfl (fun q => q.elim (by decide) (by decide)) (f' := upd v_mi_f 2 ((v_mi_f 2) + ((upd f_c 5 2) 0))) rfl (cs' := [((ad 52), .inr (12, [.int 0, .ref (ad 53), .int (nI t.2.2.2.1), .ref (ad 54), .ref (ad 55), .ref (ad 56), .ref (ad 57), .ref (ad 58), .ref (ad 59), .ref (ad 60), .ref (ad 61), .int v_m_cl, .int v_m_wa, .int v_m_co_, .int v_m_fi, .int v_m_bu, .int v_m_ho, .ref (ad 62), .ref (ad 63), .ref (ad 64), .int v_m_lh, .int v_m_mg, .int v_m_wd, .int (t.2.2.2.2 3), .int (t.2.2.2.2 4), .ref (ad 65), .ref (ad 66), .ref (ad 67), .ref (ad 68), .long v_m_po, .long v_m_de])), ((ad 63), .inl (0, 4, .inl (upd v_mi_f 2 ((v_mi_f 2) + ((upd f_c 5 2) 0))))), ((ad 64), .inl (3, 16, .inr (.inl v_mr_f))), ((u.2.2 5 k), .inl (0, 6, .inl (upd f_c 5 2)))]) rfl ?_
                    refine y_iconst d_Mm_breakUp_90 (v := 0) (by decide) ?_
                    refine y_istore (lv' := [(4, .int 0), (3, .int 2), (2, .ref (u.2.2 5 k)), (0, .ref (ad 52)), (1, .int (nI k))]) d_Mm_breakUp_91 (by decide) rfl ?_
                    refine y_lv (lv' := [(4, .int 0), (3, .int 2), (1, .int (nI k)), (0, .ref (ad 52))]) [0, 1, 4, 3] rfl ?_
                    refine y_end (fun wC4 hC4 => ?_)
                    have hI9 := (hI.gen (t2 := t) (is := [52, 63, 64]) (L2 := [(u.2.2 5 k)]) hC4 rfl ⟨kd_52.mpr ⟨_, _, _, _, _, _, _, _, _, _, _, _, rfl⟩, kd_63.mpr ⟨_, rfl⟩, kd_64.mpr ⟨_, rfl⟩, trivial⟩ (by decide) (by decide) (List.forall_mem_cons.mpr ⟨nf_c, (fun _ h => nomatch h)⟩) (List.forall_mem_cons.mpr ⟨⟨_, _, hw_c, hC4.at (q0 := 3) rfl, Or.inr (Or.inr (Or.inr (Or.inl ⟨_, _, rfl, rfl, rfl⟩)))⟩, (fun _ h => nomatch h)⟩) (fun _ _ _ _ h => h) (fun h => h))
                    exact L_Q_Mm_breakUpN_93 g hI9 k hk (4 + 1) 0 _ 2 (by decide) hI9 (Nat.zero_le _) (by omega)
                  · refine y_iconst d_Mm_breakUp_68 (v := 3) (by decide) ?_
                    refine y_goto (tgt := 73) d_Mm_breakUp_69 (by decide) ?_
                    refine y_istore_n (lv' := [(3, .int 3), (2, .ref (u.2.2 5 k)), (0, .ref (ad 52)), (1, .int (nI k))]) d_Mm_breakUp_73 rfl (by decide) rfl ?_
                    refine y_aload_n d_Mm_breakUp_74 rfl 1 rfl ?_
                    refine y_iconst d_Mm_breakUp_75 (v := 5) (by decide) ?_
                    refine y_iconst d_Mm_breakUp_76 (v := 2) (by decide) ?_
                    refine y_iast d_Mm_breakUp_77 (q0 := 3) rfl (fun q => q.elim (by decide) (by decide)) (f' := upd f_c 5 2) rfl (cs' := [((ad 52), .inr (12, [.int 0, .ref (ad 53), .int (nI t.2.2.2.1), .ref (ad 54), .ref (ad 55), .ref (ad 56), .ref (ad 57), .ref (ad 58), .ref (ad 59), .ref (ad 60), .ref (ad 61), .int v_m_cl, .int v_m_wa, .int v_m_co_, .int v_m_fi, .int v_m_bu, .int v_m_ho, .ref (ad 62), .ref (ad 63), .ref (ad 64), .int v_m_lh, .int v_m_mg, .int v_m_wd, .int (t.2.2.2.2 3), .int (t.2.2.2.2 4), .ref (ad 65), .ref (ad 66), .ref (ad 67), .ref (ad 68), .long v_m_po, .long v_m_de])), ((ad 63), .inl (0, 4, .inl v_mi_f)), ((ad 64), .inl (3, 16, .inr (.inl v_mr_f))), ((u.2.2 5 k), .inl (0, 6, .inl (upd f_c 5 2)))]) rfl ?_
                    refine y_aload_n d_Mm_breakUp_78 rfl 2 rfl ?_
                    refine y_get fs_Mm_62 d_Mm_breakUp_79 (q0 := 0) rfl rfl ?_
                    refine y_iload_n d_Mm_breakUp_82 rfl 0 rfl ?_
                    refine y_dup2_11 d_Mm_breakUp_83 rfl rfl ?_
                    refine y_iald d_Mm_breakUp_84 (q0 := 1) rfl (fun q => q.elim (by decide) (by decide)) (v := v_mi_f 3) rfl ?_
                    refine y_aload_n d_Mm_breakUp_85 rfl 1 rfl ?_
                    refine y_iconst d_Mm_breakUp_86 (v := 0) (by decide) ?_
                    refine y_iald d_Mm_breakUp_87 (q0 := 3) rfl (fun q => q.elim (by decide) (by decide)) (v := (upd f_c 5 2) 0) rfl ?_
                    refine y_iadd d_Mm_breakUp_88 (v := (v_mi_f 3) + ((upd f_c 5 2) 0)) rfl ?_
                    refine y_iast d_Mm_breakUp_89 (q0 := 1) rfl (fun q => q.elim (by decide) (by decide)) (f' := upd v_mi_f 3 ((v_mi_f 3) + ((upd f_c 5 2) 0))) rfl (cs' := [((ad 52), .inr (12, [.int 0, .ref (ad 53), .int (nI t.2.2.2.1), .ref (ad 54), .ref (ad 55), .ref (ad 56), .ref (ad 57), .ref (ad 58), .ref (ad 59), .ref (ad 60), .ref (ad 61), .int v_m_cl, .int v_m_wa, .int v_m_co_, .int v_m_fi, .int v_m_bu, .int v_m_ho, .ref (ad 62), .ref (ad 63), .ref (ad 64), .int v_m_lh, .int v_m_mg, .int v_m_wd, .int (t.2.2.2.2 3), .int (t.2.2.2.2 4), .ref (ad 65), .ref (ad 66), .ref (ad 67), .ref (ad 68), .long v_m_po, .long v_m_de])), ((ad 63), .inl (0, 4, .inl (upd v_mi_f 3 ((v_mi_f 3) + ((upd f_c 5 2) 0))))), ((ad 64), .inl (3, 16, .inr (.inl v_mr_f))), ((u.2.2 5 k), .inl (0, 6, .inl (upd f_c 5 2)))]) rfl ?_
                    refine y_iconst d_Mm_breakUp_90 (v := 0) (by decide) ?_
                    refine y_istore (lv' := [(4, .int 0), (3, .int 3), (2, .ref (u.2.2 5 k)), (0, .ref (ad 52)), (1, .int (nI k))]) d_Mm_breakUp_91 (by decide) rfl ?_
                    refine y_lv (lv' := [(4, .int 0), (3, .int 3), (1, .int (nI k)), (0, .ref (ad 52))]) [0, 1, 4, 3] rfl ?_
                    refine y_end (fun wC5 hC5 => ?_)
                    have hI9 := (hI.gen (t2 := t) (is := [52, 63, 64]) (L2 := [(u.2.2 5 k)]) hC5 rfl ⟨kd_52.mpr ⟨_, _, _, _, _, _, _, _, _, _, _, _, rfl⟩, kd_63.mpr ⟨_, rfl⟩, kd_64.mpr ⟨_, rfl⟩, trivial⟩ (by decide) (by decide) (List.forall_mem_cons.mpr ⟨nf_c, (fun _ h => nomatch h)⟩) (List.forall_mem_cons.mpr ⟨⟨_, _, hw_c, hC5.at (q0 := 3) rfl, Or.inr (Or.inr (Or.inr (Or.inl ⟨_, _, rfl, rfl, rfl⟩)))⟩, (fun _ h => nomatch h)⟩) (fun _ _ _ _ h => h) (fun h => h))
                    exact L_Q_Mm_breakUpN_93 g hI9 k hk (4 + 1) 0 _ 3 (by decide) hI9 (Nat.zero_le _) (by omega)
              · exact absurd c_44 (by decide)
          · refine y_iconst d_Mm_breakUp_35 (v := 1) (by decide) ?_
            refine y_goto (tgt := 40) d_Mm_breakUp_36 (by decide) ?_
            refine y_iconst d_Mm_breakUp_40 (v := 2) (by decide) ?_
            refine y_callV (As := [.int 1, .int 2]) (rest := []) (csC := [((ad 52), .inr (12, [.int 0, .ref (ad 53), .int (nI t.2.2.2.1), .ref (ad 54), .ref (ad 55), .ref (ad 56), .ref (ad 57), .ref (ad 58), .ref (ad 59), .ref (ad 60), .ref (ad 61), .int v_m_cl, .int v_m_wa, .int v_m_co_, .int v_m_fi, .int v_m_bu, .int v_m_ho, .ref (ad 62), .ref (ad 63), .ref (ad 64), .int v_m_lh, .int v_m_mg, .int v_m_wd, .int (t.2.2.2.2 3), .int (t.2.2.2.2 4), .ref (ad 65), .ref (ad 66), .ref (ad 67), .ref (ad 68), .long v_m_po, .long v_m_de]))]) (is := [0]) (q0 := 0) rfl rfl ln_Mm_103 w_im_Mm_fails w_se_Mm_fails ok_Mm_breakUp_Mm_fails d_Mm_breakUp_41 (C_Mm_fails2 g (ad 52) (ad 53) (ad 54) (ad 55) (ad 56) (ad 57) (ad 58) (ad 59) (ad 60) (ad 61) (ad 62) (ad 63) (ad 64) (ad 65) (ad 66) (ad 67) (ad 68) 0 (nI t.2.2.2.1) v_m_cl v_m_wa v_m_co_ v_m_fi v_m_bu v_m_ho v_m_lh v_m_mg v_m_wd (t.2.2.2.2 3) (t.2.2.2.2 4) v_m_po v_m_de) rfl rfl (Nat.le_of_ble_eq_true rfl) rfl (by decide) (by omega) (by omega) (fun E cs1 hx => ?_) (fun v cs1 hx => ?_)
            · exact absurd hx.1 (by simp)
            · obtain ⟨e1, rfl⟩ := hx
              cases e1
              refine ⟨rfl, ?_⟩
              refine y_st (st2 := [.int 1]) rfl ?_
              refine y_cs (cs2 := [((ad 52), .inr (12, [.int 2, .ref (ad 53), .int (nI t.2.2.2.1), .ref (ad 54), .ref (ad 55), .ref (ad 56), .ref (ad 57), .ref (ad 58), .ref (ad 59), .ref (ad 60), .ref (ad 61), .int v_m_cl, .int v_m_wa, .int v_m_co_, .int v_m_fi, .int v_m_bu, .int v_m_ho, .ref (ad 62), .ref (ad 63), .ref (ad 64), .int v_m_lh, .int v_m_mg, .int v_m_wd, .int (t.2.2.2.2 3), .int (t.2.2.2.2 4), .ref (ad 65), .ref (ad 66), .ref (ad 67), .ref (ad 68), .long v_m_po, .long v_m_de])), ((ad 63), .inl (0, 4, .inl v_mi_f)), ((ad 64), .inl (3, 16, .inr (.inl v_mr_f))), ((u.2.2 5 k), .inl (0, 6, .inl f_c))]) rfl ?_
              refine y_if_eq (tgt := 49) d_Mm_breakUp_44 (by decide) (fun c_44 => ?_) (fun c_44 => ?_)
              · exact absurd c_44 (by decide)
              · refine y_iconst d_Mm_breakUp_47 (v := 0) (by decide) ?_
                refine y_iret d_Mm_breakUp_48 rfl rfl ?_
                exact fun w1 h1 => ⟨⟨_, rfl⟩, (hI.gen (t2 := t) (is := [52, 63, 64]) (L2 := [(u.2.2 5 k)]) h1 rfl ⟨kd_52.mpr ⟨_, _, _, _, _, _, _, _, _, _, _, _, rfl⟩, kd_63.mpr ⟨_, rfl⟩, kd_64.mpr ⟨_, rfl⟩, trivial⟩ (by decide) (by decide) (List.forall_mem_cons.mpr ⟨nf_c, (fun _ h => nomatch h)⟩) (List.forall_mem_cons.mpr ⟨⟨_, _, hw_c, h1.at (q0 := 3) rfl, Or.inl rfl⟩, (fun _ h => nomatch h)⟩) (fun _ _ _ _ h => h) (fun h => h))⟩
set_option maxHeartbeats 4000000 in
set_option maxRecDepth 100000 in
theorem Q_Mm_hoursE {g : zG} {ad : Nat → Nat} {t : zTT} {u : zNN} {w : zW} (hI : IV g ad t u w) (x : Int32) (hw : ¬ (1 ≤ x ∧ x ≤ 48)) : zMB g M_Mm_hours [.ref (ad 52), .int x] w (fun o w1 => (∃ v : Int32, o = .inl (some (.int v))) ∧ ∃ u2, IV g ad t u2 w1) 0 0 := by
  obtain ⟨e_m, wf_m, k_m⟩ := hI.1.2 52 (by decide)
  obtain ⟨v_m_th, v_m_cl, v_m_wa, v_m_co_, v_m_fi, v_m_bu, v_m_ho, v_m_lh, v_m_mg, v_m_wd, v_m_po, v_m_de, rfl⟩ := kd_52.mp k_m
  refine y_of (by decide) rfl (Nat.le_of_ble_eq_true rfl) (y_base (cs := [((ad 52), .inr (12, [.int v_m_th, .ref (ad 53), .int (nI t.2.2.2.1), .ref (ad 54), .ref (ad 55), .ref (ad 56), .ref (ad 57), .ref (ad 58), .ref (ad 59), .ref (ad 60), .ref (ad 61), .int v_m_cl, .int v_m_wa, .int v_m_co_, .int v_m_fi, .int v_m_bu, .int v_m_ho, .ref (ad 62), .ref (ad 63), .ref (ad 64), .int v_m_lh, .int v_m_mg, .int v_m_wd, .int (t.2.2.2.2 3), .int (t.2.2.2.2 4), .ref (ad 65), .ref (ad 66), .ref (ad 67), .ref (ad 68), .long v_m_po, .long v_m_de]))]) (hI.1.I [52] _ rfl (by decide) (by decide) (List.forall_mem_cons.mpr ⟨wf_m, (fun _ h => nomatch h)⟩)) ?_)
  refine y_lvE (lv2 := [(0, .ref (ad 52)), (1, .int x)]) rfl ?_
  refine y_aload_n d_Mm_hours_0 rfl 0 rfl ?_
  refine y_iconst d_Mm_hours_1 (v := 0) (by decide) ?_
  refine y_put fp_Mm_84 d_Mm_hours_2 (fun h => nomatch h) rfl rfl (q0 := 0) rfl (Nat.le_of_ble_eq_true rfl) (cs' := [((ad 52), .inr (12, [.int 0, .ref (ad 53), .int (nI t.2.2.2.1), .ref (ad 54), .ref (ad 55), .ref (ad 56), .ref (ad 57), .ref (ad 58), .ref (ad 59), .ref (ad 60), .ref (ad 61), .int v_m_cl, .int v_m_wa, .int v_m_co_, .int v_m_fi, .int v_m_bu, .int v_m_ho, .ref (ad 62), .ref (ad 63), .ref (ad 64), .int v_m_lh, .int v_m_mg, .int v_m_wd, .int (t.2.2.2.2 3), .int (t.2.2.2.2 4), .ref (ad 65), .ref (ad 66), .ref (ad 67), .ref (ad 68), .long v_m_po, .long v_m_de]))]) rfl ?_
  refine y_aload_n d_Mm_hours_5 rfl 0 rfl ?_
  refine y_iload_n d_Mm_hours_6 rfl 1 rfl ?_
  refine y_iconst d_Mm_hours_7 (v := 1) (by decide) ?_
  refine y_bipush d_Mm_hours_8 (v := 48) (by decide) ?_
  refine y_callS (As := [.int x, .int 1, .int 48]) (rest := [.ref (ad 52)]) (csC := []) (is := []) ln_Mm_87 w_st_Mm_in ok_Mm_hours_Mm_in d_Mm_hours_10 (C_Mm_in g x 1 48) rfl rfl (Nat.le_of_ble_eq_true rfl) rfl (by decide) (by omega) (by omega) (fun E cs1 hx => ?_) (fun v cs1 hx => ?_)
  · exact absurd hx.1 (by simp)
  · obtain ⟨e1, rfl⟩ := hx
    rw [if_neg hw] at e1
    cases e1
    refine ⟨rfl, ?_⟩
    refine y_st (st2 := [.int 0, .ref (ad 52)]) rfl ?_
    refine y_cs (cs2 := [((ad 52), .inr (12, [.int 0, .ref (ad 53), .int (nI t.2.2.2.1), .ref (ad 54), .ref (ad 55), .ref (ad 56), .ref (ad 57), .ref (ad 58), .ref (ad 59), .ref (ad 60), .ref (ad 61), .int v_m_cl, .int v_m_wa, .int v_m_co_, .int v_m_fi, .int v_m_bu, .int v_m_ho, .ref (ad 62), .ref (ad 63), .ref (ad 64), .int v_m_lh, .int v_m_mg, .int v_m_wd, .int (t.2.2.2.2 3), .int (t.2.2.2.2 4), .ref (ad 65), .ref (ad 66), .ref (ad 67), .ref (ad 68), .long v_m_po, .long v_m_de]))]) rfl ?_
    refine y_if_ne (tgt := 20) d_Mm_hours_13 (by decide) (fun c_13 => ?_) (fun c_13 => ?_)
    · exact absurd c_13 (by decide)
    · refine y_iconst d_Mm_hours_16 (v := 1) (by decide) ?_
      refine y_goto (tgt := 21) d_Mm_hours_17 (by decide) ?_
      refine y_iconst d_Mm_hours_21 (v := 1) (by decide) ?_
      refine y_callV (As := [.int 1, .int 1]) (rest := []) (csC := [((ad 52), .inr (12, [.int 0, .ref (ad 53), .int (nI t.2.2.2.1), .ref (ad 54), .ref (ad 55), .ref (ad 56), .ref (ad 57), .ref (ad 58), .ref (ad 59), .ref (ad 60), .ref (ad 61), .int v_m_cl, .int v_m_wa, .int v_m_co_, .int v_m_fi, .int v_m_bu, .int v_m_ho, .ref (ad 62), .ref (ad 63), .ref (ad 64), .int v_m_lh, .int v_m_mg, .int v_m_wd, .int (t.2.2.2.2 3), .int (t.2.2.2.2 4), .ref (ad 65), .ref (ad 66), .ref (ad 67), .ref (ad 68), .long v_m_po, .long v_m_de]))]) (is := [0]) (q0 := 0) rfl rfl ln_Mm_103 w_im_Mm_fails w_se_Mm_fails ok_Mm_hours_Mm_fails d_Mm_hours_22 (C_Mm_fails1 g (ad 52) (ad 53) (ad 54) (ad 55) (ad 56) (ad 57) (ad 58) (ad 59) (ad 60) (ad 61) (ad 62) (ad 63) (ad 64) (ad 65) (ad 66) (ad 67) (ad 68) 0 (nI t.2.2.2.1) v_m_cl v_m_wa v_m_co_ v_m_fi v_m_bu v_m_ho v_m_lh v_m_mg v_m_wd (t.2.2.2.2 3) (t.2.2.2.2 4) v_m_po v_m_de) rfl rfl (Nat.le_of_ble_eq_true rfl) rfl (by decide) (by omega) (by omega) (fun E cs1 hx => ?_) (fun v cs1 hx => ?_)
      · exact absurd hx.1 (by simp)
      · obtain ⟨e1, rfl⟩ := hx
        cases e1
        refine ⟨rfl, ?_⟩
        refine y_st (st2 := [.int 1]) rfl ?_
        refine y_cs (cs2 := [((ad 52), .inr (12, [.int 1, .ref (ad 53), .int (nI t.2.2.2.1), .ref (ad 54), .ref (ad 55), .ref (ad 56), .ref (ad 57), .ref (ad 58), .ref (ad 59), .ref (ad 60), .ref (ad 61), .int v_m_cl, .int v_m_wa, .int v_m_co_, .int v_m_fi, .int v_m_bu, .int v_m_ho, .ref (ad 62), .ref (ad 63), .ref (ad 64), .int v_m_lh, .int v_m_mg, .int v_m_wd, .int (t.2.2.2.2 3), .int (t.2.2.2.2 4), .ref (ad 65), .ref (ad 66), .ref (ad 67), .ref (ad 68), .long v_m_po, .long v_m_de]))]) rfl ?_
        refine y_if_eq (tgt := 30) d_Mm_hours_25 (by decide) (fun c_25 => ?_) (fun c_25 => ?_)
        · exact absurd c_25 (by decide)
        · refine y_iconst d_Mm_hours_28 (v := 0) (by decide) ?_
          refine y_iret d_Mm_hours_29 rfl rfl ?_
          exact fun w1 h1 => ⟨⟨_, rfl⟩, ⟨_, (hI.gen (t2 := t) (is := [52]) (L2 := []) h1 rfl ⟨kd_52.mpr ⟨_, _, _, _, _, _, _, _, _, _, _, _, rfl⟩, trivial⟩ (by decide) (by decide) (fun _ h => nomatch h) (fun _ h => nomatch h) (fun _ _ _ _ h => h) (fun h => h))⟩⟩
theorem d_Mm_hours_56 : decode prog_14_method_53_code 56 = .ok (.aload_n 0, 1) := by decide +kernel
theorem d_Mm_hours_57 : decode prog_14_method_53_code 57 = .ok (.getfield 216, 3) := by decide +kernel
theorem d_Mm_hours_60 : decode prog_14_method_53_code 60 = .ok (.aload_n 0, 1) := by decide +kernel
theorem d_Mm_hours_61 : decode prog_14_method_53_code 61 = .ok (.getfield 58, 3) := by decide +kernel
theorem d_Mm_hours_64 : decode prog_14_method_53_code 64 = .ok (.iload_n 3, 1) := by decide +kernel
theorem d_Mm_hours_65 : decode prog_14_method_53_code 65 = .ok (.invokevirtual 211, 3) := by decide +kernel
theorem ok_Mm_hours_AL_get : z_ok M_Mm_hours M_AL_get 1 := ⟨z_mem (i := 477) (by decide +kernel) (by decide +kernel), rfl, ⟨by decide +kernel, by decide +kernel, by decide +kernel⟩, ⟨by decide, by decide⟩, z_mem (i := 70) (by decide +kernel) (by decide +kernel), rfl⟩
theorem d_Mm_hours_68 : decode prog_14_method_53_code 68 = .ok (.checkcast 215, 3) := by decide +kernel
theorem d_Mm_hours_71 : decode prog_14_method_53_code 71 = .ok (.iconst 1, 1) := by decide +kernel
theorem d_Mm_hours_72 : decode prog_14_method_53_code 72 = .ok (.iaload, 1) := by decide +kernel
theorem d_Mm_hours_73 : decode prog_14_method_53_code 73 = .ok (.bipush 72, 2) := by decide +kernel
theorem d_Mm_hours_75 : decode prog_14_method_53_code 75 = .ok (.iadd, 1) := by decide +kernel
theorem d_Mm_hours_76 : decode prog_14_method_53_code 76 = .ok (.if_icmp .le 28, 3) := by decide +kernel
theorem d_Mm_hours_104 : decode prog_14_method_53_code 104 = .ok (.iinc 3 (-1), 3) := by decide +kernel
theorem d_Mm_hours_107 : decode prog_14_method_53_code 107 = .ok (.goto (-55), 3) := by decide +kernel
theorem d_Mm_hours_79 : decode prog_14_method_53_code 79 = .ok (.iload_n 2, 1) := by decide +kernel
theorem d_Mm_hours_80 : decode prog_14_method_53_code 80 = .ok (.aload_n 0, 1) := by decide +kernel
theorem d_Mm_hours_81 : decode prog_14_method_53_code 81 = .ok (.getfield 58, 3) := by decide +kernel
theorem d_Mm_hours_84 : decode prog_14_method_53_code 84 = .ok (.iload_n 3, 1) := by decide +kernel
theorem d_Mm_hours_85 : decode prog_14_method_53_code 85 = .ok (.invokevirtual 211, 3) := by decide +kernel
theorem d_Mm_hours_88 : decode prog_14_method_53_code 88 = .ok (.checkcast 215, 3) := by decide +kernel
theorem d_Mm_hours_91 : decode prog_14_method_53_code 91 = .ok (.iconst 0, 1) := by decide +kernel
theorem d_Mm_hours_92 : decode prog_14_method_53_code 92 = .ok (.iaload, 1) := by decide +kernel
theorem d_Mm_hours_93 : decode prog_14_method_53_code 93 = .ok (.iadd, 1) := by decide +kernel
theorem d_Mm_hours_94 : decode prog_14_method_53_code 94 = .ok (.istore_n 2, 1) := by decide +kernel
theorem d_Mm_hours_95 : decode prog_14_method_53_code 95 = .ok (.aload_n 0, 1) := by decide +kernel
theorem d_Mm_hours_96 : decode prog_14_method_53_code 96 = .ok (.getfield 58, 3) := by decide +kernel
theorem d_Mm_hours_99 : decode prog_14_method_53_code 99 = .ok (.iload_n 3, 1) := by decide +kernel
theorem d_Mm_hours_100 : decode prog_14_method_53_code 100 = .ok (.invokevirtual 229, 3) := by decide +kernel
theorem ok_Mm_hours_AL_remove : z_ok M_Mm_hours M_AL_remove 1 := ⟨z_mem (i := 1379) (by decide +kernel) (by decide +kernel), rfl, ⟨by decide +kernel, by decide +kernel, by decide +kernel⟩, ⟨by decide, by decide⟩, z_mem (i := 70) (by decide +kernel) (by decide +kernel), rfl⟩
theorem ln_Mm_229 : Cond.methodLink "IronpourModel" 229 M_AL_remove.1 ∈ z_gw := z_mem (i := 1881) (by decide +kernel) (by decide +kernel)
theorem w_im_AL_remove : Cond.instanceMethod M_AL_remove.1 ∈ z_gw := z_mem (i := 1377) (by decide +kernel) (by decide +kernel)
theorem w_se_AL_remove : Cond.selects M_AL_remove.1.cls M_AL_remove.1 M_AL_remove.1 ∈ z_gw := z_mem (i := 1378) (by decide +kernel) (by decide +kernel)
theorem d_Mm_hours_103 : decode prog_14_method_53_code 103 = .ok (.pop, 1) := by decide +kernel
set_option maxHeartbeats 4000000 in
set_option maxRecDepth 100000 in
theorem L_Q_Mm_hoursN_52 (g : zG) {ad : Nat → Nat} {t : zTT} {u : zNN} {w : zW} (hI : IV g ad t u w) (x : Int32) (hw : 1 ≤ x ∧ x ≤ 48) : ∀ (d c : Nat) (u : zNN) (w : zW) (s9 : Int32), IV g ad t u w → c ≤ u.1 2 → c < d → DW g M_Mm_hours (fun o w1 => (∃ v : Int32, o = .inl (some (.int v))) ∧ ∃ u2, IV g ad t u2 w1) w 52 [(3, .int (dkI c)), (2, .int s9), (0, .ref (ad 52)), (1, .int x)] [] 0 0 := by
  clear hI w
  intro d
  induction d with
  | zero => intro c u w s9 hI h1 h2; exact absurd h2 (by omega)
  | succ d ih =>
    intro c u w s9 hI h1 h2
    obtain ⟨e_m, wf_m, k_m⟩ := hI.1.2 52 (by decide)
    obtain ⟨v_m_th, v_m_cl, v_m_wa, v_m_co_, v_m_fi, v_m_bu, v_m_ho, v_m_lh, v_m_mg, v_m_wd, v_m_po, v_m_de, rfl⟩ := kd_52.mp k_m
    refine y_base (hI.1.I [52] [((ad 52), .inr (12, [.int v_m_th, .ref (ad 53), .int (nI t.2.2.2.1), .ref (ad 54), .ref (ad 55), .ref (ad 56), .ref (ad 57), .ref (ad 58), .ref (ad 59), .ref (ad 60), .ref (ad 61), .int v_m_cl, .int v_m_wa, .int v_m_co_, .int v_m_fi, .int v_m_bu, .int v_m_ho, .ref (ad 62), .ref (ad 63), .ref (ad 64), .int v_m_lh, .int v_m_mg, .int v_m_wd, .int (t.2.2.2.2 3), .int (t.2.2.2.2 4), .ref (ad 65), .ref (ad 66), .ref (ad 67), .ref (ad 68), .long v_m_po, .long v_m_de]))] rfl (by decide) (by decide) (List.forall_mem_cons.mpr ⟨wf_m, (fun _ h => nomatch h)⟩)) ?_
    refine y_iload_n d_Mm_hours_52 rfl 0 rfl ?_
    refine y_if_lt (tgt := 110) d_Mm_hours_53 (by decide) (fun c_53 => ?_) (fun c_53 => ?_)
    · refine y_iload_n d_Mm_hours_110 rfl 1 rfl ?_
      refine y_iret d_Mm_hours_111 rfl rfl ?_
      exact fun w1 h1 => ⟨⟨_, rfl⟩, ⟨_, (hI.gen (t2 := t) (is := [52]) (L2 := []) h1 rfl ⟨kd_52.mpr ⟨_, _, _, _, _, _, _, _, _, _, _, _, rfl⟩, trivial⟩ (by decide) (by decide) (fun _ h => nomatch h) (fun _ h => nomatch h) (fun _ _ _ _ h => h) (fun h => h))⟩⟩
    · obtain ⟨e9, he9⟩ := dk_f c_53
      subst he9
      obtain ⟨m9, hm9⟩ : ∃ m9, u.1 2 = m9 + 1 := ⟨u.1 2 - 1, by omega⟩
      rw [dk_s]
      refine y_aload_n d_Mm_hours_56 rfl 2 rfl ?_
      refine y_get fs_Mm_216 d_Mm_hours_57 (q0 := 0) rfl rfl ?_
      refine y_aload_n d_Mm_hours_60 rfl 2 rfl ?_
      refine y_get fs_Mm_58 d_Mm_hours_61 (q0 := 0) rfl rfl ?_
      refine y_iload_n d_Mm_hours_64 rfl 0 rfl ?_
      refine yw_callVL (As := [.int (nI e9)]) (rest := [.int v_m_ho]) (ci := 13) rfl (fun wA hA => ((hI.gen (t2 := t) (is := [52]) (L2 := []) hA rfl ⟨kd_52.mpr ⟨_, _, _, _, _, _, _, _, _, _, _, _, rfl⟩, trivial⟩ (by decide) (by decide) (fun _ h => nomatch h) (fun _ h => nomatch h) (fun _ _ _ _ h => h) (fun h => h)).2.1.1 2 (by decide)).ob) ln_Mm_211 w_im_AL_get w_se_AL_get ok_Mm_hours_AL_get d_Mm_hours_65 (fun wA hA => Q_get ((hI.gen (t2 := t) (is := [52]) (L2 := []) hA rfl ⟨kd_52.mpr ⟨_, _, _, _, _, _, _, _, _, _, _, _, rfl⟩, trivial⟩ (by decide) (by decide) (fun _ h => nomatch h) (fun _ h => nomatch h) (fun _ _ _ _ h => h) (fun h => h)).2.1.1 2 (by decide)) (by omega)) rfl rfl (Nat.le_of_ble_eq_true rfl) (by omega) (by omega) (fun wA65 hA65 E wB65 hx => ?_) (fun wA65 hA65 v wB65 hx => ?_)
      · exact absurd hx.1 (by simp)
      · obtain ⟨e1, e2⟩ := hx
        cases e1
        refine yw_st (st2 := [.ref (u.2.2 2 e9), .int v_m_ho]) rfl ?_
        subst e2
        refine y_go hA65 ?_
        refine y_end (fun wC1 hC1 => ?_)
        have hI9 := (hI.gen (t2 := t) (is := [52]) (L2 := []) hC1 rfl ⟨kd_52.mpr ⟨_, _, _, _, _, _, _, _, _, _, _, _, rfl⟩, trivial⟩ (by decide) (by decide) (fun _ h => nomatch h) (fun _ h => nomatch h) (fun _ _ _ _ h => h) (fun h => h))
        have hI := hI9
        obtain ⟨nf_c, f_c, hw_c⟩ := hI.2.1.2.1 2 (by decide) e9 (by omega)
        refine y_base (cs := [((ad 52), .inr (12, [.int v_m_th, .ref (ad 53), .int (nI t.2.2.2.1), .ref (ad 54), .ref (ad 55), .ref (ad 56), .ref (ad 57), .ref (ad 58), .ref (ad 59), .ref (ad 60), .ref (ad 61), .int v_m_cl, .int v_m_wa, .int v_m_co_, .int v_m_fi, .int v_m_bu, .int v_m_ho, .ref (ad 62), .ref (ad 63), .ref (ad 64), .int v_m_lh, .int v_m_mg, .int v_m_wd, .int (t.2.2.2.2 3), .int (t.2.2.2.2 4), .ref (ad 65), .ref (ad 66), .ref (ad 67), .ref (ad 68), .long v_m_po, .long v_m_de])), ((u.2.2 2 e9), .inl (0, 2, .inl f_c))]) (z_I.kd (List.forall_mem_cons.mpr ⟨hC1.at (q0 := 0) rfl, (List.forall_mem_cons.mpr ⟨hw_c, (fun _ h => nomatch h)⟩)⟩) (by simp [z_kd])) ?_
        refine y_castA (t := 0) (by decide) lk_Mm_215 d_Mm_hours_68 (q0 := 1) rfl ?_
        refine y_iconst d_Mm_hours_71 (v := 1) (by decide) ?_
        refine y_iald d_Mm_hours_72 (q0 := 1) rfl (fun q => q.elim (by decide) (by decide)) (v := f_c 1) rfl ?_
        refine y_bipush d_Mm_hours_73 (v := 72) (by decide) ?_
        refine y_iadd d_Mm_hours_75 (v := (f_c 1) + 72) rfl ?_
        refine y_icmp_le (tgt := 104) d_Mm_hours_76 (by decide) (fun c_76 => ?_) (fun c_76 => ?_)
        · refine y_iinc (lv' := [(3, .int (dkI e9)), (2, .int s9), (0, .ref (ad 52)), (1, .int x)]) (v := dkI e9) d_Mm_hours_104 (j := 0) rfl (dk_d e9) (by decide) rfl ?_
          refine y_goto (tgt := 52) d_Mm_hours_107 (by decide) ?_
          refine y_end (fun wC2 hC2 => ?_)
          have hI9 := (hI.gen (t2 := t) (is := [52]) (L2 := [(u.2.2 2 e9)]) hC2 rfl ⟨kd_52.mpr ⟨_, _, _, _, _, _, _, _, _, _, _, _, rfl⟩, trivial⟩ (by decide) (by decide) (List.forall_mem_cons.mpr ⟨nf_c, (fun _ h => nomatch h)⟩) (List.forall_mem_cons.mpr ⟨⟨_, _, hw_c, hC2.at (q0 := 1) rfl, Or.inl rfl⟩, (fun _ h => nomatch h)⟩) (fun _ _ _ _ h => h) (fun h => h))
          exact ih e9 _ _ _ hI9 (by first | omega | (show e9 ≤ m9; omega)) (by omega)
        · refine y_iload_n d_Mm_hours_79 rfl 1 rfl ?_
          refine y_aload_n d_Mm_hours_80 rfl 2 rfl ?_
          refine y_get fs_Mm_58 d_Mm_hours_81 (q0 := 0) rfl rfl ?_
          refine y_iload_n d_Mm_hours_84 rfl 0 rfl ?_
          refine yw_callVL (As := [.int (nI e9)]) (rest := [.int s9]) (ci := 13) rfl (fun wA hA => ((hI.gen (t2 := t) (is := [52]) (L2 := [(u.2.2 2 e9)]) hA rfl ⟨kd_52.mpr ⟨_, _, _, _, _, _, _, _, _, _, _, _, rfl⟩, trivial⟩ (by decide) (by decide) (List.forall_mem_cons.mpr ⟨nf_c, (fun _ h => nomatch h)⟩) (List.forall_mem_cons.mpr ⟨⟨_, _, hw_c, hA.at (q0 := 1) rfl, Or.inl rfl⟩, (fun _ h => nomatch h)⟩) (fun _ _ _ _ h => h) (fun h => h)).2.1.1 2 (by decide)).ob) ln_Mm_211 w_im_AL_get w_se_AL_get ok_Mm_hours_AL_get d_Mm_hours_85 (fun wA hA => Q_get ((hI.gen (t2 := t) (is := [52]) (L2 := [(u.2.2 2 e9)]) hA rfl ⟨kd_52.mpr ⟨_, _, _, _, _, _, _, _, _, _, _, _, rfl⟩, trivial⟩ (by decide) (by decide) (List.forall_mem_cons.mpr ⟨nf_c, (fun _ h => nomatch h)⟩) (List.forall_mem_cons.mpr ⟨⟨_, _, hw_c, hA.at (q0 := 1) rfl, Or.inl rfl⟩, (fun _ h => nomatch h)⟩) (fun _ _ _ _ h => h) (fun h => h)).2.1.1 2 (by decide)) (by omega)) rfl rfl (Nat.le_of_ble_eq_true rfl) (by omega) (by omega) (fun wA85 hA85 E wB85 hx => ?_) (fun wA85 hA85 v wB85 hx => ?_)
          · exact absurd hx.1 (by simp)
          · obtain ⟨e1, e2⟩ := hx
            cases e1
            refine yw_st (st2 := [.ref (u.2.2 2 e9), .int s9]) rfl ?_
            subst e2
            refine y_go hA85 ?_
            refine y_castA (t := 0) (by decide) lk_Mm_215 d_Mm_hours_88 (q0 := 1) rfl ?_
            refine y_iconst d_Mm_hours_91 (v := 0) (by decide) ?_
            refine y_iald d_Mm_hours_92 (q0 := 1) rfl (fun q => q.elim (by decide) (by decide)) (v := f_c 0) rfl ?_
            refine y_iadd d_Mm_hours_93 (v := s9 + (f_c 0)) rfl ?_
            refine y_istore_n (lv' := [(2, .int (s9 + (f_c 0))), (3, .int (nI e9)), (0, .ref (ad 52)), (1, .int x)]) d_Mm_hours_94 rfl (by decide) rfl ?_
            refine y_aload_n d_Mm_hours_95 rfl 2 rfl ?_
            refine y_get fs_Mm_58 d_Mm_hours_96 (q0 := 0) rfl rfl ?_
            refine y_iload_n d_Mm_hours_99 rfl 1 rfl ?_
            refine yw_callVL (As := [.int (nI e9)]) (rest := []) (ci := 13) rfl (fun wA hA => ((hI.gen (t2 := t) (is := [52]) (L2 := [(u.2.2 2 e9)]) hA rfl ⟨kd_52.mpr ⟨_, _, _, _, _, _, _, _, _, _, _, _, rfl⟩, trivial⟩ (by decide) (by decide) (List.forall_mem_cons.mpr ⟨nf_c, (fun _ h => nomatch h)⟩) (List.forall_mem_cons.mpr ⟨⟨_, _, hw_c, hA.at (q0 := 1) rfl, Or.inl rfl⟩, (fun _ h => nomatch h)⟩) (fun _ _ _ _ h => h) (fun h => h)).2.1.1 2 (by decide)).ob) ln_Mm_229 w_im_AL_remove w_se_AL_remove ok_Mm_hours_AL_remove d_Mm_hours_100 (fun wA hA => Q_rem ((hI.gen (t2 := t) (is := [52]) (L2 := [(u.2.2 2 e9)]) hA rfl ⟨kd_52.mpr ⟨_, _, _, _, _, _, _, _, _, _, _, _, rfl⟩, trivial⟩ (by decide) (by decide) (List.forall_mem_cons.mpr ⟨nf_c, (fun _ h => nomatch h)⟩) (List.forall_mem_cons.mpr ⟨⟨_, _, hw_c, hA.at (q0 := 1) rfl, Or.inl rfl⟩, (fun _ h => nomatch h)⟩) (fun _ _ _ _ h => h) (fun h => h)).2.1.1 2 (by decide)) hm9 (fun k hk => ((hI.gen (t2 := t) (is := [52]) (L2 := [(u.2.2 2 e9)]) hA rfl ⟨kd_52.mpr ⟨_, _, _, _, _, _, _, _, _, _, _, _, rfl⟩, trivial⟩ (by decide) (by decide) (List.forall_mem_cons.mpr ⟨nf_c, (fun _ h => nomatch h)⟩) (List.forall_mem_cons.mpr ⟨⟨_, _, hw_c, hA.at (q0 := 1) rfl, Or.inl rfl⟩, (fun _ h => nomatch h)⟩) (fun _ _ _ _ h => h) (fun h => h)).2.1.2.1 2 (by decide) k (by omega)).elt2) (by omega)) rfl rfl (Nat.le_of_ble_eq_true rfl) (by omega) (by omega) (fun wA100 hA100 E wB100 hx => ?_) (fun wA100 hA100 v wB100 hx => ?_)
            · exact absurd hx.1 (by simp)
            · obtain ⟨e1, e2, e3⟩ := hx
              cases e1
              refine yw_st (st2 := [.ref (u.2.2 2 e9)]) rfl ?_
              have hI8 := (hI.gen (t2 := t) (is := [52]) (L2 := [(u.2.2 2 e9)]) hA100 rfl ⟨kd_52.mpr ⟨_, _, _, _, _, _, _, _, _, _, _, _, rfl⟩, trivial⟩ (by decide) (by decide) (List.forall_mem_cons.mpr ⟨nf_c, (fun _ h => nomatch h)⟩) (List.forall_mem_cons.mpr ⟨⟨_, _, hw_c, hA100.at (q0 := 1) rfl, Or.inl rfl⟩, (fun _ h => nomatch h)⟩) (fun _ _ _ _ h => h) (fun h => h))
              have hI := (hI8.iw.rem (L := 2) (by decide) hm9 (by omega) e2 e3).iv (hI8.sz.s2 (by have := hI8.sz; unfold SZ at this; omega))
              obtain ⟨e_m, wf_m, k_m⟩ := hI.1.2 52 (by decide)
              obtain ⟨v_m_th, v_m_cl, v_m_wa, v_m_co_, v_m_fi, v_m_bu, v_m_ho, v_m_lh, v_m_mg, v_m_wd, v_m_po, v_m_de, rfl⟩ := kd_52.mp k_m
              refine y_base (cs := [((ad 52), .inr (12, [.int v_m_th, .ref (ad 53), .int (nI t.2.2.2.1), .ref (ad 54), .ref (ad 55), .ref (ad 56), .ref (ad 57), .ref (ad 58), .ref (ad 59), .ref (ad 60), .ref (ad 61), .int v_m_cl, .int v_m_wa, .int v_m_co_, .int v_m_fi, .int v_m_bu, .int v_m_ho, .ref (ad 62), .ref (ad 63), .ref (ad 64), .int v_m_lh, .int v_m_mg, .int v_m_wd, .int (t.2.2.2.2 3), .int (t.2.2.2.2 4), .ref (ad 65), .ref (ad 66), .ref (ad 67), .ref (ad 68), .long v_m_po, .long v_m_de]))]) (hI.1.I [52] _ rfl (by decide) (by decide) (List.forall_mem_cons.mpr ⟨wf_m, (fun _ h => nomatch h)⟩)) ?_
              refine y_pop d_Mm_hours_103 rfl ?_
              refine y_iinc (lv' := [(3, .int (dkI e9)), (2, .int (s9 + (f_c 0))), (0, .ref (ad 52)), (1, .int x)]) (v := dkI e9) d_Mm_hours_104 (j := 1) rfl (dk_d e9) (by decide) rfl ?_
              refine y_goto (tgt := 52) d_Mm_hours_107 (by decide) ?_
              refine y_end (fun wC3 hC3 => ?_)
              have hI9 := (hI.gen (t2 := t) (is := [52]) (L2 := []) hC3 rfl ⟨kd_52.mpr ⟨_, _, _, _, _, _, _, _, _, _, _, _, rfl⟩, trivial⟩ (by decide) (by decide) (fun _ h => nomatch h) (fun _ h => nomatch h) (fun _ _ _ _ h => h) (fun h => h))
              exact ih e9 _ _ _ hI9 (by first | omega | (show e9 ≤ m9; omega)) (by omega)
set_option maxHeartbeats 4000000 in
set_option maxRecDepth 100000 in
theorem Q_Mm_hoursN {g : zG} {ad : Nat → Nat} {t : zTT} {u : zNN} {w : zW} (hI : IV g ad t u w) (x : Int32) (hw : 1 ≤ x ∧ x ≤ 48) : zMB g M_Mm_hours [.ref (ad 52), .int x] w (fun o w1 => (∃ v : Int32, o = .inl (some (.int v))) ∧ ∃ u2, IV g ad t u2 w1) 0 0 := by
  obtain ⟨e_m, wf_m, k_m⟩ := hI.1.2 52 (by decide)
  obtain ⟨v_m_th, v_m_cl, v_m_wa, v_m_co_, v_m_fi, v_m_bu, v_m_ho, v_m_lh, v_m_mg, v_m_wd, v_m_po, v_m_de, rfl⟩ := kd_52.mp k_m
  refine y_of (by decide) rfl (Nat.le_of_ble_eq_true rfl) (y_base (cs := [((ad 52), .inr (12, [.int v_m_th, .ref (ad 53), .int (nI t.2.2.2.1), .ref (ad 54), .ref (ad 55), .ref (ad 56), .ref (ad 57), .ref (ad 58), .ref (ad 59), .ref (ad 60), .ref (ad 61), .int v_m_cl, .int v_m_wa, .int v_m_co_, .int v_m_fi, .int v_m_bu, .int v_m_ho, .ref (ad 62), .ref (ad 63), .ref (ad 64), .int v_m_lh, .int v_m_mg, .int v_m_wd, .int (t.2.2.2.2 3), .int (t.2.2.2.2 4), .ref (ad 65), .ref (ad 66), .ref (ad 67), .ref (ad 68), .long v_m_po, .long v_m_de]))]) (hI.1.I [52] _ rfl (by decide) (by decide) (List.forall_mem_cons.mpr ⟨wf_m, (fun _ h => nomatch h)⟩)) ?_)
  refine y_lvE (lv2 := [(0, .ref (ad 52)), (1, .int x)]) rfl ?_
  refine y_aload_n d_Mm_hours_0 rfl 0 rfl ?_
  refine y_iconst d_Mm_hours_1 (v := 0) (by decide) ?_
  refine y_put fp_Mm_84 d_Mm_hours_2 (fun h => nomatch h) rfl rfl (q0 := 0) rfl (Nat.le_of_ble_eq_true rfl) (cs' := [((ad 52), .inr (12, [.int 0, .ref (ad 53), .int (nI t.2.2.2.1), .ref (ad 54), .ref (ad 55), .ref (ad 56), .ref (ad 57), .ref (ad 58), .ref (ad 59), .ref (ad 60), .ref (ad 61), .int v_m_cl, .int v_m_wa, .int v_m_co_, .int v_m_fi, .int v_m_bu, .int v_m_ho, .ref (ad 62), .ref (ad 63), .ref (ad 64), .int v_m_lh, .int v_m_mg, .int v_m_wd, .int (t.2.2.2.2 3), .int (t.2.2.2.2 4), .ref (ad 65), .ref (ad 66), .ref (ad 67), .ref (ad 68), .long v_m_po, .long v_m_de]))]) rfl ?_
  refine y_aload_n d_Mm_hours_5 rfl 0 rfl ?_
  refine y_iload_n d_Mm_hours_6 rfl 1 rfl ?_
  refine y_iconst d_Mm_hours_7 (v := 1) (by decide) ?_
  refine y_bipush d_Mm_hours_8 (v := 48) (by decide) ?_
  refine y_callS (As := [.int x, .int 1, .int 48]) (rest := [.ref (ad 52)]) (csC := []) (is := []) ln_Mm_87 w_st_Mm_in ok_Mm_hours_Mm_in d_Mm_hours_10 (C_Mm_in g x 1 48) rfl rfl (Nat.le_of_ble_eq_true rfl) rfl (by decide) (by omega) (by omega) (fun E cs1 hx => ?_) (fun v cs1 hx => ?_)
  · exact absurd hx.1 (by simp)
  · obtain ⟨e1, rfl⟩ := hx
    rw [if_pos hw] at e1
    cases e1
    refine ⟨rfl, ?_⟩
    refine y_st (st2 := [.int 1, .ref (ad 52)]) rfl ?_
    refine y_cs (cs2 := [((ad 52), .inr (12, [.int 0, .ref (ad 53), .int (nI t.2.2.2.1), .ref (ad 54), .ref (ad 55), .ref (ad 56), .ref (ad 57), .ref (ad 58), .ref (ad 59), .ref (ad 60), .ref (ad 61), .int v_m_cl, .int v_m_wa, .int v_m_co_, .int v_m_fi, .int v_m_bu, .int v_m_ho, .ref (ad 62), .ref (ad 63), .ref (ad 64), .int v_m_lh, .int v_m_mg, .int v_m_wd, .int (t.2.2.2.2 3), .int (t.2.2.2.2 4), .ref (ad 65), .ref (ad 66), .ref (ad 67), .ref (ad 68), .long v_m_po, .long v_m_de]))]) rfl ?_
    refine y_if_ne (tgt := 20) d_Mm_hours_13 (by decide) (fun c_13 => ?_) (fun c_13 => ?_)
    · refine y_iconst d_Mm_hours_20 (v := 0) (by decide) ?_
      refine y_iconst d_Mm_hours_21 (v := 1) (by decide) ?_
      refine y_callV (As := [.int 0, .int 1]) (rest := []) (csC := [((ad 52), .inr (12, [.int 0, .ref (ad 53), .int (nI t.2.2.2.1), .ref (ad 54), .ref (ad 55), .ref (ad 56), .ref (ad 57), .ref (ad 58), .ref (ad 59), .ref (ad 60), .ref (ad 61), .int v_m_cl, .int v_m_wa, .int v_m_co_, .int v_m_fi, .int v_m_bu, .int v_m_ho, .ref (ad 62), .ref (ad 63), .ref (ad 64), .int v_m_lh, .int v_m_mg, .int v_m_wd, .int (t.2.2.2.2 3), .int (t.2.2.2.2 4), .ref (ad 65), .ref (ad 66), .ref (ad 67), .ref (ad 68), .long v_m_po, .long v_m_de]))]) (is := [0]) (q0 := 0) rfl rfl ln_Mm_103 w_im_Mm_fails w_se_Mm_fails ok_Mm_hours_Mm_fails d_Mm_hours_22 (C_Mm_fails0 g (ad 52) (ad 53) (ad 54) (ad 55) (ad 56) (ad 57) (ad 58) (ad 59) (ad 60) (ad 61) (ad 62) (ad 63) (ad 64) (ad 65) (ad 66) (ad 67) (ad 68) 0 (nI t.2.2.2.1) v_m_cl v_m_wa v_m_co_ v_m_fi v_m_bu v_m_ho v_m_lh v_m_mg v_m_wd (t.2.2.2.2 3) (t.2.2.2.2 4) v_m_po v_m_de 1) rfl rfl (Nat.le_of_ble_eq_true rfl) rfl (by decide) (by omega) (by omega) (fun E cs1 hx => ?_) (fun v cs1 hx => ?_)
      · exact absurd hx.1 (by simp)
      · obtain ⟨e1, rfl⟩ := hx
        cases e1
        refine ⟨rfl, ?_⟩
        refine y_st (st2 := [.int 0]) rfl ?_
        refine y_cs (cs2 := [((ad 52), .inr (12, [.int 0, .ref (ad 53), .int (nI t.2.2.2.1), .ref (ad 54), .ref (ad 55), .ref (ad 56), .ref (ad 57), .ref (ad 58), .ref (ad 59), .ref (ad 60), .ref (ad 61), .int v_m_cl, .int v_m_wa, .int v_m_co_, .int v_m_fi, .int v_m_bu, .int v_m_ho, .ref (ad 62), .ref (ad 63), .ref (ad 64), .int v_m_lh, .int v_m_mg, .int v_m_wd, .int (t.2.2.2.2 3), .int (t.2.2.2.2 4), .ref (ad 65), .ref (ad 66), .ref (ad 67), .ref (ad 68), .long v_m_po, .long v_m_de]))]) rfl ?_
        refine y_if_eq (tgt := 30) d_Mm_hours_25 (by decide) (fun c_25 => ?_) (fun c_25 => ?_)
        · refine y_aload_n d_Mm_hours_30 rfl 0 rfl ?_
          refine y_dup d_Mm_hours_31 rfl ?_
          refine y_get fs_Mm_216 d_Mm_hours_32 (q0 := 0) rfl rfl ?_
          refine y_iload_n d_Mm_hours_35 rfl 1 rfl ?_
          refine y_iadd d_Mm_hours_36 (v := v_m_ho + x) rfl ?_
          refine y_put fp_Mm_216 d_Mm_hours_37 (fun h => nomatch h) rfl rfl (q0 := 0) rfl (Nat.le_of_ble_eq_true rfl) (cs' := [((ad 52), .inr (12, [.int 0, .ref (ad 53), .int (nI t.2.2.2.1), .ref (ad 54), .ref (ad 55), .ref (ad 56), .ref (ad 57), .ref (ad 58), .ref (ad 59), .ref (ad 60), .ref (ad 61), .int v_m_cl, .int v_m_wa, .int v_m_co_, .int v_m_fi, .int v_m_bu, .int (v_m_ho + x), .ref (ad 62), .ref (ad 63), .ref (ad 64), .int v_m_lh, .int v_m_mg, .int v_m_wd, .int (t.2.2.2.2 3), .int (t.2.2.2.2 4), .ref (ad 65), .ref (ad 66), .ref (ad 67), .ref (ad 68), .long v_m_po, .long v_m_de]))]) rfl ?_
          refine y_iconst d_Mm_hours_40 (v := 0) (by decide) ?_
          refine y_istore_n (lv' := [(2, .int 0), (0, .ref (ad 52)), (1, .int x)]) d_Mm_hours_41 rfl (by decide) rfl ?_
          refine y_aload_n d_Mm_hours_42 rfl 1 rfl ?_
          refine y_get fs_Mm_58 d_Mm_hours_43 (q0 := 0) rfl rfl ?_
          refine yw_callVL (As := []) (rest := []) (ci := 13) rfl (fun wA hA => ((hI.gen (t2 := t) (is := [52]) (L2 := []) hA rfl ⟨kd_52.mpr ⟨_, _, _, _, _, _, _, _, _, _, _, _, rfl⟩, trivial⟩ (by decide) (by decide) (fun _ h => nomatch h) (fun _ h => nomatch h) (fun _ _ _ _ h => h) (fun h => h)).2.1.1 2 (by decide)).ob) ln_Mm_208 w_im_AL_size w_se_AL_size ok_Mm_hours_AL_size d_Mm_hours_46 (fun wA hA => Q_size ((hI.gen (t2 := t) (is := [52]) (L2 := []) hA rfl ⟨kd_52.mpr ⟨_, _, _, _, _, _, _, _, _, _, _, _, rfl⟩, trivial⟩ (by decide) (by decide) (fun _ h => nomatch h) (fun _ h => nomatch h) (fun _ _ _ _ h => h) (fun h => h)).2.1.1 2 (by decide))) rfl rfl (Nat.le_of_ble_eq_true rfl) (by omega) (by omega) (fun wA46 hA46 E wB46 hx => ?_) (fun wA46 hA46 v wB46 hx => ?_)
          · exact absurd hx.1 (by simp)
          · obtain ⟨e1, e2⟩ := hx
            cases e1
            refine yw_st (st2 := [.int (nI (u.1 2))]) rfl ?_
            subst e2
            refine y_go hA46 ?_
            refine y_iconst d_Mm_hours_49 (v := 1) (by decide) ?_
            refine y_isub d_Mm_hours_50 (v := dkI (u.1 2)) rfl ?_
            refine y_istore_n (lv' := [(3, .int (dkI (u.1 2))), (2, .int 0), (0, .ref (ad 52)), (1, .int x)]) d_Mm_hours_51 rfl (by decide) rfl ?_
            refine y_end (fun wC4 hC4 => ?_)
            have hI9 := (hI.gen (t2 := t) (is := [52]) (L2 := []) hC4 rfl ⟨kd_52.mpr ⟨_, _, _, _, _, _, _, _, _, _, _, _, rfl⟩, trivial⟩ (by decide) (by decide) (fun _ h => nomatch h) (fun _ h => nomatch h) (fun _ _ _ _ h => h) (fun h => h))
            exact L_Q_Mm_hoursN_52 g hI9 x hw (u.1 2 + 1) (u.1 2) _ _ 0 hI9 (Nat.le_refl _) (by omega)
        · exact absurd c_25 (by decide)
    · exact absurd c_13 (by decide)
abbrev M_Mm_takeCores : zM := (⟨"IronpourModel", "takeCores", "(I)V"⟩, prog_14_method_54_code, 6, (Option.none : Option FieldType), 4, 146, [])
theorem d_Mm_takeCores_83 : decode prog_14_method_54_code 83 = .ok (.iload_n 3, 1) := by decide +kernel
theorem d_Mm_takeCores_84 : decode prog_14_method_54_code 84 = .ok (.ifCond .lt 34, 3) := by decide +kernel
theorem d_Mm_takeCores_118 : decode prog_14_method_54_code 118 = .ok (.return_, 1) := by decide +kernel
theorem d_Mm_takeCores_87 : decode prog_14_method_54_code 87 = .ok (.aload_n 0, 1) := by decide +kernel
theorem d_Mm_takeCores_88 : decode prog_14_method_54_code 88 = .ok (.getfield 58, 3) := by decide +kernel
theorem d_Mm_takeCores_91 : decode prog_14_method_54_code 91 = .ok (.iload_n 3, 1) := by decide +kernel
theorem d_Mm_takeCores_92 : decode prog_14_method_54_code 92 = .ok (.invokevirtual 211, 3) := by decide +kernel
theorem ok_Mm_takeCores_AL_get : z_ok M_Mm_takeCores M_AL_get 1 := ⟨z_mem (i := 477) (by decide +kernel) (by decide +kernel), rfl, ⟨by decide +kernel, by decide +kernel, by decide +kernel⟩, ⟨by decide, by decide⟩, z_mem (i := 70) (by decide +kernel) (by decide +kernel), rfl⟩
theorem d_Mm_takeCores_95 : decode prog_14_method_54_code 95 = .ok (.checkcast 215, 3) := by decide +kernel
theorem d_Mm_takeCores_98 : decode prog_14_method_54_code 98 = .ok (.iconst 0, 1) := by decide +kernel
theorem d_Mm_takeCores_99 : decode prog_14_method_54_code 99 = .ok (.iaload, 1) := by decide +kernel
theorem d_Mm_takeCores_100 : decode prog_14_method_54_code 100 = .ok (.ifCond .ne 12, 3) := by decide +kernel
theorem d_Mm_takeCores_112 : decode prog_14_method_54_code 112 = .ok (.iinc 3 (-1), 3) := by decide +kernel
theorem d_Mm_takeCores_115 : decode prog_14_method_54_code 115 = .ok (.goto (-32), 3) := by decide +kernel
theorem d_Mm_takeCores_103 : decode prog_14_method_54_code 103 = .ok (.aload_n 0, 1) := by decide +kernel
theorem d_Mm_takeCores_104 : decode prog_14_method_54_code 104 = .ok (.getfield 58, 3) := by decide +kernel
theorem d_Mm_takeCores_107 : decode prog_14_method_54_code 107 = .ok (.iload_n 3, 1) := by decide +kernel
theorem d_Mm_takeCores_108 : decode prog_14_method_54_code 108 = .ok (.invokevirtual 229, 3) := by decide +kernel
theorem ok_Mm_takeCores_AL_remove : z_ok M_Mm_takeCores M_AL_remove 1 := ⟨z_mem (i := 1379) (by decide +kernel) (by decide +kernel), rfl, ⟨by decide +kernel, by decide +kernel, by decide +kernel⟩, ⟨by decide, by decide⟩, z_mem (i := 70) (by decide +kernel) (by decide +kernel), rfl⟩
theorem d_Mm_takeCores_111 : decode prog_14_method_54_code 111 = .ok (.pop, 1) := by decide +kernel
theorem d_Mm_takeCores_4 : decode prog_14_method_54_code 4 = .ok (.iload_n 3, 1) := by decide +kernel
theorem d_Mm_takeCores_5 : decode prog_14_method_54_code 5 = .ok (.aload_n 0, 1) := by decide +kernel
theorem d_Mm_takeCores_6 : decode prog_14_method_54_code 6 = .ok (.getfield 58, 3) := by decide +kernel
theorem d_Mm_takeCores_9 : decode prog_14_method_54_code 9 = .ok (.invokevirtual 208, 3) := by decide +kernel
theorem ok_Mm_takeCores_AL_size : z_ok M_Mm_takeCores M_AL_size 0 := ⟨z_mem (i := 469) (by decide +kernel) (by decide +kernel), rfl, ⟨by decide +kernel, by decide +kernel, by decide +kernel⟩, ⟨by decide, by decide⟩, z_mem (i := 70) (by decide +kernel) (by decide +kernel), rfl⟩
theorem d_Mm_takeCores_12 : decode prog_14_method_54_code 12 = .ok (.if_icmp .ge 61, 3) := by decide +kernel
theorem d_Mm_takeCores_73 : decode prog_14_method_54_code 73 = .ok (.aload_n 0, 1) := by decide +kernel
theorem d_Mm_takeCores_74 : decode prog_14_method_54_code 74 = .ok (.getfield 58, 3) := by decide +kernel
theorem d_Mm_takeCores_77 : decode prog_14_method_54_code 77 = .ok (.invokevirtual 208, 3) := by decide +kernel
theorem d_Mm_takeCores_80 : decode prog_14_method_54_code 80 = .ok (.iconst 1, 1) := by decide +kernel
theorem d_Mm_takeCores_81 : decode prog_14_method_54_code 81 = .ok (.isub, 1) := by decide +kernel
theorem d_Mm_takeCores_82 : decode prog_14_method_54_code 82 = .ok (.istore_n 3, 1) := by decide +kernel
theorem d_Mm_takeCores_15 : decode prog_14_method_54_code 15 = .ok (.aload_n 0, 1) := by decide +kernel
theorem d_Mm_takeCores_16 : decode prog_14_method_54_code 16 = .ok (.getfield 58, 3) := by decide +kernel
theorem d_Mm_takeCores_19 : decode prog_14_method_54_code 19 = .ok (.iload_n 3, 1) := by decide +kernel
theorem d_Mm_takeCores_20 : decode prog_14_method_54_code 20 = .ok (.invokevirtual 211, 3) := by decide +kernel
theorem d_Mm_takeCores_23 : decode prog_14_method_54_code 23 = .ok (.checkcast 215, 3) := by decide +kernel
theorem d_Mm_takeCores_26 : decode prog_14_method_54_code 26 = .ok (.astore 4, 2) := by decide +kernel
theorem d_Mm_takeCores_28 : decode prog_14_method_54_code 28 = .ok (.aload 4, 2) := by decide +kernel
theorem d_Mm_takeCores_30 : decode prog_14_method_54_code 30 = .ok (.iconst 1, 1) := by decide +kernel
theorem d_Mm_takeCores_31 : decode prog_14_method_54_code 31 = .ok (.iaload, 1) := by decide +kernel
theorem d_Mm_takeCores_32 : decode prog_14_method_54_code 32 = .ok (.aload_n 0, 1) := by decide +kernel
theorem d_Mm_takeCores_33 : decode prog_14_method_54_code 33 = .ok (.getfield 216, 3) := by decide +kernel
theorem d_Mm_takeCores_36 : decode prog_14_method_54_code 36 = .ok (.if_icmp .gt 14, 3) := by decide +kernel
theorem d_Mm_takeCores_50 : decode prog_14_method_54_code 50 = .ok (.iconst 0, 1) := by decide +kernel
theorem d_Mm_takeCores_51 : decode prog_14_method_54_code 51 = .ok (.istore 5, 2) := by decide +kernel
theorem d_Mm_takeCores_53 : decode prog_14_method_54_code 53 = .ok (.aload 4, 2) := by decide +kernel
theorem d_Mm_takeCores_55 : decode prog_14_method_54_code 55 = .ok (.iconst 0, 1) := by decide +kernel
theorem d_Mm_takeCores_56 : decode prog_14_method_54_code 56 = .ok (.dup2, 1) := by decide +kernel
theorem d_Mm_takeCores_57 : decode prog_14_method_54_code 57 = .ok (.iaload, 1) := by decide +kernel
theorem d_Mm_takeCores_58 : decode prog_14_method_54_code 58 = .ok (.iload 5, 2) := by decide +kernel
theorem d_Mm_takeCores_60 : decode prog_14_method_54_code 60 = .ok (.isub, 1) := by decide +kernel
theorem d_Mm_takeCores_61 : decode prog_14_method_54_code 61 = .ok (.iastore, 1) := by decide +kernel
theorem d_Mm_takeCores_62 : decode prog_14_method_54_code 62 = .ok (.iload_n 2, 1) := by decide +kernel
theorem d_Mm_takeCores_63 : decode prog_14_method_54_code 63 = .ok (.iload 5, 2) := by decide +kernel
theorem d_Mm_takeCores_65 : decode prog_14_method_54_code 65 = .ok (.isub, 1) := by decide +kernel
theorem d_Mm_takeCores_66 : decode prog_14_method_54_code 66 = .ok (.istore_n 2, 1) := by decide +kernel
theorem d_Mm_takeCores_67 : decode prog_14_method_54_code 67 = .ok (.iinc 3 1, 3) := by decide +kernel
theorem d_Mm_takeCores_70 : decode prog_14_method_54_code 70 = .ok (.goto (-66), 3) := by decide +kernel
theorem d_Mm_takeCores_39 : decode prog_14_method_54_code 39 = .ok (.iload_n 2, 1) := by decide +kernel
theorem d_Mm_takeCores_40 : decode prog_14_method_54_code 40 = .ok (.aload 4, 2) := by decide +kernel
theorem d_Mm_takeCores_42 : decode prog_14_method_54_code 42 = .ok (.iconst 0, 1) := by decide +kernel
theorem d_Mm_takeCores_43 : decode prog_14_method_54_code 43 = .ok (.iaload, 1) := by decide +kernel
theorem d_Mm_takeCores_44 : decode prog_14_method_54_code 44 = .ok (.invokestatic 182, 3) := by decide +kernel
theorem d_Mm_takeCores_47 : decode prog_14_method_54_code 47 = .ok (.goto 4, 3) := by decide +kernel
theorem d_Mm_takeCores_0 : decode prog_14_method_54_code 0 = .ok (.iload_n 1, 1) := by decide +kernel
theorem d_Mm_takeCores_1 : decode prog_14_method_54_code 1 = .ok (.istore_n 2, 1) := by decide +kernel
theorem d_Mm_takeCores_2 : decode prog_14_method_54_code 2 = .ok (.iconst 0, 1) := by decide +kernel
theorem d_Mm_takeCores_3 : decode prog_14_method_54_code 3 = .ok (.istore_n 3, 1) := by decide +kernel
set_option maxHeartbeats 4000000 in
set_option maxRecDepth 100000 in
theorem L_Q_takeCores_83 (g : zG) {ad : Nat → Nat} {t : zTT} {u : zNN} {w : zW} (hI : IV g ad t u w) (x : Int32) : ∀ (d c : Nat) (u : zNN) (w : zW), IV g ad t u w → c ≤ u.1 2 → c < d → DW g M_Mm_takeCores (fun o w1 => o = .inl none ∧ ∃ u2, IV g ad t u2 w1) w 83 [(3, .int (dkI c)), (0, .ref (ad 52)), (1, .int x)] [] 0 0 := by
  clear hI w
  intro d
  induction d with
  | zero => intro c u w  hI h1 h2; exact absurd h2 (by omega)
  | succ d ih =>
    intro c u w  hI h1 h2
    obtain ⟨e_m, wf_m, k_m⟩ := hI.1.2 52 (by decide)
    obtain ⟨v_m_th, v_m_cl, v_m_wa, v_m_co_, v_m_fi, v_m_bu, v_m_ho, v_m_lh, v_m_mg, v_m_wd, v_m_po, v_m_de, rfl⟩ := kd_52.mp k_m
    refine y_base (hI.1.I [52] [((ad 52), .inr (12, [.int v_m_th, .ref (ad 53), .int (nI t.2.2.2.1), .ref (ad 54), .ref (ad 55), .ref (ad 56), .ref (ad 57), .ref (ad 58), .ref (ad 59), .ref (ad 60), .ref (ad 61), .int v_m_cl, .int v_m_wa, .int v_m_co_, .int v_m_fi, .int v_m_bu, .int v_m_ho, .ref (ad 62), .ref (ad 63), .ref (ad 64), .int v_m_lh, .int v_m_mg, .int v_m_wd, .int (t.2.2.2.2 3), .int (t.2.2.2.2 4), .ref (ad 65), .ref (ad 66), .ref (ad 67), .ref (ad 68), .long v_m_po, .long v_m_de]))] rfl (by decide) (by decide) (List.forall_mem_cons.mpr ⟨wf_m, (fun _ h => nomatch h)⟩)) ?_
    refine y_iload_n d_Mm_takeCores_83 rfl 0 rfl ?_
    refine y_if_lt (tgt := 118) d_Mm_takeCores_84 (by decide) (fun c_84 => ?_) (fun c_84 => ?_)
    · refine y_vret d_Mm_takeCores_118 rfl ?_
      exact fun w1 h1 => ⟨rfl, ⟨_, (hI.gen (t2 := t) (is := [52]) (L2 := []) h1 rfl ⟨kd_52.mpr ⟨_, _, _, _, _, _, _, _, _, _, _, _, rfl⟩, trivial⟩ (by decide) (by decide) (fun _ h => nomatch h) (fun _ h => nomatch h) (fun _ _ _ _ h => h) (fun h => h))⟩⟩
    · obtain ⟨e9, he9⟩ := dk_f c_84
      subst he9
      obtain ⟨m9, hm9⟩ : ∃ m9, u.1 2 = m9 + 1 := ⟨u.1 2 - 1, by omega⟩
      rw [dk_s]
      refine y_aload_n d_Mm_takeCores_87 rfl 1 rfl ?_
      refine y_get fs_Mm_58 d_Mm_takeCores_88 (q0 := 0) rfl rfl ?_
      refine y_iload_n d_Mm_takeCores_91 rfl 0 rfl ?_
      refine yw_callVL (As := [.int (nI e9)]) (rest := []) (ci := 13) rfl (fun wA hA => ((hI.gen (t2 := t) (is := [52]) (L2 := []) hA rfl ⟨kd_52.mpr ⟨_, _, _, _, _, _, _, _, _, _, _, _, rfl⟩, trivial⟩ (by decide) (by decide) (fun _ h => nomatch h) (fun _ h => nomatch h) (fun _ _ _ _ h => h) (fun h => h)).2.1.1 2 (by decide)).ob) ln_Mm_211 w_im_AL_get w_se_AL_get ok_Mm_takeCores_AL_get d_Mm_takeCores_92 (fun wA hA => Q_get ((hI.gen (t2 := t) (is := [52]) (L2 := []) hA rfl ⟨kd_52.mpr ⟨_, _, _, _, _, _, _, _, _, _, _, _, rfl⟩, trivial⟩ (by decide) (by decide) (fun _ h => nomatch h) (fun _ h => nomatch h) (fun _ _ _ _ h => h) (fun h => h)).2.1.1 2 (by decide)) (by omega)) rfl rfl (Nat.le_of_ble_eq_true rfl) (by omega) (by omega) (fun wA92 hA92 E wB92 hx => ?_) (fun wA92 hA92 v wB92 hx => ?_)
      · exact absurd hx.1 (by simp)
      · obtain ⟨e1, e2⟩ := hx
        cases e1
        refine yw_st (st2 := [.ref (u.2.2 2 e9)]) rfl ?_
        subst e2
        refine y_go hA92 ?_
        refine y_end (fun wC1 hC1 => ?_)
        have hI9 := (hI.gen (t2 := t) (is := [52]) (L2 := []) hC1 rfl ⟨kd_52.mpr ⟨_, _, _, _, _, _, _, _, _, _, _, _, rfl⟩, trivial⟩ (by decide) (by decide) (fun _ h => nomatch h) (fun _ h => nomatch h) (fun _ _ _ _ h => h) (fun h => h))
        have hI := hI9
        obtain ⟨nf_c, f_c, hw_c⟩ := hI.2.1.2.1 2 (by decide) e9 (by omega)
        refine y_base (cs := [((ad 52), .inr (12, [.int v_m_th, .ref (ad 53), .int (nI t.2.2.2.1), .ref (ad 54), .ref (ad 55), .ref (ad 56), .ref (ad 57), .ref (ad 58), .ref (ad 59), .ref (ad 60), .ref (ad 61), .int v_m_cl, .int v_m_wa, .int v_m_co_, .int v_m_fi, .int v_m_bu, .int v_m_ho, .ref (ad 62), .ref (ad 63), .ref (ad 64), .int v_m_lh, .int v_m_mg, .int v_m_wd, .int (t.2.2.2.2 3), .int (t.2.2.2.2 4), .ref (ad 65), .ref (ad 66), .ref (ad 67), .ref (ad 68), .long v_m_po, .long v_m_de])), ((u.2.2 2 e9), .inl (0, 2, .inl f_c))]) (z_I.kd (List.forall_mem_cons.mpr ⟨hC1.at (q0 := 0) rfl, (List.forall_mem_cons.mpr ⟨hw_c, (fun _ h => nomatch h)⟩)⟩) (by simp [z_kd])) ?_
        refine y_castA (t := 0) (by decide) lk_Mm_215 d_Mm_takeCores_95 (q0 := 1) rfl ?_
        refine y_iconst d_Mm_takeCores_98 (v := 0) (by decide) ?_
        refine y_iald d_Mm_takeCores_99 (q0 := 1) rfl (fun q => q.elim (by decide) (by decide)) (v := f_c 0) rfl ?_
        refine y_if_ne (tgt := 112) d_Mm_takeCores_100 (by decide) (fun c_100 => ?_) (fun c_100 => ?_)
        · refine y_iinc (lv' := [(3, .int (dkI e9)), (0, .ref (ad 52)), (1, .int x)]) (v := dkI e9) d_Mm_takeCores_112 (j := 0) rfl (dk_d e9) (by decide) rfl ?_
          refine y_goto (tgt := 83) d_Mm_takeCores_115 (by decide) ?_
          refine y_end (fun wC2 hC2 => ?_)
          have hI9 := (hI.gen (t2 := t) (is := [52]) (L2 := [(u.2.2 2 e9)]) hC2 rfl ⟨kd_52.mpr ⟨_, _, _, _, _, _, _, _, _, _, _, _, rfl⟩, trivial⟩ (by decide) (by decide) (List.forall_mem_cons.mpr ⟨nf_c, (fun _ h => nomatch h)⟩) (List.forall_mem_cons.mpr ⟨⟨_, _, hw_c, hC2.at (q0 := 1) rfl, Or.inl rfl⟩, (fun _ h => nomatch h)⟩) (fun _ _ _ _ h => h) (fun h => h))
          exact ih e9 _ _  hI9 (by first | omega | (show e9 ≤ m9; omega)) (by omega)
        · refine y_aload_n d_Mm_takeCores_103 rfl 1 rfl ?_
          refine y_get fs_Mm_58 d_Mm_takeCores_104 (q0 := 0) rfl rfl ?_
          refine y_iload_n d_Mm_takeCores_107 rfl 0 rfl ?_
          refine yw_callVL (As := [.int (nI e9)]) (rest := []) (ci := 13) rfl (fun wA hA => ((hI.gen (t2 := t) (is := [52]) (L2 := [(u.2.2 2 e9)]) hA rfl ⟨kd_52.mpr ⟨_, _, _, _, _, _, _, _, _, _, _, _, rfl⟩, trivial⟩ (by decide) (by decide) (List.forall_mem_cons.mpr ⟨nf_c, (fun _ h => nomatch h)⟩) (List.forall_mem_cons.mpr ⟨⟨_, _, hw_c, hA.at (q0 := 1) rfl, Or.inl rfl⟩, (fun _ h => nomatch h)⟩) (fun _ _ _ _ h => h) (fun h => h)).2.1.1 2 (by decide)).ob) ln_Mm_229 w_im_AL_remove w_se_AL_remove ok_Mm_takeCores_AL_remove d_Mm_takeCores_108 (fun wA hA => Q_rem ((hI.gen (t2 := t) (is := [52]) (L2 := [(u.2.2 2 e9)]) hA rfl ⟨kd_52.mpr ⟨_, _, _, _, _, _, _, _, _, _, _, _, rfl⟩, trivial⟩ (by decide) (by decide) (List.forall_mem_cons.mpr ⟨nf_c, (fun _ h => nomatch h)⟩) (List.forall_mem_cons.mpr ⟨⟨_, _, hw_c, hA.at (q0 := 1) rfl, Or.inl rfl⟩, (fun _ h => nomatch h)⟩) (fun _ _ _ _ h => h) (fun h => h)).2.1.1 2 (by decide)) hm9 (fun k hk => ((hI.gen (t2 := t) (is := [52]) (L2 := [(u.2.2 2 e9)]) hA rfl ⟨kd_52.mpr ⟨_, _, _, _, _, _, _, _, _, _, _, _, rfl⟩, trivial⟩ (by decide) (by decide) (List.forall_mem_cons.mpr ⟨nf_c, (fun _ h => nomatch h)⟩) (List.forall_mem_cons.mpr ⟨⟨_, _, hw_c, hA.at (q0 := 1) rfl, Or.inl rfl⟩, (fun _ h => nomatch h)⟩) (fun _ _ _ _ h => h) (fun h => h)).2.1.2.1 2 (by decide) k (by omega)).elt2) (by omega)) rfl rfl (Nat.le_of_ble_eq_true rfl) (by omega) (by omega) (fun wA108 hA108 E wB108 hx => ?_) (fun wA108 hA108 v wB108 hx => ?_)
          · exact absurd hx.1 (by simp)
          · obtain ⟨e1, e2, e3⟩ := hx
            cases e1
            refine yw_st (st2 := [.ref (u.2.2 2 e9)]) rfl ?_
            have hI8 := (hI.gen (t2 := t) (is := [52]) (L2 := [(u.2.2 2 e9)]) hA108 rfl ⟨kd_52.mpr ⟨_, _, _, _, _, _, _, _, _, _, _, _, rfl⟩, trivial⟩ (by decide) (by decide) (List.forall_mem_cons.mpr ⟨nf_c, (fun _ h => nomatch h)⟩) (List.forall_mem_cons.mpr ⟨⟨_, _, hw_c, hA108.at (q0 := 1) rfl, Or.inl rfl⟩, (fun _ h => nomatch h)⟩) (fun _ _ _ _ h => h) (fun h => h))
            have hI := (hI8.iw.rem (L := 2) (by decide) hm9 (by omega) e2 e3).iv (hI8.sz.s2 (by have := hI8.sz; unfold SZ at this; omega))
            obtain ⟨e_m, wf_m, k_m⟩ := hI.1.2 52 (by decide)
            obtain ⟨v_m_th, v_m_cl, v_m_wa, v_m_co_, v_m_fi, v_m_bu, v_m_ho, v_m_lh, v_m_mg, v_m_wd, v_m_po, v_m_de, rfl⟩ := kd_52.mp k_m
            refine y_base (cs := [((ad 52), .inr (12, [.int v_m_th, .ref (ad 53), .int (nI t.2.2.2.1), .ref (ad 54), .ref (ad 55), .ref (ad 56), .ref (ad 57), .ref (ad 58), .ref (ad 59), .ref (ad 60), .ref (ad 61), .int v_m_cl, .int v_m_wa, .int v_m_co_, .int v_m_fi, .int v_m_bu, .int v_m_ho, .ref (ad 62), .ref (ad 63), .ref (ad 64), .int v_m_lh, .int v_m_mg, .int v_m_wd, .int (t.2.2.2.2 3), .int (t.2.2.2.2 4), .ref (ad 65), .ref (ad 66), .ref (ad 67), .ref (ad 68), .long v_m_po, .long v_m_de]))]) (hI.1.I [52] _ rfl (by decide) (by decide) (List.forall_mem_cons.mpr ⟨wf_m, (fun _ h => nomatch h)⟩)) ?_
            refine y_pop d_Mm_takeCores_111 rfl ?_
            refine y_iinc (lv' := [(3, .int (dkI e9)), (0, .ref (ad 52)), (1, .int x)]) (v := dkI e9) d_Mm_takeCores_112 (j := 0) rfl (dk_d e9) (by decide) rfl ?_
            refine y_goto (tgt := 83) d_Mm_takeCores_115 (by decide) ?_
            refine y_end (fun wC3 hC3 => ?_)
            have hI9 := (hI.gen (t2 := t) (is := [52]) (L2 := []) hC3 rfl ⟨kd_52.mpr ⟨_, _, _, _, _, _, _, _, _, _, _, _, rfl⟩, trivial⟩ (by decide) (by decide) (fun _ h => nomatch h) (fun _ h => nomatch h) (fun _ _ _ _ h => h) (fun h => h))
            exact ih e9 _ _  hI9 (by first | omega | (show e9 ≤ m9; omega)) (by omega)
set_option maxHeartbeats 4000000 in
set_option maxRecDepth 100000 in
theorem L_Q_takeCores_4 (g : zG) {ad : Nat → Nat} {t : zTT} {u : zNN} {w : zW} (hI : IV g ad t u w) (x : Int32) : ∀ (d i : Nat) (w : zW) (s9 : Int32), IV g ad t u w → i ≤ u.1 2 → u.1 2 < i + d → DW g M_Mm_takeCores (fun o w1 => o = .inl none ∧ ∃ u2, IV g ad t u2 w1) w 4 [(3, .int (nI i)), (2, .int s9), (0, .ref (ad 52)), (1, .int x)] [] 0 0 := by
  clear hI w
  intro d
  induction d with
  | zero => intro i w s9 hI h1 h2; exact absurd h2 (by omega)
  | succ d ih =>
    intro i w s9 hI h1 h2
    obtain ⟨e_m, wf_m, k_m⟩ := hI.1.2 52 (by decide)
    obtain ⟨v_m_th, v_m_cl, v_m_wa, v_m_co_, v_m_fi, v_m_bu, v_m_ho, v_m_lh, v_m_mg, v_m_wd, v_m_po, v_m_de, rfl⟩ := kd_52.mp k_m
    have h33 := hI.n5 2 (by decide)
    refine y_base (hI.1.I [52] [((ad 52), .inr (12, [.int v_m_th, .ref (ad 53), .int (nI t.2.2.2.1), .ref (ad 54), .ref (ad 55), .ref (ad 56), .ref (ad 57), .ref (ad 58), .ref (ad 59), .ref (ad 60), .ref (ad 61), .int v_m_cl, .int v_m_wa, .int v_m_co_, .int v_m_fi, .int v_m_bu, .int v_m_ho, .ref (ad 62), .ref (ad 63), .ref (ad 64), .int v_m_lh, .int v_m_mg, .int v_m_wd, .int (t.2.2.2.2 3), .int (t.2.2.2.2 4), .ref (ad 65), .ref (ad 66), .ref (ad 67), .ref (ad 68), .long v_m_po, .long v_m_de]))] rfl (by decide) (by decide) (List.forall_mem_cons.mpr ⟨wf_m, (fun _ h => nomatch h)⟩)) ?_
    refine y_iload_n d_Mm_takeCores_4 rfl 0 rfl ?_
    refine y_aload_n d_Mm_takeCores_5 rfl 2 rfl ?_
    refine y_get fs_Mm_58 d_Mm_takeCores_6 (q0 := 0) rfl rfl ?_
    refine yw_callVL (As := []) (rest := [.int (nI i)]) (ci := 13) rfl (fun wA hA => ((hI.gen (t2 := t) (is := [52]) (L2 := []) hA rfl ⟨kd_52.mpr ⟨_, _, _, _, _, _, _, _, _, _, _, _, rfl⟩, trivial⟩ (by decide) (by decide) (fun _ h => nomatch h) (fun _ h => nomatch h) (fun _ _ _ _ h => h) (fun h => h)).2.1.1 2 (by decide)).ob) ln_Mm_208 w_im_AL_size w_se_AL_size ok_Mm_takeCores_AL_size d_Mm_takeCores_9 (fun wA hA => Q_size ((hI.gen (t2 := t) (is := [52]) (L2 := []) hA rfl ⟨kd_52.mpr ⟨_, _, _, _, _, _, _, _, _, _, _, _, rfl⟩, trivial⟩ (by decide) (by decide) (fun _ h => nomatch h) (fun _ h => nomatch h) (fun _ _ _ _ h => h) (fun h => h)).2.1.1 2 (by decide))) rfl rfl (Nat.le_of_ble_eq_true rfl) (by omega) (by omega) (fun wA9 hA9 E wB9 hx => ?_) (fun wA9 hA9 v wB9 hx => ?_)
    · exact absurd hx.1 (by simp)
    · obtain ⟨e1, e2⟩ := hx
      cases e1
      refine yw_st (st2 := [.int (nI (u.1 2)), .int (nI i)]) rfl ?_
      subst e2
      refine y_go hA9 ?_
      refine y_icmp_ge (tgt := 73) d_Mm_takeCores_12 (by decide) (fun c_12 => ?_) (fun c_12 => ?_)
      · have hn := z_le (a := (u.1 2)) (b := i) (by omega) (by omega) c_12
        refine y_aload_n d_Mm_takeCores_73 rfl 2 rfl ?_
        refine y_get fs_Mm_58 d_Mm_takeCores_74 (q0 := 0) rfl rfl ?_
        refine yw_callVL (As := []) (rest := []) (ci := 13) rfl (fun wA hA => ((hI.gen (t2 := t) (is := [52]) (L2 := []) hA rfl ⟨kd_52.mpr ⟨_, _, _, _, _, _, _, _, _, _, _, _, rfl⟩, trivial⟩ (by decide) (by decide) (fun _ h => nomatch h) (fun _ h => nomatch h) (fun _ _ _ _ h => h) (fun h => h)).2.1.1 2 (by decide)).ob) ln_Mm_208 w_im_AL_size w_se_AL_size ok_Mm_takeCores_AL_size d_Mm_takeCores_77 (fun wA hA => Q_size ((hI.gen (t2 := t) (is := [52]) (L2 := []) hA rfl ⟨kd_52.mpr ⟨_, _, _, _, _, _, _, _, _, _, _, _, rfl⟩, trivial⟩ (by decide) (by decide) (fun _ h => nomatch h) (fun _ h => nomatch h) (fun _ _ _ _ h => h) (fun h => h)).2.1.1 2 (by decide))) rfl rfl (Nat.le_of_ble_eq_true rfl) (by omega) (by omega) (fun wA77 hA77 E wB77 hx => ?_) (fun wA77 hA77 v wB77 hx => ?_)
        · exact absurd hx.1 (by simp)
        · obtain ⟨e1, e2⟩ := hx
          cases e1
          refine yw_st (st2 := [.int (nI (u.1 2))]) rfl ?_
          subst e2
          refine y_go hA77 ?_
          refine y_iconst d_Mm_takeCores_80 (v := 1) (by decide) ?_
          refine y_isub d_Mm_takeCores_81 (v := dkI (u.1 2)) rfl ?_
          refine y_istore_n (lv' := [(3, .int (dkI (u.1 2))), (2, .int s9), (0, .ref (ad 52)), (1, .int x)]) d_Mm_takeCores_82 rfl (by decide) rfl ?_
          refine y_lv (lv' := [(3, .int (dkI (u.1 2))), (0, .ref (ad 52)), (1, .int x)]) [0, 2, 3] rfl ?_
          refine y_end (fun wC4 hC4 => ?_)
          have hI9 := (hI.gen (t2 := t) (is := [52]) (L2 := []) hC4 rfl ⟨kd_52.mpr ⟨_, _, _, _, _, _, _, _, _, _, _, _, rfl⟩, trivial⟩ (by decide) (by decide) (fun _ h => nomatch h) (fun _ h => nomatch h) (fun _ _ _ _ h => h) (fun h => h))
          exact L_Q_takeCores_83 g hI9 x (u.1 2 + 1) (u.1 2) _ _  hI9 (Nat.le_refl _) (by omega)
      · have hn := z_nle (a := (u.1 2)) (b := i) (by omega) (by omega) c_12
        refine y_aload_n d_Mm_takeCores_15 rfl 2 rfl ?_
        refine y_get fs_Mm_58 d_Mm_takeCores_16 (q0 := 0) rfl rfl ?_
        refine y_iload_n d_Mm_takeCores_19 rfl 0 rfl ?_
        refine yw_callVL (As := [.int (nI i)]) (rest := []) (ci := 13) rfl (fun wA hA => ((hI.gen (t2 := t) (is := [52]) (L2 := []) hA rfl ⟨kd_52.mpr ⟨_, _, _, _, _, _, _, _, _, _, _, _, rfl⟩, trivial⟩ (by decide) (by decide) (fun _ h => nomatch h) (fun _ h => nomatch h) (fun _ _ _ _ h => h) (fun h => h)).2.1.1 2 (by decide)).ob) ln_Mm_211 w_im_AL_get w_se_AL_get ok_Mm_takeCores_AL_get d_Mm_takeCores_20 (fun wA hA => Q_get ((hI.gen (t2 := t) (is := [52]) (L2 := []) hA rfl ⟨kd_52.mpr ⟨_, _, _, _, _, _, _, _, _, _, _, _, rfl⟩, trivial⟩ (by decide) (by decide) (fun _ h => nomatch h) (fun _ h => nomatch h) (fun _ _ _ _ h => h) (fun h => h)).2.1.1 2 (by decide)) hn) rfl rfl (Nat.le_of_ble_eq_true rfl) (by omega) (by omega) (fun wA20 hA20 E wB20 hx => ?_) (fun wA20 hA20 v wB20 hx => ?_)
        · exact absurd hx.1 (by simp)
        · obtain ⟨e1, e2⟩ := hx
          cases e1
          refine yw_st (st2 := [.ref (u.2.2 2 i)]) rfl ?_
          subst e2
          refine y_go hA20 ?_
          refine y_end (fun wC5 hC5 => ?_)
          have hI9 := (hI.gen (t2 := t) (is := [52]) (L2 := []) hC5 rfl ⟨kd_52.mpr ⟨_, _, _, _, _, _, _, _, _, _, _, _, rfl⟩, trivial⟩ (by decide) (by decide) (fun _ h => nomatch h) (fun _ h => nomatch h) (fun _ _ _ _ h => h) (fun h => h))
          have hI := hI9
          obtain ⟨nf_c, f_c, hw_c⟩ := hI.2.1.2.1 2 (by decide) i hn
          refine y_base (cs := [((ad 52), .inr (12, [.int v_m_th, .ref (ad 53), .int (nI t.2.2.2.1), .ref (ad 54), .ref (ad 55), .ref (ad 56), .ref (ad 57), .ref (ad 58), .ref (ad 59), .ref (ad 60), .ref (ad 61), .int v_m_cl, .int v_m_wa, .int v_m_co_, .int v_m_fi, .int v_m_bu, .int v_m_ho, .ref (ad 62), .ref (ad 63), .ref (ad 64), .int v_m_lh, .int v_m_mg, .int v_m_wd, .int (t.2.2.2.2 3), .int (t.2.2.2.2 4), .ref (ad 65), .ref (ad 66), .ref (ad 67), .ref (ad 68), .long v_m_po, .long v_m_de])), ((u.2.2 2 i), .inl (0, 2, .inl f_c))]) (z_I.kd (List.forall_mem_cons.mpr ⟨hC5.at (q0 := 0) rfl, (List.forall_mem_cons.mpr ⟨hw_c, (fun _ h => nomatch h)⟩)⟩) (by simp [z_kd])) ?_
          refine y_castA (t := 0) (by decide) lk_Mm_215 d_Mm_takeCores_23 (q0 := 1) rfl ?_
          refine y_astore (lv' := [(4, .ref (u.2.2 2 i)), (3, .int (nI i)), (2, .int s9), (0, .ref (ad 52)), (1, .int x)]) d_Mm_takeCores_26 (by decide) rfl ?_
          refine y_aload d_Mm_takeCores_28 0 rfl ?_
          refine y_iconst d_Mm_takeCores_30 (v := 1) (by decide) ?_
          refine y_iald d_Mm_takeCores_31 (q0 := 1) rfl (fun q => q.elim (by decide) (by decide)) (v := f_c 1) rfl ?_
          refine y_aload_n d_Mm_takeCores_32 rfl 3 rfl ?_
          refine y_get fs_Mm_216 d_Mm_takeCores_33 (q0 := 0) rfl rfl ?_
          refine y_icmp_gt (tgt := 50) d_Mm_takeCores_36 (by decide) (fun c_36 => ?_) (fun c_36 => ?_)
          · refine y_iconst d_Mm_takeCores_50 (v := 0) (by decide) ?_
            refine y_istore (lv' := [(5, .int 0), (4, .ref (u.2.2 2 i)), (3, .int (nI i)), (2, .int s9), (0, .ref (ad 52)), (1, .int x)]) d_Mm_takeCores_51 (by decide) rfl ?_
            refine y_aload d_Mm_takeCores_53 1 rfl ?_
            refine y_iconst d_Mm_takeCores_55 (v := 0) (by decide) ?_
            refine y_dup2_11 d_Mm_takeCores_56 rfl rfl ?_
            refine y_iald d_Mm_takeCores_57 (q0 := 1) rfl (fun q => q.elim (by decide) (by decide)) (v := f_c 0) rfl ?_
            refine y_iload d_Mm_takeCores_58 0 rfl ?_
            refine y_isub d_Mm_takeCores_60 (v := (f_c 0) - 0) rfl ?_
            refine y_iast d_Mm_takeCores_61 (q0 := 1) rfl (fun q => q.elim (by decide) (by decide)) (f' := upd f_c 0 ((f_c 0) - 0)) rfl (cs' := [((ad 52), .inr (12, [.int v_m_th, .ref (ad 53), .int (nI t.2.2.2.1), .ref (ad 54), .ref (ad 55), .ref (ad 56), .ref (ad 57), .ref (ad 58), .ref (ad 59), .ref (ad 60), .ref (ad 61), .int v_m_cl, .int v_m_wa, .int v_m_co_, .int v_m_fi, .int v_m_bu, .int v_m_ho, .ref (ad 62), .ref (ad 63), .ref (ad 64), .int v_m_lh, .int v_m_mg, .int v_m_wd, .int (t.2.2.2.2 3), .int (t.2.2.2.2 4), .ref (ad 65), .ref (ad 66), .ref (ad 67), .ref (ad 68), .long v_m_po, .long v_m_de])), ((u.2.2 2 i), .inl (0, 2, .inl (upd f_c 0 ((f_c 0) - 0))))]) rfl ?_
            refine y_iload_n d_Mm_takeCores_62 rfl 3 rfl ?_
            refine y_iload d_Mm_takeCores_63 0 rfl ?_
            refine y_isub d_Mm_takeCores_65 (v := s9 - 0) rfl ?_
            refine y_istore_n (lv' := [(2, .int (s9 - 0)), (5, .int 0), (4, .ref (u.2.2 2 i)), (3, .int (nI i)), (0, .ref (ad 52)), (1, .int x)]) d_Mm_takeCores_66 rfl (by decide) rfl ?_
            refine y_iinc (lv' := [(3, .int (nI (i + 1))), (2, .int (s9 - 0)), (5, .int 0), (4, .ref (u.2.2 2 i)), (0, .ref (ad 52)), (1, .int x)]) (v := nI (i + 1)) d_Mm_takeCores_67 (j := 3) rfl (nI_add _ _) (by decide) rfl ?_
            refine y_goto (tgt := 4) d_Mm_takeCores_70 (by decide) ?_
            refine y_lv (lv' := [(3, .int (nI (i + 1))), (2, .int (s9 - 0)), (0, .ref (ad 52)), (1, .int x)]) [0, 1, 4, 5] rfl ?_
            refine y_end (fun wC6 hC6 => ?_)
            have hI9 := (hI.gen (t2 := t) (is := [52]) (L2 := [(u.2.2 2 i)]) hC6 rfl ⟨kd_52.mpr ⟨_, _, _, _, _, _, _, _, _, _, _, _, rfl⟩, trivial⟩ (by decide) (by decide) (List.forall_mem_cons.mpr ⟨nf_c, (fun _ h => nomatch h)⟩) (List.forall_mem_cons.mpr ⟨⟨_, _, hw_c, hC6.at (q0 := 1) rfl, Or.inr (Or.inl ⟨_, _, rfl, rfl⟩)⟩, (fun _ h => nomatch h)⟩) (fun _ _ _ _ h => h) (fun h => h))
            exact ih (i + 1) _ _ hI9 (by omega) (by omega)
          · refine y_iload_n d_Mm_takeCores_39 rfl 2 rfl ?_
            refine y_aload d_Mm_takeCores_40 0 rfl ?_
            refine y_iconst d_Mm_takeCores_42 (v := 0) (by decide) ?_
            refine y_iald d_Mm_takeCores_43 (q0 := 1) rfl (fun q => q.elim (by decide) (by decide)) (v := f_c 0) rfl ?_
            refine y_min (v := (if f_c 0 < s9 then f_c 0 else s9)) ln_Mm_182 w_mmin w_mi w_cmin d_Mm_takeCores_44 (by decide) (by decide) (Nat.le_of_ble_eq_true rfl) rfl ?_
            refine y_goto (tgt := 51) d_Mm_takeCores_47 (by decide) ?_
            refine y_istore (lv' := [(5, .int (if f_c 0 < s9 then f_c 0 else s9)), (4, .ref (u.2.2 2 i)), (3, .int (nI i)), (2, .int s9), (0, .ref (ad 52)), (1, .int x)]) d_Mm_takeCores_51 (by decide) rfl ?_
            refine y_aload d_Mm_takeCores_53 1 rfl ?_
            refine y_iconst d_Mm_takeCores_55 (v := 0) (by decide) ?_
            refine y_dup2_11 d_Mm_takeCores_56 rfl rfl ?_
            refine y_iald d_Mm_takeCores_57 (q0 := 1) rfl (fun q => q.elim (by decide) (by decide)) (v := f_c 0) rfl ?_
            refine y_iload d_Mm_takeCores_58 0 rfl ?_
            refine y_isub d_Mm_takeCores_60 (v := (f_c 0) - (if f_c 0 < s9 then f_c 0 else s9)) rfl ?_
            refine y_iast d_Mm_takeCores_61 (q0 := 1) rfl (fun q => q.elim (by decide) (by decide)) (f' := upd f_c 0 ((f_c 0) - (if f_c 0 < s9 then f_c 0 else s9))) rfl (cs' := [((ad 52), .inr (12, [.int v_m_th, .ref (ad 53), .int (nI t.2.2.2.1), .ref (ad 54), .ref (ad 55), .ref (ad 56), .ref (ad 57), .ref (ad 58), .ref (ad 59), .ref (ad 60), .ref (ad 61), .int v_m_cl, .int v_m_wa, .int v_m_co_, .int v_m_fi, .int v_m_bu, .int v_m_ho, .ref (ad 62), .ref (ad 63), .ref (ad 64), .int v_m_lh, .int v_m_mg, .int v_m_wd, .int (t.2.2.2.2 3), .int (t.2.2.2.2 4), .ref (ad 65), .ref (ad 66), .ref (ad 67), .ref (ad 68), .long v_m_po, .long v_m_de])), ((u.2.2 2 i), .inl (0, 2, .inl (upd f_c 0 ((f_c 0) - (if f_c 0 < s9 then f_c 0 else s9)))))]) rfl ?_
            refine y_iload_n d_Mm_takeCores_62 rfl 3 rfl ?_
            refine y_iload d_Mm_takeCores_63 0 rfl ?_
            refine y_isub d_Mm_takeCores_65 (v := s9 - (if f_c 0 < s9 then f_c 0 else s9)) rfl ?_
            refine y_istore_n (lv' := [(2, .int (s9 - (if f_c 0 < s9 then f_c 0 else s9))), (5, .int (if f_c 0 < s9 then f_c 0 else s9)), (4, .ref (u.2.2 2 i)), (3, .int (nI i)), (0, .ref (ad 52)), (1, .int x)]) d_Mm_takeCores_66 rfl (by decide) rfl ?_
            refine y_iinc (lv' := [(3, .int (nI (i + 1))), (2, .int (s9 - (if f_c 0 < s9 then f_c 0 else s9))), (5, .int (if f_c 0 < s9 then f_c 0 else s9)), (4, .ref (u.2.2 2 i)), (0, .ref (ad 52)), (1, .int x)]) (v := nI (i + 1)) d_Mm_takeCores_67 (j := 3) rfl (nI_add _ _) (by decide) rfl ?_
            refine y_goto (tgt := 4) d_Mm_takeCores_70 (by decide) ?_
            refine y_lv (lv' := [(3, .int (nI (i + 1))), (2, .int (s9 - (if f_c 0 < s9 then f_c 0 else s9))), (0, .ref (ad 52)), (1, .int x)]) [0, 1, 4, 5] rfl ?_
            refine y_end (fun wC7 hC7 => ?_)
            have hI9 := (hI.gen (t2 := t) (is := [52]) (L2 := [(u.2.2 2 i)]) hC7 rfl ⟨kd_52.mpr ⟨_, _, _, _, _, _, _, _, _, _, _, _, rfl⟩, trivial⟩ (by decide) (by decide) (List.forall_mem_cons.mpr ⟨nf_c, (fun _ h => nomatch h)⟩) (List.forall_mem_cons.mpr ⟨⟨_, _, hw_c, hC7.at (q0 := 1) rfl, Or.inr (Or.inl ⟨_, _, rfl, rfl⟩)⟩, (fun _ h => nomatch h)⟩) (fun _ _ _ _ h => h) (fun h => h))
            exact ih (i + 1) _ _ hI9 (by omega) (by omega)
set_option maxHeartbeats 4000000 in
set_option maxRecDepth 100000 in
theorem Q_takeCores {g : zG} {ad : Nat → Nat} {t : zTT} {u : zNN} {w : zW} (hI : IV g ad t u w) (x : Int32) : zMB g M_Mm_takeCores [.ref (ad 52), .int x] w (fun o w1 => o = .inl none ∧ ∃ u2, IV g ad t u2 w1) 0 0 := by
  obtain ⟨e_m, wf_m, k_m⟩ := hI.1.2 52 (by decide)
  obtain ⟨v_m_th, v_m_cl, v_m_wa, v_m_co_, v_m_fi, v_m_bu, v_m_ho, v_m_lh, v_m_mg, v_m_wd, v_m_po, v_m_de, rfl⟩ := kd_52.mp k_m
  refine y_of (by decide) rfl (Nat.le_of_ble_eq_true rfl) (y_base (cs := [((ad 52), .inr (12, [.int v_m_th, .ref (ad 53), .int (nI t.2.2.2.1), .ref (ad 54), .ref (ad 55), .ref (ad 56), .ref (ad 57), .ref (ad 58), .ref (ad 59), .ref (ad 60), .ref (ad 61), .int v_m_cl, .int v_m_wa, .int v_m_co_, .int v_m_fi, .int v_m_bu, .int v_m_ho, .ref (ad 62), .ref (ad 63), .ref (ad 64), .int v_m_lh, .int v_m_mg, .int v_m_wd, .int (t.2.2.2.2 3), .int (t.2.2.2.2 4), .ref (ad 65), .ref (ad 66), .ref (ad 67), .ref (ad 68), .long v_m_po, .long v_m_de]))]) (hI.1.I [52] _ rfl (by decide) (by decide) (List.forall_mem_cons.mpr ⟨wf_m, (fun _ h => nomatch h)⟩)) ?_)
  refine y_lvE (lv2 := [(0, .ref (ad 52)), (1, .int x)]) rfl ?_
  refine y_iload_n d_Mm_takeCores_0 rfl 1 rfl ?_
  refine y_istore_n (lv' := [(2, .int x), (0, .ref (ad 52)), (1, .int x)]) d_Mm_takeCores_1 rfl (by decide) rfl ?_
  refine y_iconst d_Mm_takeCores_2 (v := 0) (by decide) ?_
  refine y_istore_n (lv' := [(3, .int 0), (2, .int x), (0, .ref (ad 52)), (1, .int x)]) d_Mm_takeCores_3 rfl (by decide) rfl ?_
  refine y_end (fun wC8 hC8 => ?_)
  have hI9 := (hI.gen (t2 := t) (is := [52]) (L2 := []) hC8 rfl ⟨kd_52.mpr ⟨_, _, _, _, _, _, _, _, _, _, _, _, rfl⟩, trivial⟩ (by decide) (by decide) (fun _ h => nomatch h) (fun _ h => nomatch h) (fun _ _ _ _ h => h) (fun h => h))
  exact L_Q_takeCores_4 g hI9 x (u.1 2 + 1) 0 _ x hI9 (Nat.zero_le _) (by omega)
set_option maxHeartbeats 4000000 in
set_option maxRecDepth 100000 in
theorem Q_Mm_makeCoresE {g : zG} {ad : Nat → Nat} {t : zTT} {u : zNN} {w : zW} (hI : IV g ad t u w) (c k : Int32) (hw : ¬ ((1 ≤ c ∧ c ≤ 10) ∧ (1 ≤ k ∧ k ≤ 24))) : zMB g M_Mm_makeCores [.ref (ad 52), .int c, .int k] w (fun o w1 => (∃ v : Int32, o = .inl (some (.int v))) ∧ ∃ u2, IV g ad t u2 w1) 0 0 := by
  obtain ⟨e_m, wf_m, k_m⟩ := hI.1.2 52 (by decide)
  obtain ⟨v_m_th, v_m_cl, v_m_wa, v_m_co_, v_m_fi, v_m_bu, v_m_ho, v_m_lh, v_m_mg, v_m_wd, v_m_po, v_m_de, rfl⟩ := kd_52.mp k_m
  refine y_of (by decide) rfl (Nat.le_of_ble_eq_true rfl) (y_base (cs := [((ad 52), .inr (12, [.int v_m_th, .ref (ad 53), .int (nI t.2.2.2.1), .ref (ad 54), .ref (ad 55), .ref (ad 56), .ref (ad 57), .ref (ad 58), .ref (ad 59), .ref (ad 60), .ref (ad 61), .int v_m_cl, .int v_m_wa, .int v_m_co_, .int v_m_fi, .int v_m_bu, .int v_m_ho, .ref (ad 62), .ref (ad 63), .ref (ad 64), .int v_m_lh, .int v_m_mg, .int v_m_wd, .int (t.2.2.2.2 3), .int (t.2.2.2.2 4), .ref (ad 65), .ref (ad 66), .ref (ad 67), .ref (ad 68), .long v_m_po, .long v_m_de]))]) (hI.1.I [52] _ rfl (by decide) (by decide) (List.forall_mem_cons.mpr ⟨wf_m, (fun _ h => nomatch h)⟩)) ?_)
  refine y_lvE (lv2 := [(0, .ref (ad 52)), (1, .int c), (2, .int k)]) rfl ?_
  refine y_aload_n d_Mm_makeCores_0 rfl 0 rfl ?_
  refine y_iconst d_Mm_makeCores_1 (v := 0) (by decide) ?_
  refine y_put fp_Mm_84 d_Mm_makeCores_2 (fun h => nomatch h) rfl rfl (q0 := 0) rfl (Nat.le_of_ble_eq_true rfl) (cs' := [((ad 52), .inr (12, [.int 0, .ref (ad 53), .int (nI t.2.2.2.1), .ref (ad 54), .ref (ad 55), .ref (ad 56), .ref (ad 57), .ref (ad 58), .ref (ad 59), .ref (ad 60), .ref (ad 61), .int v_m_cl, .int v_m_wa, .int v_m_co_, .int v_m_fi, .int v_m_bu, .int v_m_ho, .ref (ad 62), .ref (ad 63), .ref (ad 64), .int v_m_lh, .int v_m_mg, .int v_m_wd, .int (t.2.2.2.2 3), .int (t.2.2.2.2 4), .ref (ad 65), .ref (ad 66), .ref (ad 67), .ref (ad 68), .long v_m_po, .long v_m_de]))]) rfl ?_
  refine y_aload_n d_Mm_makeCores_5 rfl 0 rfl ?_
  refine y_iload_n d_Mm_makeCores_6 rfl 1 rfl ?_
  refine y_iconst d_Mm_makeCores_7 (v := 1) (by decide) ?_
  refine y_bipush d_Mm_makeCores_8 (v := 10) (by decide) ?_
  refine y_callS (As := [.int c, .int 1, .int 10]) (rest := [.ref (ad 52)]) (csC := []) (is := []) ln_Mm_87 w_st_Mm_in ok_Mm_makeCores_Mm_in d_Mm_makeCores_10 (C_Mm_in g c 1 10) rfl rfl (Nat.le_of_ble_eq_true rfl) rfl (by decide) (by omega) (by omega) (fun E cs1 hx => ?_) (fun v cs1 hx => ?_)
  · exact absurd hx.1 (by simp)
  · obtain ⟨e1, rfl⟩ := hx
    cases e1
    refine ⟨rfl, ?_⟩
    refine y_st (st2 := [.int (if 1 ≤ c ∧ c ≤ 10 then 1 else 0), .ref (ad 52)]) rfl ?_
    refine y_cs (cs2 := [((ad 52), .inr (12, [.int 0, .ref (ad 53), .int (nI t.2.2.2.1), .ref (ad 54), .ref (ad 55), .ref (ad 56), .ref (ad 57), .ref (ad 58), .ref (ad 59), .ref (ad 60), .ref (ad 61), .int v_m_cl, .int v_m_wa, .int v_m_co_, .int v_m_fi, .int v_m_bu, .int v_m_ho, .ref (ad 62), .ref (ad 63), .ref (ad 64), .int v_m_lh, .int v_m_mg, .int v_m_wd, .int (t.2.2.2.2 3), .int (t.2.2.2.2 4), .ref (ad 65), .ref (ad 66), .ref (ad 67), .ref (ad 68), .long v_m_po, .long v_m_de]))]) rfl ?_
    refine y_if_eq (tgt := 26) d_Mm_makeCores_13 (by decide) (fun c_13 => ?_) (fun c_13 => ?_)
    · refine y_iconst d_Mm_makeCores_26 (v := 1) (by decide) ?_
      refine y_goto (tgt := 31) d_Mm_makeCores_27 (by decide) ?_
      refine y_iconst d_Mm_makeCores_31 (v := 1) (by decide) ?_
      refine y_callV (As := [.int 1, .int 1]) (rest := []) (csC := [((ad 52), .inr (12, [.int 0, .ref (ad 53), .int (nI t.2.2.2.1), .ref (ad 54), .ref (ad 55), .ref (ad 56), .ref (ad 57), .ref (ad 58), .ref (ad 59), .ref (ad 60), .ref (ad 61), .int v_m_cl, .int v_m_wa, .int v_m_co_, .int v_m_fi, .int v_m_bu, .int v_m_ho, .ref (ad 62), .ref (ad 63), .ref (ad 64), .int v_m_lh, .int v_m_mg, .int v_m_wd, .int (t.2.2.2.2 3), .int (t.2.2.2.2 4), .ref (ad 65), .ref (ad 66), .ref (ad 67), .ref (ad 68), .long v_m_po, .long v_m_de]))]) (is := [0]) (q0 := 0) rfl rfl ln_Mm_103 w_im_Mm_fails w_se_Mm_fails ok_Mm_makeCores_Mm_fails d_Mm_makeCores_32 (C_Mm_fails1 g (ad 52) (ad 53) (ad 54) (ad 55) (ad 56) (ad 57) (ad 58) (ad 59) (ad 60) (ad 61) (ad 62) (ad 63) (ad 64) (ad 65) (ad 66) (ad 67) (ad 68) 0 (nI t.2.2.2.1) v_m_cl v_m_wa v_m_co_ v_m_fi v_m_bu v_m_ho v_m_lh v_m_mg v_m_wd (t.2.2.2.2 3) (t.2.2.2.2 4) v_m_po v_m_de) rfl rfl (Nat.le_of_ble_eq_true rfl) rfl (by decide) (by omega) (by omega) (fun E cs1 hx => ?_) (fun v cs1 hx => ?_)
      · exact absurd hx.1 (by simp)
      · obtain ⟨e1, rfl⟩ := hx
        cases e1
        refine ⟨rfl, ?_⟩
        refine y_st (st2 := [.int 1]) rfl ?_
        refine y_cs (cs2 := [((ad 52), .inr (12, [.int 1, .ref (ad 53), .int (nI t.2.2.2.1), .ref (ad 54), .ref (ad 55), .ref (ad 56), .ref (ad 57), .ref (ad 58), .ref (ad 59), .ref (ad 60), .ref (ad 61), .int v_m_cl, .int v_m_wa, .int v_m_co_, .int v_m_fi, .int v_m_bu, .int v_m_ho, .ref (ad 62), .ref (ad 63), .ref (ad 64), .int v_m_lh, .int v_m_mg, .int v_m_wd, .int (t.2.2.2.2 3), .int (t.2.2.2.2 4), .ref (ad 65), .ref (ad 66), .ref (ad 67), .ref (ad 68), .long v_m_po, .long v_m_de]))]) rfl ?_
        refine y_if_ne (tgt := 63) d_Mm_makeCores_35 (by decide) (fun c_35 => ?_) (fun c_35 => ?_)
        · refine y_iconst d_Mm_makeCores_63 (v := 0) (by decide) ?_
          refine y_iret d_Mm_makeCores_64 rfl rfl ?_
          exact fun w1 h1 => ⟨⟨_, rfl⟩, ⟨_, (hI.gen (t2 := t) (is := [52]) (L2 := []) h1 rfl ⟨kd_52.mpr ⟨_, _, _, _, _, _, _, _, _, _, _, _, rfl⟩, trivial⟩ (by decide) (by decide) (fun _ h => nomatch h) (fun _ h => nomatch h) (fun _ _ _ _ h => h) (fun h => h))⟩⟩
        · exact absurd c_35 (by decide)
    · refine y_iload_n d_Mm_makeCores_16 rfl 2 rfl ?_
      refine y_iconst d_Mm_makeCores_17 (v := 1) (by decide) ?_
      refine y_bipush d_Mm_makeCores_18 (v := 24) (by decide) ?_
      refine y_callS (As := [.int k, .int 1, .int 24]) (rest := [.ref (ad 52)]) (csC := []) (is := []) ln_Mm_87 w_st_Mm_in ok_Mm_makeCores_Mm_in d_Mm_makeCores_20 (C_Mm_in g k 1 24) rfl rfl (Nat.le_of_ble_eq_true rfl) rfl (by decide) (by omega) (by omega) (fun E cs1 hx => ?_) (fun v cs1 hx => ?_)
      · exact absurd hx.1 (by simp)
      · obtain ⟨e1, rfl⟩ := hx
        cases e1
        refine ⟨rfl, ?_⟩
        refine y_st (st2 := [.int (if 1 ≤ k ∧ k ≤ 24 then 1 else 0), .ref (ad 52)]) rfl ?_
        refine y_cs (cs2 := [((ad 52), .inr (12, [.int 0, .ref (ad 53), .int (nI t.2.2.2.1), .ref (ad 54), .ref (ad 55), .ref (ad 56), .ref (ad 57), .ref (ad 58), .ref (ad 59), .ref (ad 60), .ref (ad 61), .int v_m_cl, .int v_m_wa, .int v_m_co_, .int v_m_fi, .int v_m_bu, .int v_m_ho, .ref (ad 62), .ref (ad 63), .ref (ad 64), .int v_m_lh, .int v_m_mg, .int v_m_wd, .int (t.2.2.2.2 3), .int (t.2.2.2.2 4), .ref (ad 65), .ref (ad 66), .ref (ad 67), .ref (ad 68), .long v_m_po, .long v_m_de]))]) rfl ?_
        refine y_if_ne (tgt := 30) d_Mm_makeCores_23 (by decide) (fun c_23 => ?_) (fun c_23 => ?_)
        · exact absurd ⟨z_b0n c_13, z_b0n c_23⟩ hw
        · refine y_iconst d_Mm_makeCores_26 (v := 1) (by decide) ?_
          refine y_goto (tgt := 31) d_Mm_makeCores_27 (by decide) ?_
          refine y_iconst d_Mm_makeCores_31 (v := 1) (by decide) ?_
          refine y_callV (As := [.int 1, .int 1]) (rest := []) (csC := [((ad 52), .inr (12, [.int 0, .ref (ad 53), .int (nI t.2.2.2.1), .ref (ad 54), .ref (ad 55), .ref (ad 56), .ref (ad 57), .ref (ad 58), .ref (ad 59), .ref (ad 60), .ref (ad 61), .int v_m_cl, .int v_m_wa, .int v_m_co_, .int v_m_fi, .int v_m_bu, .int v_m_ho, .ref (ad 62), .ref (ad 63), .ref (ad 64), .int v_m_lh, .int v_m_mg, .int v_m_wd, .int (t.2.2.2.2 3), .int (t.2.2.2.2 4), .ref (ad 65), .ref (ad 66), .ref (ad 67), .ref (ad 68), .long v_m_po, .long v_m_de]))]) (is := [0]) (q0 := 0) rfl rfl ln_Mm_103 w_im_Mm_fails w_se_Mm_fails ok_Mm_makeCores_Mm_fails d_Mm_makeCores_32 (C_Mm_fails1 g (ad 52) (ad 53) (ad 54) (ad 55) (ad 56) (ad 57) (ad 58) (ad 59) (ad 60) (ad 61) (ad 62) (ad 63) (ad 64) (ad 65) (ad 66) (ad 67) (ad 68) 0 (nI t.2.2.2.1) v_m_cl v_m_wa v_m_co_ v_m_fi v_m_bu v_m_ho v_m_lh v_m_mg v_m_wd (t.2.2.2.2 3) (t.2.2.2.2 4) v_m_po v_m_de) rfl rfl (Nat.le_of_ble_eq_true rfl) rfl (by decide) (by omega) (by omega) (fun E cs1 hx => ?_) (fun v cs1 hx => ?_)
          · exact absurd hx.1 (by simp)
          · obtain ⟨e1, rfl⟩ := hx
            cases e1
            refine ⟨rfl, ?_⟩
            refine y_st (st2 := [.int 1]) rfl ?_
            refine y_cs (cs2 := [((ad 52), .inr (12, [.int 1, .ref (ad 53), .int (nI t.2.2.2.1), .ref (ad 54), .ref (ad 55), .ref (ad 56), .ref (ad 57), .ref (ad 58), .ref (ad 59), .ref (ad 60), .ref (ad 61), .int v_m_cl, .int v_m_wa, .int v_m_co_, .int v_m_fi, .int v_m_bu, .int v_m_ho, .ref (ad 62), .ref (ad 63), .ref (ad 64), .int v_m_lh, .int v_m_mg, .int v_m_wd, .int (t.2.2.2.2 3), .int (t.2.2.2.2 4), .ref (ad 65), .ref (ad 66), .ref (ad 67), .ref (ad 68), .long v_m_po, .long v_m_de]))]) rfl ?_
            refine y_if_ne (tgt := 63) d_Mm_makeCores_35 (by decide) (fun c_35 => ?_) (fun c_35 => ?_)
            · refine y_iconst d_Mm_makeCores_63 (v := 0) (by decide) ?_
              refine y_iret d_Mm_makeCores_64 rfl rfl ?_
              exact fun w1 h1 => ⟨⟨_, rfl⟩, ⟨_, (hI.gen (t2 := t) (is := [52]) (L2 := []) h1 rfl ⟨kd_52.mpr ⟨_, _, _, _, _, _, _, _, _, _, _, _, rfl⟩, trivial⟩ (by decide) (by decide) (fun _ h => nomatch h) (fun _ h => nomatch h) (fun _ _ _ _ h => h) (fun h => h))⟩⟩
            · exact absurd c_35 (by decide)
theorem d_Mm_makeCores_51 : decode prog_14_method_50_code 51 = .ok (.iconst 1, 1) := by decide +kernel
theorem d_Mm_makeCores_52 : decode prog_14_method_50_code 52 = .ok (.goto 4, 3) := by decide +kernel
set_option maxHeartbeats 4000000 in
set_option maxRecDepth 100000 in
theorem Q_Mm_makeCoresN {g : zG} {ad : Nat → Nat} {t : zTT} {u : zNN} {w : zW} (hI : IV g ad t u w) (c k : Int32) (hw : (1 ≤ c ∧ c ≤ 10) ∧ (1 ≤ k ∧ k ≤ 24)) : zMB g M_Mm_makeCores [.ref (ad 52), .int c, .int k] w (fun o w1 => (∃ v : Int32, o = .inl (some (.int v))) ∧ ∃ u2, IV g ad t u2 w1) 2 35 := by
  obtain ⟨e_m, wf_m, k_m⟩ := hI.1.2 52 (by decide)
  obtain ⟨v_m_th, v_m_cl, v_m_wa, v_m_co_, v_m_fi, v_m_bu, v_m_ho, v_m_lh, v_m_mg, v_m_wd, v_m_po, v_m_de, rfl⟩ := kd_52.mp k_m
  refine y_of (by decide) rfl (Nat.le_of_ble_eq_true rfl) (y_base (cs := [((ad 52), .inr (12, [.int v_m_th, .ref (ad 53), .int (nI t.2.2.2.1), .ref (ad 54), .ref (ad 55), .ref (ad 56), .ref (ad 57), .ref (ad 58), .ref (ad 59), .ref (ad 60), .ref (ad 61), .int v_m_cl, .int v_m_wa, .int v_m_co_, .int v_m_fi, .int v_m_bu, .int v_m_ho, .ref (ad 62), .ref (ad 63), .ref (ad 64), .int v_m_lh, .int v_m_mg, .int v_m_wd, .int (t.2.2.2.2 3), .int (t.2.2.2.2 4), .ref (ad 65), .ref (ad 66), .ref (ad 67), .ref (ad 68), .long v_m_po, .long v_m_de]))]) (hI.1.I [52] _ rfl (by decide) (by decide) (List.forall_mem_cons.mpr ⟨wf_m, (fun _ h => nomatch h)⟩)) ?_)
  refine y_lvE (lv2 := [(0, .ref (ad 52)), (1, .int c), (2, .int k)]) rfl ?_
  refine y_aload_n d_Mm_makeCores_0 rfl 0 rfl ?_
  refine y_iconst d_Mm_makeCores_1 (v := 0) (by decide) ?_
  refine y_put fp_Mm_84 d_Mm_makeCores_2 (fun h => nomatch h) rfl rfl (q0 := 0) rfl (Nat.le_of_ble_eq_true rfl) (cs' := [((ad 52), .inr (12, [.int 0, .ref (ad 53), .int (nI t.2.2.2.1), .ref (ad 54), .ref (ad 55), .ref (ad 56), .ref (ad 57), .ref (ad 58), .ref (ad 59), .ref (ad 60), .ref (ad 61), .int v_m_cl, .int v_m_wa, .int v_m_co_, .int v_m_fi, .int v_m_bu, .int v_m_ho, .ref (ad 62), .ref (ad 63), .ref (ad 64), .int v_m_lh, .int v_m_mg, .int v_m_wd, .int (t.2.2.2.2 3), .int (t.2.2.2.2 4), .ref (ad 65), .ref (ad 66), .ref (ad 67), .ref (ad 68), .long v_m_po, .long v_m_de]))]) rfl ?_
  refine y_aload_n d_Mm_makeCores_5 rfl 0 rfl ?_
  refine y_iload_n d_Mm_makeCores_6 rfl 1 rfl ?_
  refine y_iconst d_Mm_makeCores_7 (v := 1) (by decide) ?_
  refine y_bipush d_Mm_makeCores_8 (v := 10) (by decide) ?_
  refine y_callS (As := [.int c, .int 1, .int 10]) (rest := [.ref (ad 52)]) (csC := []) (is := []) ln_Mm_87 w_st_Mm_in ok_Mm_makeCores_Mm_in d_Mm_makeCores_10 (C_Mm_in g c 1 10) rfl rfl (Nat.le_of_ble_eq_true rfl) rfl (by decide) (by omega) (by omega) (fun E cs1 hx => ?_) (fun v cs1 hx => ?_)
  · exact absurd hx.1 (by simp)
  · obtain ⟨e1, rfl⟩ := hx
    rw [if_pos hw.1] at e1
    cases e1
    refine ⟨rfl, ?_⟩
    refine y_st (st2 := [.int 1, .ref (ad 52)]) rfl ?_
    refine y_cs (cs2 := [((ad 52), .inr (12, [.int 0, .ref (ad 53), .int (nI t.2.2.2.1), .ref (ad 54), .ref (ad 55), .ref (ad 56), .ref (ad 57), .ref (ad 58), .ref (ad 59), .ref (ad 60), .ref (ad 61), .int v_m_cl, .int v_m_wa, .int v_m_co_, .int v_m_fi, .int v_m_bu, .int v_m_ho, .ref (ad 62), .ref (ad 63), .ref (ad 64), .int v_m_lh, .int v_m_mg, .int v_m_wd, .int (t.2.2.2.2 3), .int (t.2.2.2.2 4), .ref (ad 65), .ref (ad 66), .ref (ad 67), .ref (ad 68), .long v_m_po, .long v_m_de]))]) rfl ?_
    refine y_if_eq (tgt := 26) d_Mm_makeCores_13 (by decide) (fun c_13 => ?_) (fun c_13 => ?_)
    · exact absurd c_13 (by decide)
    · refine y_iload_n d_Mm_makeCores_16 rfl 2 rfl ?_
      refine y_iconst d_Mm_makeCores_17 (v := 1) (by decide) ?_
      refine y_bipush d_Mm_makeCores_18 (v := 24) (by decide) ?_
      refine y_callS (As := [.int k, .int 1, .int 24]) (rest := [.ref (ad 52)]) (csC := []) (is := []) ln_Mm_87 w_st_Mm_in ok_Mm_makeCores_Mm_in d_Mm_makeCores_20 (C_Mm_in g k 1 24) rfl rfl (Nat.le_of_ble_eq_true rfl) rfl (by decide) (by omega) (by omega) (fun E cs1 hx => ?_) (fun v cs1 hx => ?_)
      · exact absurd hx.1 (by simp)
      · obtain ⟨e1, rfl⟩ := hx
        rw [if_pos hw.2] at e1
        cases e1
        refine ⟨rfl, ?_⟩
        refine y_st (st2 := [.int 1, .ref (ad 52)]) rfl ?_
        refine y_cs (cs2 := [((ad 52), .inr (12, [.int 0, .ref (ad 53), .int (nI t.2.2.2.1), .ref (ad 54), .ref (ad 55), .ref (ad 56), .ref (ad 57), .ref (ad 58), .ref (ad 59), .ref (ad 60), .ref (ad 61), .int v_m_cl, .int v_m_wa, .int v_m_co_, .int v_m_fi, .int v_m_bu, .int v_m_ho, .ref (ad 62), .ref (ad 63), .ref (ad 64), .int v_m_lh, .int v_m_mg, .int v_m_wd, .int (t.2.2.2.2 3), .int (t.2.2.2.2 4), .ref (ad 65), .ref (ad 66), .ref (ad 67), .ref (ad 68), .long v_m_po, .long v_m_de]))]) rfl ?_
        refine y_if_ne (tgt := 30) d_Mm_makeCores_23 (by decide) (fun c_23 => ?_) (fun c_23 => ?_)
        · refine y_iconst d_Mm_makeCores_30 (v := 0) (by decide) ?_
          refine y_iconst d_Mm_makeCores_31 (v := 1) (by decide) ?_
          refine y_callV (As := [.int 0, .int 1]) (rest := []) (csC := [((ad 52), .inr (12, [.int 0, .ref (ad 53), .int (nI t.2.2.2.1), .ref (ad 54), .ref (ad 55), .ref (ad 56), .ref (ad 57), .ref (ad 58), .ref (ad 59), .ref (ad 60), .ref (ad 61), .int v_m_cl, .int v_m_wa, .int v_m_co_, .int v_m_fi, .int v_m_bu, .int v_m_ho, .ref (ad 62), .ref (ad 63), .ref (ad 64), .int v_m_lh, .int v_m_mg, .int v_m_wd, .int (t.2.2.2.2 3), .int (t.2.2.2.2 4), .ref (ad 65), .ref (ad 66), .ref (ad 67), .ref (ad 68), .long v_m_po, .long v_m_de]))]) (is := [0]) (q0 := 0) rfl rfl ln_Mm_103 w_im_Mm_fails w_se_Mm_fails ok_Mm_makeCores_Mm_fails d_Mm_makeCores_32 (C_Mm_fails0 g (ad 52) (ad 53) (ad 54) (ad 55) (ad 56) (ad 57) (ad 58) (ad 59) (ad 60) (ad 61) (ad 62) (ad 63) (ad 64) (ad 65) (ad 66) (ad 67) (ad 68) 0 (nI t.2.2.2.1) v_m_cl v_m_wa v_m_co_ v_m_fi v_m_bu v_m_ho v_m_lh v_m_mg v_m_wd (t.2.2.2.2 3) (t.2.2.2.2 4) v_m_po v_m_de 1) rfl rfl (Nat.le_of_ble_eq_true rfl) rfl (by decide) (by omega) (by omega) (fun E cs1 hx => ?_) (fun v cs1 hx => ?_)
          · exact absurd hx.1 (by simp)
          · obtain ⟨e1, rfl⟩ := hx
            cases e1
            refine ⟨rfl, ?_⟩
            refine y_st (st2 := [.int 0]) rfl ?_
            refine y_cs (cs2 := [((ad 52), .inr (12, [.int 0, .ref (ad 53), .int (nI t.2.2.2.1), .ref (ad 54), .ref (ad 55), .ref (ad 56), .ref (ad 57), .ref (ad 58), .ref (ad 59), .ref (ad 60), .ref (ad 61), .int v_m_cl, .int v_m_wa, .int v_m_co_, .int v_m_fi, .int v_m_bu, .int v_m_ho, .ref (ad 62), .ref (ad 63), .ref (ad 64), .int v_m_lh, .int v_m_mg, .int v_m_wd, .int (t.2.2.2.2 3), .int (t.2.2.2.2 4), .ref (ad 65), .ref (ad 66), .ref (ad 67), .ref (ad 68), .long v_m_po, .long v_m_de]))]) rfl ?_
            refine y_if_ne (tgt := 63) d_Mm_makeCores_35 (by decide) (fun c_35 => ?_) (fun c_35 => ?_)
            · exact absurd c_35 (by decide)
            · refine y_aload_n d_Mm_makeCores_38 rfl 0 rfl ?_
              refine y_aload_n d_Mm_makeCores_39 rfl 0 rfl ?_
              refine y_get fs_Mm_58 d_Mm_makeCores_40 (q0 := 0) rfl rfl ?_
              refine yw_callVL (As := []) (rest := [.ref (ad 52)]) (ci := 13) rfl (fun wA hA => ((hI.gen (t2 := t) (is := [52]) (L2 := []) hA rfl ⟨kd_52.mpr ⟨_, _, _, _, _, _, _, _, _, _, _, _, rfl⟩, trivial⟩ (by decide) (by decide) (fun _ h => nomatch h) (fun _ h => nomatch h) (fun _ _ _ _ h => h) (fun h => h)).2.1.1 2 (by decide)).ob) ln_Mm_208 w_im_AL_size w_se_AL_size ok_Mm_makeCores_AL_size d_Mm_makeCores_43 (fun wA hA => Q_size ((hI.gen (t2 := t) (is := [52]) (L2 := []) hA rfl ⟨kd_52.mpr ⟨_, _, _, _, _, _, _, _, _, _, _, _, rfl⟩, trivial⟩ (by decide) (by decide) (fun _ h => nomatch h) (fun _ h => nomatch h) (fun _ _ _ _ h => h) (fun h => h)).2.1.1 2 (by decide))) rfl rfl (Nat.le_of_ble_eq_true rfl) (by omega) (by omega) (fun wA43 hA43 E wB43 hx => ?_) (fun wA43 hA43 v wB43 hx => ?_)
              · exact absurd hx.1 (by simp)
              · obtain ⟨e1, e2⟩ := hx
                cases e1
                refine yw_st (st2 := [.int (nI (u.1 2)), .ref (ad 52)]) rfl ?_
                subst e2
                refine y_go hA43 ?_
                refine y_bipush d_Mm_makeCores_46 (v := 20) (by decide) ?_
                refine y_icmp_ne (tgt := 55) d_Mm_makeCores_48 (by decide) (fun c_48 => ?_) (fun c_48 => ?_)
                · refine y_iconst d_Mm_makeCores_55 (v := 0) (by decide) ?_
                  refine y_iconst d_Mm_makeCores_56 (v := 2) (by decide) ?_
                  refine y_callV (As := [.int 0, .int 2]) (rest := []) (csC := [((ad 52), .inr (12, [.int 0, .ref (ad 53), .int (nI t.2.2.2.1), .ref (ad 54), .ref (ad 55), .ref (ad 56), .ref (ad 57), .ref (ad 58), .ref (ad 59), .ref (ad 60), .ref (ad 61), .int v_m_cl, .int v_m_wa, .int v_m_co_, .int v_m_fi, .int v_m_bu, .int v_m_ho, .ref (ad 62), .ref (ad 63), .ref (ad 64), .int v_m_lh, .int v_m_mg, .int v_m_wd, .int (t.2.2.2.2 3), .int (t.2.2.2.2 4), .ref (ad 65), .ref (ad 66), .ref (ad 67), .ref (ad 68), .long v_m_po, .long v_m_de]))]) (is := [0]) (q0 := 0) rfl rfl ln_Mm_103 w_im_Mm_fails w_se_Mm_fails ok_Mm_makeCores_Mm_fails d_Mm_makeCores_57 (C_Mm_fails0 g (ad 52) (ad 53) (ad 54) (ad 55) (ad 56) (ad 57) (ad 58) (ad 59) (ad 60) (ad 61) (ad 62) (ad 63) (ad 64) (ad 65) (ad 66) (ad 67) (ad 68) 0 (nI t.2.2.2.1) v_m_cl v_m_wa v_m_co_ v_m_fi v_m_bu v_m_ho v_m_lh v_m_mg v_m_wd (t.2.2.2.2 3) (t.2.2.2.2 4) v_m_po v_m_de 2) rfl rfl (Nat.le_of_ble_eq_true rfl) rfl (by decide) (by omega) (by omega) (fun E cs1 hx => ?_) (fun v cs1 hx => ?_)
                  · exact absurd hx.1 (by simp)
                  · obtain ⟨e1, rfl⟩ := hx
                    cases e1
                    refine ⟨rfl, ?_⟩
                    refine y_st (st2 := [.int 0]) rfl ?_
                    refine y_cs (cs2 := [((ad 52), .inr (12, [.int 0, .ref (ad 53), .int (nI t.2.2.2.1), .ref (ad 54), .ref (ad 55), .ref (ad 56), .ref (ad 57), .ref (ad 58), .ref (ad 59), .ref (ad 60), .ref (ad 61), .int v_m_cl, .int v_m_wa, .int v_m_co_, .int v_m_fi, .int v_m_bu, .int v_m_ho, .ref (ad 62), .ref (ad 63), .ref (ad 64), .int v_m_lh, .int v_m_mg, .int v_m_wd, .int (t.2.2.2.2 3), .int (t.2.2.2.2 4), .ref (ad 65), .ref (ad 66), .ref (ad 67), .ref (ad 68), .long v_m_po, .long v_m_de]))]) rfl ?_
                    refine y_if_eq (tgt := 65) d_Mm_makeCores_60 (by decide) (fun c_60 => ?_) (fun c_60 => ?_)
                    · refine y_iconst d_Mm_makeCores_65 (v := 2) (by decide) ?_
                      refine y_newa_int (N := 2) ac_int d_Mm_makeCores_66 (by decide) (by decide) (by decide) (by omega) (by omega) (fun q66 => ?_)
                      refine y_cs (cs2 := [((ad 52), .inr (12, [.int 0, .ref (ad 53), .int (nI t.2.2.2.1), .ref (ad 54), .ref (ad 55), .ref (ad 56), .ref (ad 57), .ref (ad 58), .ref (ad 59), .ref (ad 60), .ref (ad 61), .int v_m_cl, .int v_m_wa, .int v_m_co_, .int v_m_fi, .int v_m_bu, .int v_m_ho, .ref (ad 62), .ref (ad 63), .ref (ad 64), .int v_m_lh, .int v_m_mg, .int v_m_wd, .int (t.2.2.2.2 3), .int (t.2.2.2.2 4), .ref (ad 65), .ref (ad 66), .ref (ad 67), .ref (ad 68), .long v_m_po, .long v_m_de])), (q66, .inl (0, 2, .inl (fun _ => 0)))]) rfl ?_
                      refine y_astore_n (lv' := [(3, .ref q66), (0, .ref (ad 52)), (1, .int c), (2, .int k)]) d_Mm_makeCores_68 rfl (by decide) rfl ?_
                      refine y_aload_n d_Mm_makeCores_69 rfl 0 rfl ?_
                      refine y_iconst d_Mm_makeCores_70 (v := 0) (by decide) ?_
                      refine y_iload_n d_Mm_makeCores_71 rfl 2 rfl ?_
                      refine y_iast d_Mm_makeCores_72 (q0 := 1) rfl (fun q => q.elim (by decide) (by decide)) (f' := upd (fun _ => 0) 0 c) rfl (cs' := [((ad 52), .inr (12, [.int 0, .ref (ad 53), .int (nI t.2.2.2.1), .ref (ad 54), .ref (ad 55), .ref (ad 56), .ref (ad 57), .ref (ad 58), .ref (ad 59), .ref (ad 60), .ref (ad 61), .int v_m_cl, .int v_m_wa, .int v_m_co_, .int v_m_fi, .int v_m_bu, .int v_m_ho, .ref (ad 62), .ref (ad 63), .ref (ad 64), .int v_m_lh, .int v_m_mg, .int v_m_wd, .int (t.2.2.2.2 3), .int (t.2.2.2.2 4), .ref (ad 65), .ref (ad 66), .ref (ad 67), .ref (ad 68), .long v_m_po, .long v_m_de])), (q66, .inl (0, 2, .inl (upd (fun _ => 0) 0 c)))]) rfl ?_
                      refine y_aload_n d_Mm_makeCores_73 rfl 0 rfl ?_
                      refine y_iconst d_Mm_makeCores_74 (v := 1) (by decide) ?_
                      refine y_aload_n d_Mm_makeCores_75 rfl 1 rfl ?_
                      refine y_get fs_Mm_216 d_Mm_makeCores_76 (q0 := 0) rfl rfl ?_
                      refine y_iload_n d_Mm_makeCores_79 rfl 3 rfl ?_
                      refine y_iadd d_Mm_makeCores_80 (v := v_m_ho + k) rfl ?_
                      refine y_iast d_Mm_makeCores_81 (q0 := 1) rfl (fun q => q.elim (by decide) (by decide)) (f' := upd (upd (fun _ => 0) 0 c) 1 (v_m_ho + k)) rfl (cs' := [((ad 52), .inr (12, [.int 0, .ref (ad 53), .int (nI t.2.2.2.1), .ref (ad 54), .ref (ad 55), .ref (ad 56), .ref (ad 57), .ref (ad 58), .ref (ad 59), .ref (ad 60), .ref (ad 61), .int v_m_cl, .int v_m_wa, .int v_m_co_, .int v_m_fi, .int v_m_bu, .int v_m_ho, .ref (ad 62), .ref (ad 63), .ref (ad 64), .int v_m_lh, .int v_m_mg, .int v_m_wd, .int (t.2.2.2.2 3), .int (t.2.2.2.2 4), .ref (ad 65), .ref (ad 66), .ref (ad 67), .ref (ad 68), .long v_m_po, .long v_m_de])), (q66, .inl (0, 2, .inl (upd (upd (fun _ => 0) 0 c) 1 (v_m_ho + k))))]) rfl ?_
                      refine y_aload_n d_Mm_makeCores_82 rfl 1 rfl ?_
                      refine y_get fs_Mm_58 d_Mm_makeCores_83 (q0 := 0) rfl rfl ?_
                      refine y_aload_n d_Mm_makeCores_86 rfl 0 rfl ?_
                      refine yw_callVL (As := [.ref q66]) (rest := []) (ci := 13) rfl (fun wA hA => ((hI.gen (t2 := t) (is := [52]) (L2 := []) hA rfl ⟨kd_52.mpr ⟨_, _, _, _, _, _, _, _, _, _, _, _, rfl⟩, trivial⟩ (by decide) (by decide) (fun _ h => nomatch h) (fun _ h => nomatch h) (fun _ _ _ _ h => h) (fun h => h)).2.1.1 2 (by decide)).ob) ln_Mm_219 w_im_AL_add_0 w_se_AL_add_0 ok_Mm_makeCores_AL_add_0 d_Mm_makeCores_87 (fun wA hA => Q_add ((hI.gen (t2 := t) (is := [52]) (L2 := []) hA rfl ⟨kd_52.mpr ⟨_, _, _, _, _, _, _, _, _, _, _, _, rfl⟩, trivial⟩ (by decide) (by decide) (fun _ h => nomatch h) (fun _ h => nomatch h) (fun _ _ _ _ h => h) (fun h => h)).2.1.1 2 (by decide)) (fun k hk => ((hI.gen (t2 := t) (is := [52]) (L2 := []) hA rfl ⟨kd_52.mpr ⟨_, _, _, _, _, _, _, _, _, _, _, _, rfl⟩, trivial⟩ (by decide) (by decide) (fun _ h => nomatch h) (fun _ h => nomatch h) (fun _ _ _ _ h => h) (fun h => h)).2.1.2.1 2 (by decide) k hk).elt2) (EL.elt2 ((⟨hI.1.nfr (hA.nw (k := 1) rfl (Nat.le_of_ble_eq_true rfl)), _, hA.at (q0 := 1) rfl⟩ : EL ad 2 _ _))) (by have := (hI.gen (t2 := t) (is := [52]) (L2 := []) hA rfl ⟨kd_52.mpr ⟨_, _, _, _, _, _, _, _, _, _, _, _, rfl⟩, trivial⟩ (by decide) (by decide) (fun _ h => nomatch h) (fun _ h => nomatch h) (fun _ _ _ _ h => h) (fun h => h)).sz.2.2.1; omega)) rfl rfl (Nat.le_of_ble_eq_true rfl) (by omega) (by omega) (fun wA87 hA87 E wB87 hx => ?_) (fun wA87 hA87 v wB87 hx => ?_)
                      · exact absurd hx.1 (by simp)
                      · obtain ⟨e1, bk9, e2, e3, e4⟩ := hx
                        cases e1
                        refine yw_st (st2 := [.int 1]) rfl ?_
                        have hI8 := (hI.gen (t2 := t) (is := [52]) (L2 := []) hA87 rfl ⟨kd_52.mpr ⟨_, _, _, _, _, _, _, _, _, _, _, _, rfl⟩, trivial⟩ (by decide) (by decide) (fun _ h => nomatch h) (fun _ h => nomatch h) (fun _ _ _ _ h => h) (fun h => h))
                        have hI := (hI8.iw.app (L := 2) (by decide) ((⟨hI.1.nfr (hA87.nw (k := 1) rfl (Nat.le_of_ble_eq_true rfl)), _, hA87.at (q0 := 1) rfl⟩ : EL ad 2 _ _)) e2 e3 e4).iv (hI8.sz.s2 (by have := hI8.sz.2.2.1; have : ¬ u.1 2 = 20 := (fun q => c_48 (by rw [q]; rfl)); omega))
                        obtain ⟨e_m, wf_m, k_m⟩ := hI.1.2 52 (by decide)
                        obtain ⟨v_m_th, v_m_cl, v_m_wa, v_m_co_, v_m_fi, v_m_bu, v_m_ho, v_m_lh, v_m_mg, v_m_wd, v_m_po, v_m_de, rfl⟩ := kd_52.mp k_m
                        refine y_base (cs := [((ad 52), .inr (12, [.int v_m_th, .ref (ad 53), .int (nI t.2.2.2.1), .ref (ad 54), .ref (ad 55), .ref (ad 56), .ref (ad 57), .ref (ad 58), .ref (ad 59), .ref (ad 60), .ref (ad 61), .int v_m_cl, .int v_m_wa, .int v_m_co_, .int v_m_fi, .int v_m_bu, .int v_m_ho, .ref (ad 62), .ref (ad 63), .ref (ad 64), .int v_m_lh, .int v_m_mg, .int v_m_wd, .int (t.2.2.2.2 3), .int (t.2.2.2.2 4), .ref (ad 65), .ref (ad 66), .ref (ad 67), .ref (ad 68), .long v_m_po, .long v_m_de]))]) (hI.1.I [52] _ rfl (by decide) (by decide) (List.forall_mem_cons.mpr ⟨wf_m, (fun _ h => nomatch h)⟩)) ?_
                        refine y_pop d_Mm_makeCores_90 rfl ?_
                        refine y_aload_n d_Mm_makeCores_91 rfl 1 rfl ?_
                        refine yw_callV (As := []) (rest := []) (q0 := 0) rfl rfl ln_Mm_223 w_im_Mm_inStore w_se_Mm_inStore ok_Mm_makeCores_Mm_inStore d_Mm_makeCores_92 (fun wA hA => Q_inStore (hI.gen (t2 := t) (is := [52]) (L2 := []) hA rfl ⟨kd_52.mpr ⟨_, _, _, _, _, _, _, _, _, _, _, _, rfl⟩, trivial⟩ (by decide) (by decide) (fun _ h => nomatch h) (fun _ h => nomatch h) (fun _ _ _ _ h => h) (fun h => h))) rfl rfl (Nat.le_of_ble_eq_true rfl) (by omega) (by omega) (fun wA92 hA92 E wB92 hx => ?_) (fun wA92 hA92 v wB92 hx => ?_)
                        · exact absurd hx.1 (by simp)
                        · obtain ⟨⟨v9, e1⟩, e2⟩ := hx
                          cases e1
                          refine yw_st (st2 := [.int v9]) rfl ?_
                          subst e2
                          refine y_go hA92 ?_
                          refine y_iret d_Mm_makeCores_95 rfl rfl ?_
                          exact fun w1 h1 => ⟨⟨_, rfl⟩, ⟨_, (hI.gen (t2 := t) (is := [52]) (L2 := []) h1 rfl ⟨kd_52.mpr ⟨_, _, _, _, _, _, _, _, _, _, _, _, rfl⟩, trivial⟩ (by decide) (by decide) (fun _ h => nomatch h) (fun _ h => nomatch h) (fun _ _ _ _ h => h) (fun h => h))⟩⟩
                    · exact absurd c_60 (by decide)
                · refine y_iconst d_Mm_makeCores_51 (v := 1) (by decide) ?_
                  refine y_goto (tgt := 56) d_Mm_makeCores_52 (by decide) ?_
                  refine y_iconst d_Mm_makeCores_56 (v := 2) (by decide) ?_
                  refine y_callV (As := [.int 1, .int 2]) (rest := []) (csC := [((ad 52), .inr (12, [.int 0, .ref (ad 53), .int (nI t.2.2.2.1), .ref (ad 54), .ref (ad 55), .ref (ad 56), .ref (ad 57), .ref (ad 58), .ref (ad 59), .ref (ad 60), .ref (ad 61), .int v_m_cl, .int v_m_wa, .int v_m_co_, .int v_m_fi, .int v_m_bu, .int v_m_ho, .ref (ad 62), .ref (ad 63), .ref (ad 64), .int v_m_lh, .int v_m_mg, .int v_m_wd, .int (t.2.2.2.2 3), .int (t.2.2.2.2 4), .ref (ad 65), .ref (ad 66), .ref (ad 67), .ref (ad 68), .long v_m_po, .long v_m_de]))]) (is := [0]) (q0 := 0) rfl rfl ln_Mm_103 w_im_Mm_fails w_se_Mm_fails ok_Mm_makeCores_Mm_fails d_Mm_makeCores_57 (C_Mm_fails2 g (ad 52) (ad 53) (ad 54) (ad 55) (ad 56) (ad 57) (ad 58) (ad 59) (ad 60) (ad 61) (ad 62) (ad 63) (ad 64) (ad 65) (ad 66) (ad 67) (ad 68) 0 (nI t.2.2.2.1) v_m_cl v_m_wa v_m_co_ v_m_fi v_m_bu v_m_ho v_m_lh v_m_mg v_m_wd (t.2.2.2.2 3) (t.2.2.2.2 4) v_m_po v_m_de) rfl rfl (Nat.le_of_ble_eq_true rfl) rfl (by decide) (by omega) (by omega) (fun E cs1 hx => ?_) (fun v cs1 hx => ?_)
                  · exact absurd hx.1 (by simp)
                  · obtain ⟨e1, rfl⟩ := hx
                    cases e1
                    refine ⟨rfl, ?_⟩
                    refine y_st (st2 := [.int 1]) rfl ?_
                    refine y_cs (cs2 := [((ad 52), .inr (12, [.int 2, .ref (ad 53), .int (nI t.2.2.2.1), .ref (ad 54), .ref (ad 55), .ref (ad 56), .ref (ad 57), .ref (ad 58), .ref (ad 59), .ref (ad 60), .ref (ad 61), .int v_m_cl, .int v_m_wa, .int v_m_co_, .int v_m_fi, .int v_m_bu, .int v_m_ho, .ref (ad 62), .ref (ad 63), .ref (ad 64), .int v_m_lh, .int v_m_mg, .int v_m_wd, .int (t.2.2.2.2 3), .int (t.2.2.2.2 4), .ref (ad 65), .ref (ad 66), .ref (ad 67), .ref (ad 68), .long v_m_po, .long v_m_de]))]) rfl ?_
                    refine y_if_eq (tgt := 65) d_Mm_makeCores_60 (by decide) (fun c_60 => ?_) (fun c_60 => ?_)
                    · exact absurd c_60 (by decide)
                    · refine y_iconst d_Mm_makeCores_63 (v := 0) (by decide) ?_
                      refine y_iret d_Mm_makeCores_64 rfl rfl ?_
                      exact fun w1 h1 => ⟨⟨_, rfl⟩, ⟨_, (hI.gen (t2 := t) (is := [52]) (L2 := []) h1 rfl ⟨kd_52.mpr ⟨_, _, _, _, _, _, _, _, _, _, _, _, rfl⟩, trivial⟩ (by decide) (by decide) (fun _ h => nomatch h) (fun _ h => nomatch h) (fun _ _ _ _ h => h) (fun h => h))⟩⟩
        · exact absurd c_23 (by decide)
set_option maxHeartbeats 4000000 in
set_option maxRecDepth 100000 in
theorem Q_Mm_minutesE {g : zG} {ad : Nat → Nat} {t : zTT} {u : zNN} {w : zW} (hI : IV g ad t u w) (x : Int32) (hw : ¬ (1 ≤ x ∧ x ≤ 60)) : zMB g M_Mm_minutes [.ref (ad 52), .int x] w (fun o w1 => (∃ v : Int32, o = .inl (some (.int v))) ∧ IV g ad t u w1) 0 0 := by
  obtain ⟨e_m, wf_m, k_m⟩ := hI.1.2 52 (by decide)
  obtain ⟨v_m_th, v_m_cl, v_m_wa, v_m_co_, v_m_fi, v_m_bu, v_m_ho, v_m_lh, v_m_mg, v_m_wd, v_m_po, v_m_de, rfl⟩ := kd_52.mp k_m
  refine y_of (by decide) rfl (Nat.le_of_ble_eq_true rfl) (y_base (cs := [((ad 52), .inr (12, [.int v_m_th, .ref (ad 53), .int (nI t.2.2.2.1), .ref (ad 54), .ref (ad 55), .ref (ad 56), .ref (ad 57), .ref (ad 58), .ref (ad 59), .ref (ad 60), .ref (ad 61), .int v_m_cl, .int v_m_wa, .int v_m_co_, .int v_m_fi, .int v_m_bu, .int v_m_ho, .ref (ad 62), .ref (ad 63), .ref (ad 64), .int v_m_lh, .int v_m_mg, .int v_m_wd, .int (t.2.2.2.2 3), .int (t.2.2.2.2 4), .ref (ad 65), .ref (ad 66), .ref (ad 67), .ref (ad 68), .long v_m_po, .long v_m_de]))]) (hI.1.I [52] _ rfl (by decide) (by decide) (List.forall_mem_cons.mpr ⟨wf_m, (fun _ h => nomatch h)⟩)) ?_)
  refine y_lvE (lv2 := [(0, .ref (ad 52)), (1, .int x)]) rfl ?_
  refine y_aload_n d_Mm_minutes_0 rfl 0 rfl ?_
  refine y_iconst d_Mm_minutes_1 (v := 0) (by decide) ?_
  refine y_put fp_Mm_84 d_Mm_minutes_2 (fun h => nomatch h) rfl rfl (q0 := 0) rfl (Nat.le_of_ble_eq_true rfl) (cs' := [((ad 52), .inr (12, [.int 0, .ref (ad 53), .int (nI t.2.2.2.1), .ref (ad 54), .ref (ad 55), .ref (ad 56), .ref (ad 57), .ref (ad 58), .ref (ad 59), .ref (ad 60), .ref (ad 61), .int v_m_cl, .int v_m_wa, .int v_m_co_, .int v_m_fi, .int v_m_bu, .int v_m_ho, .ref (ad 62), .ref (ad 63), .ref (ad 64), .int v_m_lh, .int v_m_mg, .int v_m_wd, .int (t.2.2.2.2 3), .int (t.2.2.2.2 4), .ref (ad 65), .ref (ad 66), .ref (ad 67), .ref (ad 68), .long v_m_po, .long v_m_de]))]) rfl ?_
  refine y_aload_n d_Mm_minutes_5 rfl 0 rfl ?_
  refine y_iload_n d_Mm_minutes_6 rfl 1 rfl ?_
  refine y_iconst d_Mm_minutes_7 (v := 1) (by decide) ?_
  refine y_bipush d_Mm_minutes_8 (v := 60) (by decide) ?_
  refine y_callS (As := [.int x, .int 1, .int 60]) (rest := [.ref (ad 52)]) (csC := []) (is := []) ln_Mm_87 w_st_Mm_in ok_Mm_minutes_Mm_in d_Mm_minutes_10 (C_Mm_in g x 1 60) rfl rfl (Nat.le_of_ble_eq_true rfl) rfl (by decide) (by omega) (by omega) (fun E cs1 hx => ?_) (fun v cs1 hx => ?_)
  · exact absurd hx.1 (by simp)
  · obtain ⟨e1, rfl⟩ := hx
    rw [if_neg hw] at e1
    cases e1
    refine ⟨rfl, ?_⟩
    refine y_st (st2 := [.int 0, .ref (ad 52)]) rfl ?_
    refine y_cs (cs2 := [((ad 52), .inr (12, [.int 0, .ref (ad 53), .int (nI t.2.2.2.1), .ref (ad 54), .ref (ad 55), .ref (ad 56), .ref (ad 57), .ref (ad 58), .ref (ad 59), .ref (ad 60), .ref (ad 61), .int v_m_cl, .int v_m_wa, .int v_m_co_, .int v_m_fi, .int v_m_bu, .int v_m_ho, .ref (ad 62), .ref (ad 63), .ref (ad 64), .int v_m_lh, .int v_m_mg, .int v_m_wd, .int (t.2.2.2.2 3), .int (t.2.2.2.2 4), .ref (ad 65), .ref (ad 66), .ref (ad 67), .ref (ad 68), .long v_m_po, .long v_m_de]))]) rfl ?_
    refine y_if_ne (tgt := 20) d_Mm_minutes_13 (by decide) (fun c_13 => ?_) (fun c_13 => ?_)
    · exact absurd c_13 (by decide)
    · refine y_iconst d_Mm_minutes_16 (v := 1) (by decide) ?_
      refine y_goto (tgt := 21) d_Mm_minutes_17 (by decide) ?_
      refine y_iconst d_Mm_minutes_21 (v := 1) (by decide) ?_
      refine y_callV (As := [.int 1, .int 1]) (rest := []) (csC := [((ad 52), .inr (12, [.int 0, .ref (ad 53), .int (nI t.2.2.2.1), .ref (ad 54), .ref (ad 55), .ref (ad 56), .ref (ad 57), .ref (ad 58), .ref (ad 59), .ref (ad 60), .ref (ad 61), .int v_m_cl, .int v_m_wa, .int v_m_co_, .int v_m_fi, .int v_m_bu, .int v_m_ho, .ref (ad 62), .ref (ad 63), .ref (ad 64), .int v_m_lh, .int v_m_mg, .int v_m_wd, .int (t.2.2.2.2 3), .int (t.2.2.2.2 4), .ref (ad 65), .ref (ad 66), .ref (ad 67), .ref (ad 68), .long v_m_po, .long v_m_de]))]) (is := [0]) (q0 := 0) rfl rfl ln_Mm_103 w_im_Mm_fails w_se_Mm_fails ok_Mm_minutes_Mm_fails d_Mm_minutes_22 (C_Mm_fails1 g (ad 52) (ad 53) (ad 54) (ad 55) (ad 56) (ad 57) (ad 58) (ad 59) (ad 60) (ad 61) (ad 62) (ad 63) (ad 64) (ad 65) (ad 66) (ad 67) (ad 68) 0 (nI t.2.2.2.1) v_m_cl v_m_wa v_m_co_ v_m_fi v_m_bu v_m_ho v_m_lh v_m_mg v_m_wd (t.2.2.2.2 3) (t.2.2.2.2 4) v_m_po v_m_de) rfl rfl (Nat.le_of_ble_eq_true rfl) rfl (by decide) (by omega) (by omega) (fun E cs1 hx => ?_) (fun v cs1 hx => ?_)
      · exact absurd hx.1 (by simp)
      · obtain ⟨e1, rfl⟩ := hx
        cases e1
        refine ⟨rfl, ?_⟩
        refine y_st (st2 := [.int 1]) rfl ?_
        refine y_cs (cs2 := [((ad 52), .inr (12, [.int 1, .ref (ad 53), .int (nI t.2.2.2.1), .ref (ad 54), .ref (ad 55), .ref (ad 56), .ref (ad 57), .ref (ad 58), .ref (ad 59), .ref (ad 60), .ref (ad 61), .int v_m_cl, .int v_m_wa, .int v_m_co_, .int v_m_fi, .int v_m_bu, .int v_m_ho, .ref (ad 62), .ref (ad 63), .ref (ad 64), .int v_m_lh, .int v_m_mg, .int v_m_wd, .int (t.2.2.2.2 3), .int (t.2.2.2.2 4), .ref (ad 65), .ref (ad 66), .ref (ad 67), .ref (ad 68), .long v_m_po, .long v_m_de]))]) rfl ?_
        refine y_if_eq (tgt := 30) d_Mm_minutes_25 (by decide) (fun c_25 => ?_) (fun c_25 => ?_)
        · exact absurd c_25 (by decide)
        · refine y_iconst d_Mm_minutes_28 (v := 0) (by decide) ?_
          refine y_iret d_Mm_minutes_29 rfl rfl ?_
          exact fun w1 h1 => ⟨⟨_, rfl⟩, (hI.gen (t2 := t) (is := [52]) (L2 := []) h1 rfl ⟨kd_52.mpr ⟨_, _, _, _, _, _, _, _, _, _, _, _, rfl⟩, trivial⟩ (by decide) (by decide) (fun _ h => nomatch h) (fun _ h => nomatch h) (fun _ _ _ _ h => h) (fun h => h))⟩
theorem d_Mm_minutes_135 : decode prog_14_method_64_code 135 = .ok (.aload_n 0, 1) := by decide +kernel
theorem d_Mm_minutes_136 : decode prog_14_method_64_code 136 = .ok (.getfield 257, 3) := by decide +kernel
theorem d_Mm_minutes_99 : decode prog_14_method_64_code 99 = .ok (.aload_n 0, 1) := by decide +kernel
theorem d_Mm_minutes_100 : decode prog_14_method_64_code 100 = .ok (.getfield 75, 3) := by decide +kernel
theorem d_Mm_minutes_103 : decode prog_14_method_64_code 103 = .ok (.iload_n 2, 1) := by decide +kernel
theorem d_Mm_minutes_104 : decode prog_14_method_64_code 104 = .ok (.invokevirtual 211, 3) := by decide +kernel
theorem ok_Mm_minutes_AL_get : z_ok M_Mm_minutes M_AL_get 1 := ⟨z_mem (i := 477) (by decide +kernel) (by decide +kernel), rfl, ⟨by decide +kernel, by decide +kernel, by decide +kernel⟩, ⟨by decide, by decide⟩, z_mem (i := 70) (by decide +kernel) (by decide +kernel), rfl⟩
theorem d_Mm_minutes_107 : decode prog_14_method_64_code 107 = .ok (.checkcast 215, 3) := by decide +kernel
theorem d_Mm_minutes_110 : decode prog_14_method_64_code 110 = .ok (.iconst 4, 1) := by decide +kernel
theorem d_Mm_minutes_111 : decode prog_14_method_64_code 111 = .ok (.dup2, 1) := by decide +kernel
theorem d_Mm_minutes_112 : decode prog_14_method_64_code 112 = .ok (.iaload, 1) := by decide +kernel
theorem d_Mm_minutes_113 : decode prog_14_method_64_code 113 = .ok (.iload_n 1, 1) := by decide +kernel
theorem d_Mm_minutes_114 : decode prog_14_method_64_code 114 = .ok (.iadd, 1) := by decide +kernel
theorem d_Mm_minutes_115 : decode prog_14_method_64_code 115 = .ok (.iastore, 1) := by decide +kernel
theorem d_Mm_minutes_116 : decode prog_14_method_64_code 116 = .ok (.iinc 2 1, 3) := by decide +kernel
theorem d_Mm_minutes_119 : decode prog_14_method_64_code 119 = .ok (.goto (-31), 3) := by decide +kernel
theorem d_Mm_minutes_46 : decode prog_14_method_64_code 46 = .ok (.aload_n 0, 1) := by decide +kernel
theorem d_Mm_minutes_47 : decode prog_14_method_64_code 47 = .ok (.bipush 20, 2) := by decide +kernel
theorem d_Mm_minutes_49 : decode prog_14_method_64_code 49 = .ok (.aload_n 0, 1) := by decide +kernel
theorem d_Mm_minutes_50 : decode prog_14_method_64_code 50 = .ok (.getfield 257, 3) := by decide +kernel
theorem d_Mm_minutes_53 : decode prog_14_method_64_code 53 = .ok (.iconst 4, 1) := by decide +kernel
theorem d_Mm_minutes_54 : decode prog_14_method_64_code 54 = .ok (.isub, 1) := by decide +kernel
theorem d_Mm_minutes_55 : decode prog_14_method_64_code 55 = .ok (.invokestatic 193, 3) := by decide +kernel
theorem d_Mm_minutes_58 : decode prog_14_method_64_code 58 = .ok (.putfield 257, 3) := by decide +kernel
theorem d_Mm_minutes_61 : decode prog_14_method_64_code 61 = .ok (.aload_n 0, 1) := by decide +kernel
theorem d_Mm_minutes_62 : decode prog_14_method_64_code 62 = .ok (.dup, 1) := by decide +kernel
theorem d_Mm_minutes_63 : decode prog_14_method_64_code 63 = .ok (.getfield 260, 3) := by decide +kernel
theorem d_Mm_minutes_66 : decode prog_14_method_64_code 66 = .ok (.aload_n 0, 1) := by decide +kernel
theorem d_Mm_minutes_67 : decode prog_14_method_64_code 67 = .ok (.getfield 260, 3) := by decide +kernel
theorem d_Mm_minutes_70 : decode prog_14_method_64_code 70 = .ok (.bipush 19, 2) := by decide +kernel
theorem d_Mm_minutes_72 : decode prog_14_method_64_code 72 = .ok (.iadd, 1) := by decide +kernel
theorem d_Mm_minutes_73 : decode prog_14_method_64_code 73 = .ok (.bipush 20, 2) := by decide +kernel
theorem d_Mm_minutes_75 : decode prog_14_method_64_code 75 = .ok (.idiv, 1) := by decide +kernel
theorem d_Mm_minutes_76 : decode prog_14_method_64_code 76 = .ok (.isub, 1) := by decide +kernel
theorem d_Mm_minutes_77 : decode prog_14_method_64_code 77 = .ok (.putfield 260, 3) := by decide +kernel
theorem d_Mm_minutes_80 : decode prog_14_method_64_code 80 = .ok (.iinc 2 1, 3) := by decide +kernel
theorem d_Mm_minutes_83 : decode prog_14_method_64_code 83 = .ok (.goto (-51), 3) := by decide +kernel
set_option maxHeartbeats 4000000 in
set_option maxRecDepth 100000 in
theorem L_Q_Mm_minutesN_88 (g : zG) {ad : Nat → Nat} {t : zTT} {u : zNN} {w : zW} (hI : IV g ad t u w) (a : Nat) (ha : a ≤ 60) (hw : 1 ≤ nI a ∧ nI a ≤ 60) : ∀ (d i : Nat) (w : zW), IV g ad t u w → i ≤ u.1 4 → u.1 4 < i + d → DW g M_Mm_minutes (fun o w1 => (∃ v : Int32, o = .inl (some (.int v))) ∧ IV g ad t u w1) w 88 [(2, .int (nI i)), (0, .ref (ad 52)), (1, .int (nI a))] [] 0 0 := by
  clear hI w
  intro d
  induction d with
  | zero => intro i w  hI h1 h2; exact absurd h2 (by omega)
  | succ d ih =>
    intro i w  hI h1 h2
    obtain ⟨e_m, wf_m, k_m⟩ := hI.1.2 52 (by decide)
    obtain ⟨v_m_th, v_m_cl, v_m_wa, v_m_co_, v_m_fi, v_m_bu, v_m_ho, v_m_lh, v_m_mg, v_m_wd, v_m_po, v_m_de, rfl⟩ := kd_52.mp k_m
    obtain ⟨e_mi, wf_mi, k_mi⟩ := hI.1.2 63 (by decide)
    obtain ⟨v_mi_f, rfl⟩ := kd_63.mp k_mi
    have h33 := hI.n5 4 (by decide)
    refine y_base (hI.1.I [52, 63] [((ad 52), .inr (12, [.int v_m_th, .ref (ad 53), .int (nI t.2.2.2.1), .ref (ad 54), .ref (ad 55), .ref (ad 56), .ref (ad 57), .ref (ad 58), .ref (ad 59), .ref (ad 60), .ref (ad 61), .int v_m_cl, .int v_m_wa, .int v_m_co_, .int v_m_fi, .int v_m_bu, .int v_m_ho, .ref (ad 62), .ref (ad 63), .ref (ad 64), .int v_m_lh, .int v_m_mg, .int v_m_wd, .int (t.2.2.2.2 3), .int (t.2.2.2.2 4), .ref (ad 65), .ref (ad 66), .ref (ad 67), .ref (ad 68), .long v_m_po, .long v_m_de])), ((ad 63), .inl (0, 4, .inl v_mi_f))] rfl (by decide) (by decide) (List.forall_mem_cons.mpr ⟨wf_m, (List.forall_mem_cons.mpr ⟨wf_mi, (fun _ h => nomatch h)⟩)⟩)) ?_
    refine y_iload_n d_Mm_minutes_88 rfl 0 rfl ?_
    refine y_aload_n d_Mm_minutes_89 rfl 1 rfl ?_
    refine y_get fs_Mm_75 d_Mm_minutes_90 (q0 := 0) rfl rfl ?_
    refine yw_callVL (As := []) (rest := [.int (nI i)]) (ci := 13) rfl (fun wA hA => ((hI.gen (t2 := t) (is := [52, 63]) (L2 := []) hA rfl ⟨kd_52.mpr ⟨_, _, _, _, _, _, _, _, _, _, _, _, rfl⟩, kd_63.mpr ⟨_, rfl⟩, trivial⟩ (by decide) (by decide) (fun _ h => nomatch h) (fun _ h => nomatch h) (fun _ _ _ _ h => h) (fun h => h)).2.1.1 4 (by decide)).ob) ln_Mm_208 w_im_AL_size w_se_AL_size ok_Mm_minutes_AL_size d_Mm_minutes_93 (fun wA hA => Q_size ((hI.gen (t2 := t) (is := [52, 63]) (L2 := []) hA rfl ⟨kd_52.mpr ⟨_, _, _, _, _, _, _, _, _, _, _, _, rfl⟩, kd_63.mpr ⟨_, rfl⟩, trivial⟩ (by decide) (by decide) (fun _ h => nomatch h) (fun _ h => nomatch h) (fun _ _ _ _ h => h) (fun h => h)).2.1.1 4 (by decide))) rfl rfl (Nat.le_of_ble_eq_true rfl) (by omega) (by omega) (fun wA93 hA93 E wB93 hx => ?_) (fun wA93 hA93 v wB93 hx => ?_)
    · exact absurd hx.1 (by simp)
    · obtain ⟨e1, e2⟩ := hx
      cases e1
      refine yw_st (st2 := [.int (nI (u.1 4)), .int (nI i)]) rfl ?_
      subst e2
      refine y_go hA93 ?_
      refine y_icmp_ge (tgt := 122) d_Mm_minutes_96 (by decide) (fun c_96 => ?_) (fun c_96 => ?_)
      · have hn := z_le (a := (u.1 4)) (b := i) (by omega) (by omega) c_96
        refine y_aload_n d_Mm_minutes_122 rfl 1 rfl ?_
        refine y_get fs_Mm_62 d_Mm_minutes_123 (q0 := 0) rfl rfl ?_
        refine y_iconst d_Mm_minutes_126 (v := 1) (by decide) ?_
        refine y_iald d_Mm_minutes_127 (q0 := 1) rfl (fun q => q.elim (by decide) (by decide)) (v := v_mi_f 1) rfl ?_
        refine y_if_ne (tgt := 135) d_Mm_minutes_128 (by decide) (fun c_128 => ?_) (fun c_128 => ?_)
        · refine y_aload_n d_Mm_minutes_135 rfl 1 rfl ?_
          refine y_get fs_Mm_257 d_Mm_minutes_136 (q0 := 0) rfl rfl ?_
          refine y_iret d_Mm_minutes_139 rfl rfl ?_
          exact fun w1 h1 => ⟨⟨_, rfl⟩, (hI.gen (t2 := t) (is := [52, 63]) (L2 := []) h1 rfl ⟨kd_52.mpr ⟨_, _, _, _, _, _, _, _, _, _, _, _, rfl⟩, kd_63.mpr ⟨_, rfl⟩, trivial⟩ (by decide) (by decide) (fun _ h => nomatch h) (fun _ h => nomatch h) (fun _ _ _ _ h => h) (fun h => h))⟩
        · refine y_iconst d_Mm_minutes_131 (v := 0) (by decide) ?_
          refine y_goto (tgt := 139) d_Mm_minutes_132 (by decide) ?_
          refine y_iret d_Mm_minutes_139 rfl rfl ?_
          exact fun w1 h1 => ⟨⟨_, rfl⟩, (hI.gen (t2 := t) (is := [52, 63]) (L2 := []) h1 rfl ⟨kd_52.mpr ⟨_, _, _, _, _, _, _, _, _, _, _, _, rfl⟩, kd_63.mpr ⟨_, rfl⟩, trivial⟩ (by decide) (by decide) (fun _ h => nomatch h) (fun _ h => nomatch h) (fun _ _ _ _ h => h) (fun h => h))⟩
      · have hn := z_nle (a := (u.1 4)) (b := i) (by omega) (by omega) c_96
        refine y_aload_n d_Mm_minutes_99 rfl 1 rfl ?_
        refine y_get fs_Mm_75 d_Mm_minutes_100 (q0 := 0) rfl rfl ?_
        refine y_iload_n d_Mm_minutes_103 rfl 0 rfl ?_
        refine yw_callVL (As := [.int (nI i)]) (rest := []) (ci := 13) rfl (fun wA hA => ((hI.gen (t2 := t) (is := [52, 63]) (L2 := []) hA rfl ⟨kd_52.mpr ⟨_, _, _, _, _, _, _, _, _, _, _, _, rfl⟩, kd_63.mpr ⟨_, rfl⟩, trivial⟩ (by decide) (by decide) (fun _ h => nomatch h) (fun _ h => nomatch h) (fun _ _ _ _ h => h) (fun h => h)).2.1.1 4 (by decide)).ob) ln_Mm_211 w_im_AL_get w_se_AL_get ok_Mm_minutes_AL_get d_Mm_minutes_104 (fun wA hA => Q_get ((hI.gen (t2 := t) (is := [52, 63]) (L2 := []) hA rfl ⟨kd_52.mpr ⟨_, _, _, _, _, _, _, _, _, _, _, _, rfl⟩, kd_63.mpr ⟨_, rfl⟩, trivial⟩ (by decide) (by decide) (fun _ h => nomatch h) (fun _ h => nomatch h) (fun _ _ _ _ h => h) (fun h => h)).2.1.1 4 (by decide)) hn) rfl rfl (Nat.le_of_ble_eq_true rfl) (by omega) (by omega) (fun wA104 hA104 E wB104 hx => ?_) (fun wA104 hA104 v wB104 hx => ?_)
        · exact absurd hx.1 (by simp)
        · obtain ⟨e1, e2⟩ := hx
          cases e1
          refine yw_st (st2 := [.ref (u.2.2 4 i)]) rfl ?_
          subst e2
          refine y_go hA104 ?_
          refine y_end (fun wC1 hC1 => ?_)
          have hI9 := (hI.gen (t2 := t) (is := [52, 63]) (L2 := []) hC1 rfl ⟨kd_52.mpr ⟨_, _, _, _, _, _, _, _, _, _, _, _, rfl⟩, kd_63.mpr ⟨_, rfl⟩, trivial⟩ (by decide) (by decide) (fun _ h => nomatch h) (fun _ h => nomatch h) (fun _ _ _ _ h => h) (fun h => h))
          have hI := hI9
          obtain ⟨nf_c, f_c, p_c, hw_c, h0_c⟩ := hI.2.1.2.1 4 (by decide) i hn
          refine y_base (cs := [((ad 52), .inr (12, [.int v_m_th, .ref (ad 53), .int (nI t.2.2.2.1), .ref (ad 54), .ref (ad 55), .ref (ad 56), .ref (ad 57), .ref (ad 58), .ref (ad 59), .ref (ad 60), .ref (ad 61), .int v_m_cl, .int v_m_wa, .int v_m_co_, .int v_m_fi, .int v_m_bu, .int v_m_ho, .ref (ad 62), .ref (ad 63), .ref (ad 64), .int v_m_lh, .int v_m_mg, .int v_m_wd, .int (t.2.2.2.2 3), .int (t.2.2.2.2 4), .ref (ad 65), .ref (ad 66), .ref (ad 67), .ref (ad 68), .long v_m_po, .long v_m_de])), ((ad 63), .inl (0, 4, .inl v_mi_f)), ((u.2.2 4 i), .inl (0, 5, .inl f_c))]) (z_I.kd (List.forall_mem_cons.mpr ⟨hC1.at (q0 := 0) rfl, (List.forall_mem_cons.mpr ⟨hC1.at (q0 := 1) rfl, (List.forall_mem_cons.mpr ⟨hw_c, (fun _ h => nomatch h)⟩)⟩)⟩) (by simp [z_kd])) ?_
          refine y_castA (t := 0) (by decide) lk_Mm_215 d_Mm_minutes_107 (q0 := 2) rfl ?_
          refine y_iconst d_Mm_minutes_110 (v := 4) (by decide) ?_
          refine y_dup2_11 d_Mm_minutes_111 rfl rfl ?_
          refine y_iald d_Mm_minutes_112 (q0 := 2) rfl (fun q => q.elim (by decide) (by decide)) (v := f_c 4) rfl ?_
          refine y_iload_n d_Mm_minutes_113 rfl 2 rfl ?_
          refine y_iadd d_Mm_minutes_114 (v := (f_c 4) + (nI a)) rfl ?_
          refine y_iast d_Mm_minutes_115 (q0 := 2) rfl (fun q => q.elim (by decide) (by decide)) (f' := upd f_c 4 ((f_c 4) + (nI a))) rfl (cs' := [((ad 52), .inr (12, [.int v_m_th, .ref (ad 53), .int (nI t.2.2.2.1), .ref (ad 54), .ref (ad 55), .ref (ad 56), .ref (ad 57), .ref (ad 58), .ref (ad 59), .ref (ad 60), .ref (ad 61), .int v_m_cl, .int v_m_wa, .int v_m_co_, .int v_m_fi, .int v_m_bu, .int v_m_ho, .ref (ad 62), .ref (ad 63), .ref (ad 64), .int v_m_lh, .int v_m_mg, .int v_m_wd, .int (t.2.2.2.2 3), .int (t.2.2.2.2 4), .ref (ad 65), .ref (ad 66), .ref (ad 67), .ref (ad 68), .long v_m_po, .long v_m_de])), ((ad 63), .inl (0, 4, .inl v_mi_f)), ((u.2.2 4 i), .inl (0, 5, .inl (upd f_c 4 ((f_c 4) + (nI a)))))]) rfl ?_
          refine y_iinc (lv' := [(2, .int (nI (i + 1))), (0, .ref (ad 52)), (1, .int (nI a))]) (v := nI (i + 1)) d_Mm_minutes_116 (j := 0) rfl (nI_add _ _) (by decide) rfl ?_
          refine y_goto (tgt := 88) d_Mm_minutes_119 (by decide) ?_
          refine y_end (fun wC2 hC2 => ?_)
          have hI9 := (hI.gen (t2 := t) (is := [52, 63]) (L2 := [(u.2.2 4 i)]) hC2 rfl ⟨kd_52.mpr ⟨_, _, _, _, _, _, _, _, _, _, _, _, rfl⟩, kd_63.mpr ⟨_, rfl⟩, trivial⟩ (by decide) (by decide) (List.forall_mem_cons.mpr ⟨nf_c, (fun _ h => nomatch h)⟩) (List.forall_mem_cons.mpr ⟨⟨_, _, hw_c, hC2.at (q0 := 2) rfl, Or.inr (Or.inr (Or.inl ⟨_, _, rfl, rfl, rfl⟩))⟩, (fun _ h => nomatch h)⟩) (fun _ _ _ _ h => h) (fun h => h))
          exact ih (i + 1) _  hI9 (by omega) (by omega)
set_option maxHeartbeats 4000000 in
set_option maxRecDepth 100000 in
theorem L_Q_Mm_minutesN_32 (g : zG) {ad : Nat → Nat} {t : zTT} {u : zNN} {w : zW} (hI : IV g ad t u w) (a : Nat) (ha : a ≤ 60) (hw : 1 ≤ nI a ∧ nI a ≤ 60) : ∀ (d i : Nat) (w : zW), IV g ad t u w → i ≤ a → a < i + d → DW g M_Mm_minutes (fun o w1 => (∃ v : Int32, o = .inl (some (.int v))) ∧ IV g ad t u w1) w 32 [(2, .int (nI i)), (0, .ref (ad 52)), (1, .int (nI a))] [] 0 0 := by
  clear hI w
  intro d
  induction d with
  | zero => intro i w  hI h1 h2; exact absurd h2 (by omega)
  | succ d ih =>
    intro i w  hI h1 h2
    obtain ⟨e_m, wf_m, k_m⟩ := hI.1.2 52 (by decide)
    obtain ⟨v_m_th, v_m_cl, v_m_wa, v_m_co_, v_m_fi, v_m_bu, v_m_ho, v_m_lh, v_m_mg, v_m_wd, v_m_po, v_m_de, rfl⟩ := kd_52.mp k_m
    obtain ⟨e_mi, wf_mi, k_mi⟩ := hI.1.2 63 (by decide)
    obtain ⟨v_mi_f, rfl⟩ := kd_63.mp k_mi
    refine y_base (hI.1.I [52, 63] [((ad 52), .inr (12, [.int v_m_th, .ref (ad 53), .int (nI t.2.2.2.1), .ref (ad 54), .ref (ad 55), .ref (ad 56), .ref (ad 57), .ref (ad 58), .ref (ad 59), .ref (ad 60), .ref (ad 61), .int v_m_cl, .int v_m_wa, .int v_m_co_, .int v_m_fi, .int v_m_bu, .int v_m_ho, .ref (ad 62), .ref (ad 63), .ref (ad 64), .int v_m_lh, .int v_m_mg, .int v_m_wd, .int (t.2.2.2.2 3), .int (t.2.2.2.2 4), .ref (ad 65), .ref (ad 66), .ref (ad 67), .ref (ad 68), .long v_m_po, .long v_m_de])), ((ad 63), .inl (0, 4, .inl v_mi_f))] rfl (by decide) (by decide) (List.forall_mem_cons.mpr ⟨wf_m, (List.forall_mem_cons.mpr ⟨wf_mi, (fun _ h => nomatch h)⟩)⟩)) ?_
    refine y_iload_n d_Mm_minutes_32 rfl 0 rfl ?_
    refine y_iload_n d_Mm_minutes_33 rfl 2 rfl ?_
    refine y_icmp_ge (tgt := 86) d_Mm_minutes_34 (by decide) (fun c_34 => ?_) (fun c_34 => ?_)
    · refine y_iconst d_Mm_minutes_86 (v := 0) (by decide) ?_
      refine y_istore_n (lv' := [(2, .int 0), (0, .ref (ad 52)), (1, .int (nI a))]) d_Mm_minutes_87 rfl (by decide) rfl ?_
      refine y_end (fun wC3 hC3 => ?_)
      have hI9 := (hI.gen (t2 := t) (is := [52, 63]) (L2 := []) hC3 rfl ⟨kd_52.mpr ⟨_, _, _, _, _, _, _, _, _, _, _, _, rfl⟩, kd_63.mpr ⟨_, rfl⟩, trivial⟩ (by decide) (by decide) (fun _ h => nomatch h) (fun _ h => nomatch h) (fun _ _ _ _ h => h) (fun h => h))
      exact L_Q_Mm_minutesN_88 g hI9 a ha hw (u.1 4 + 1) 0 _  hI9 (Nat.zero_le _) (by omega)
    · have hn := z_nle (a := a) (b := i) (by omega) (by omega) c_34
      refine y_aload_n d_Mm_minutes_37 rfl 1 rfl ?_
      refine y_get fs_Mm_62 d_Mm_minutes_38 (q0 := 0) rfl rfl ?_
      refine y_iconst d_Mm_minutes_41 (v := 1) (by decide) ?_
      refine y_iald d_Mm_minutes_42 (q0 := 1) rfl (fun q => q.elim (by decide) (by decide)) (v := v_mi_f 1) rfl ?_
      refine y_if_le (tgt := 86) d_Mm_minutes_43 (by decide) (fun c_43 => ?_) (fun c_43 => ?_)
      · refine y_iconst d_Mm_minutes_86 (v := 0) (by decide) ?_
        refine y_istore_n (lv' := [(2, .int 0), (0, .ref (ad 52)), (1, .int (nI a))]) d_Mm_minutes_87 rfl (by decide) rfl ?_
        refine y_end (fun wC4 hC4 => ?_)
        have hI9 := (hI.gen (t2 := t) (is := [52, 63]) (L2 := []) hC4 rfl ⟨kd_52.mpr ⟨_, _, _, _, _, _, _, _, _, _, _, _, rfl⟩, kd_63.mpr ⟨_, rfl⟩, trivial⟩ (by decide) (by decide) (fun _ h => nomatch h) (fun _ h => nomatch h) (fun _ _ _ _ h => h) (fun h => h))
        exact L_Q_Mm_minutesN_88 g hI9 a ha hw (u.1 4 + 1) 0 _  hI9 (Nat.zero_le _) (by omega)
      · refine y_aload_n d_Mm_minutes_46 rfl 1 rfl ?_
        refine y_bipush d_Mm_minutes_47 (v := 20) (by decide) ?_
        refine y_aload_n d_Mm_minutes_49 rfl 1 rfl ?_
        refine y_get fs_Mm_257 d_Mm_minutes_50 (q0 := 0) rfl rfl ?_
        refine y_iconst d_Mm_minutes_53 (v := 4) (by decide) ?_
        refine y_isub d_Mm_minutes_54 (v := v_m_lh - 4) rfl ?_
        refine y_max (v := (if 20 < v_m_lh - 4 then v_m_lh - 4 else 20)) ln_Mm_193 w_mmax w_mi w_cmax d_Mm_minutes_55 (by decide) (by decide) (Nat.le_of_ble_eq_true rfl) rfl ?_
        refine y_put fp_Mm_257 d_Mm_minutes_58 (fun h => nomatch h) rfl rfl (q0 := 0) rfl (Nat.le_of_ble_eq_true rfl) (cs' := [((ad 52), .inr (12, [.int v_m_th, .ref (ad 53), .int (nI t.2.2.2.1), .ref (ad 54), .ref (ad 55), .ref (ad 56), .ref (ad 57), .ref (ad 58), .ref (ad 59), .ref (ad 60), .ref (ad 61), .int v_m_cl, .int v_m_wa, .int v_m_co_, .int v_m_fi, .int v_m_bu, .int v_m_ho, .ref (ad 62), .ref (ad 63), .ref (ad 64), .int (if 20 < v_m_lh - 4 then v_m_lh - 4 else 20), .int v_m_mg, .int v_m_wd, .int (t.2.2.2.2 3), .int (t.2.2.2.2 4), .ref (ad 65), .ref (ad 66), .ref (ad 67), .ref (ad 68), .long v_m_po, .long v_m_de])), ((ad 63), .inl (0, 4, .inl v_mi_f))]) rfl ?_
        refine y_aload_n d_Mm_minutes_61 rfl 1 rfl ?_
        refine y_dup d_Mm_minutes_62 rfl ?_
        refine y_get fs_Mm_260 d_Mm_minutes_63 (q0 := 0) rfl rfl ?_
        refine y_aload_n d_Mm_minutes_66 rfl 1 rfl ?_
        refine y_get fs_Mm_260 d_Mm_minutes_67 (q0 := 0) rfl rfl ?_
        refine y_bipush d_Mm_minutes_70 (v := 19) (by decide) ?_
        refine y_iadd d_Mm_minutes_72 (v := v_m_mg + 19) rfl ?_
        refine y_bipush d_Mm_minutes_73 (v := 20) (by decide) ?_
        refine y_idiv d_Mm_minutes_75 (v := (v_m_mg + 19) / 20) (by decide) rfl ?_
        refine y_isub d_Mm_minutes_76 (v := v_m_mg - ((v_m_mg + 19) / 20)) rfl ?_
        refine y_put fp_Mm_260 d_Mm_minutes_77 (fun h => nomatch h) rfl rfl (q0 := 0) rfl (Nat.le_of_ble_eq_true rfl) (cs' := [((ad 52), .inr (12, [.int v_m_th, .ref (ad 53), .int (nI t.2.2.2.1), .ref (ad 54), .ref (ad 55), .ref (ad 56), .ref (ad 57), .ref (ad 58), .ref (ad 59), .ref (ad 60), .ref (ad 61), .int v_m_cl, .int v_m_wa, .int v_m_co_, .int v_m_fi, .int v_m_bu, .int v_m_ho, .ref (ad 62), .ref (ad 63), .ref (ad 64), .int (if 20 < v_m_lh - 4 then v_m_lh - 4 else 20), .int (v_m_mg - ((v_m_mg + 19) / 20)), .int v_m_wd, .int (t.2.2.2.2 3), .int (t.2.2.2.2 4), .ref (ad 65), .ref (ad 66), .ref (ad 67), .ref (ad 68), .long v_m_po, .long v_m_de])), ((ad 63), .inl (0, 4, .inl v_mi_f))]) rfl ?_
        refine y_iinc (lv' := [(2, .int (nI (i + 1))), (0, .ref (ad 52)), (1, .int (nI a))]) (v := nI (i + 1)) d_Mm_minutes_80 (j := 0) rfl (nI_add _ _) (by decide) rfl ?_
        refine y_goto (tgt := 32) d_Mm_minutes_83 (by decide) ?_
        refine y_end (fun wC5 hC5 => ?_)
        have hI9 := (hI.gen (t2 := t) (is := [52, 63]) (L2 := []) hC5 rfl ⟨kd_52.mpr ⟨_, _, _, _, _, _, _, _, _, _, _, _, rfl⟩, kd_63.mpr ⟨_, rfl⟩, trivial⟩ (by decide) (by decide) (fun _ h => nomatch h) (fun _ h => nomatch h) (fun _ _ _ _ h => h) (fun h => h))
        exact ih (i + 1) _  hI9 (by omega) (by omega)
set_option maxHeartbeats 4000000 in
set_option maxRecDepth 100000 in
theorem Q_Mm_minutesN {g : zG} {ad : Nat → Nat} {t : zTT} {u : zNN} {w : zW} (hI : IV g ad t u w) (a : Nat) (ha : a ≤ 60) (hw : 1 ≤ nI a ∧ nI a ≤ 60) : zMB g M_Mm_minutes [.ref (ad 52), .int (nI a)] w (fun o w1 => (∃ v : Int32, o = .inl (some (.int v))) ∧ IV g ad t u w1) 0 0 := by
  obtain ⟨e_m, wf_m, k_m⟩ := hI.1.2 52 (by decide)
  obtain ⟨v_m_th, v_m_cl, v_m_wa, v_m_co_, v_m_fi, v_m_bu, v_m_ho, v_m_lh, v_m_mg, v_m_wd, v_m_po, v_m_de, rfl⟩ := kd_52.mp k_m
  obtain ⟨e_mi, wf_mi, k_mi⟩ := hI.1.2 63 (by decide)
  obtain ⟨v_mi_f, rfl⟩ := kd_63.mp k_mi
  refine y_of (by decide) rfl (Nat.le_of_ble_eq_true rfl) (y_base (cs := [((ad 52), .inr (12, [.int v_m_th, .ref (ad 53), .int (nI t.2.2.2.1), .ref (ad 54), .ref (ad 55), .ref (ad 56), .ref (ad 57), .ref (ad 58), .ref (ad 59), .ref (ad 60), .ref (ad 61), .int v_m_cl, .int v_m_wa, .int v_m_co_, .int v_m_fi, .int v_m_bu, .int v_m_ho, .ref (ad 62), .ref (ad 63), .ref (ad 64), .int v_m_lh, .int v_m_mg, .int v_m_wd, .int (t.2.2.2.2 3), .int (t.2.2.2.2 4), .ref (ad 65), .ref (ad 66), .ref (ad 67), .ref (ad 68), .long v_m_po, .long v_m_de])), ((ad 63), .inl (0, 4, .inl v_mi_f))]) (hI.1.I [52, 63] _ rfl (by decide) (by decide) (List.forall_mem_cons.mpr ⟨wf_m, (List.forall_mem_cons.mpr ⟨wf_mi, (fun _ h => nomatch h)⟩)⟩)) ?_)
  refine y_lvE (lv2 := [(0, .ref (ad 52)), (1, .int (nI a))]) rfl ?_
  refine y_aload_n d_Mm_minutes_0 rfl 0 rfl ?_
  refine y_iconst d_Mm_minutes_1 (v := 0) (by decide) ?_
  refine y_put fp_Mm_84 d_Mm_minutes_2 (fun h => nomatch h) rfl rfl (q0 := 0) rfl (Nat.le_of_ble_eq_true rfl) (cs' := [((ad 52), .inr (12, [.int 0, .ref (ad 53), .int (nI t.2.2.2.1), .ref (ad 54), .ref (ad 55), .ref (ad 56), .ref (ad 57), .ref (ad 58), .ref (ad 59), .ref (ad 60), .ref (ad 61), .int v_m_cl, .int v_m_wa, .int v_m_co_, .int v_m_fi, .int v_m_bu, .int v_m_ho, .ref (ad 62), .ref (ad 63), .ref (ad 64), .int v_m_lh, .int v_m_mg, .int v_m_wd, .int (t.2.2.2.2 3), .int (t.2.2.2.2 4), .ref (ad 65), .ref (ad 66), .ref (ad 67), .ref (ad 68), .long v_m_po, .long v_m_de])), ((ad 63), .inl (0, 4, .inl v_mi_f))]) rfl ?_
  refine y_aload_n d_Mm_minutes_5 rfl 0 rfl ?_
  refine y_iload_n d_Mm_minutes_6 rfl 1 rfl ?_
  refine y_iconst d_Mm_minutes_7 (v := 1) (by decide) ?_
  refine y_bipush d_Mm_minutes_8 (v := 60) (by decide) ?_
  refine y_callS (As := [.int (nI a), .int 1, .int 60]) (rest := [.ref (ad 52)]) (csC := []) (is := []) ln_Mm_87 w_st_Mm_in ok_Mm_minutes_Mm_in d_Mm_minutes_10 (C_Mm_in g (nI a) 1 60) rfl rfl (Nat.le_of_ble_eq_true rfl) rfl (by decide) (by omega) (by omega) (fun E cs1 hx => ?_) (fun v cs1 hx => ?_)
  · exact absurd hx.1 (by simp)
  · obtain ⟨e1, rfl⟩ := hx
    rw [if_pos hw] at e1
    cases e1
    refine ⟨rfl, ?_⟩
    refine y_st (st2 := [.int 1, .ref (ad 52)]) rfl ?_
    refine y_cs (cs2 := [((ad 52), .inr (12, [.int 0, .ref (ad 53), .int (nI t.2.2.2.1), .ref (ad 54), .ref (ad 55), .ref (ad 56), .ref (ad 57), .ref (ad 58), .ref (ad 59), .ref (ad 60), .ref (ad 61), .int v_m_cl, .int v_m_wa, .int v_m_co_, .int v_m_fi, .int v_m_bu, .int v_m_ho, .ref (ad 62), .ref (ad 63), .ref (ad 64), .int v_m_lh, .int v_m_mg, .int v_m_wd, .int (t.2.2.2.2 3), .int (t.2.2.2.2 4), .ref (ad 65), .ref (ad 66), .ref (ad 67), .ref (ad 68), .long v_m_po, .long v_m_de])), ((ad 63), .inl (0, 4, .inl v_mi_f))]) rfl ?_
    refine y_if_ne (tgt := 20) d_Mm_minutes_13 (by decide) (fun c_13 => ?_) (fun c_13 => ?_)
    · refine y_iconst d_Mm_minutes_20 (v := 0) (by decide) ?_
      refine y_iconst d_Mm_minutes_21 (v := 1) (by decide) ?_
      refine y_callV (As := [.int 0, .int 1]) (rest := []) (csC := [((ad 52), .inr (12, [.int 0, .ref (ad 53), .int (nI t.2.2.2.1), .ref (ad 54), .ref (ad 55), .ref (ad 56), .ref (ad 57), .ref (ad 58), .ref (ad 59), .ref (ad 60), .ref (ad 61), .int v_m_cl, .int v_m_wa, .int v_m_co_, .int v_m_fi, .int v_m_bu, .int v_m_ho, .ref (ad 62), .ref (ad 63), .ref (ad 64), .int v_m_lh, .int v_m_mg, .int v_m_wd, .int (t.2.2.2.2 3), .int (t.2.2.2.2 4), .ref (ad 65), .ref (ad 66), .ref (ad 67), .ref (ad 68), .long v_m_po, .long v_m_de]))]) (is := [0]) (q0 := 0) rfl rfl ln_Mm_103 w_im_Mm_fails w_se_Mm_fails ok_Mm_minutes_Mm_fails d_Mm_minutes_22 (C_Mm_fails0 g (ad 52) (ad 53) (ad 54) (ad 55) (ad 56) (ad 57) (ad 58) (ad 59) (ad 60) (ad 61) (ad 62) (ad 63) (ad 64) (ad 65) (ad 66) (ad 67) (ad 68) 0 (nI t.2.2.2.1) v_m_cl v_m_wa v_m_co_ v_m_fi v_m_bu v_m_ho v_m_lh v_m_mg v_m_wd (t.2.2.2.2 3) (t.2.2.2.2 4) v_m_po v_m_de 1) rfl rfl (Nat.le_of_ble_eq_true rfl) rfl (by decide) (by omega) (by omega) (fun E cs1 hx => ?_) (fun v cs1 hx => ?_)
      · exact absurd hx.1 (by simp)
      · obtain ⟨e1, rfl⟩ := hx
        cases e1
        refine ⟨rfl, ?_⟩
        refine y_st (st2 := [.int 0]) rfl ?_
        refine y_cs (cs2 := [((ad 52), .inr (12, [.int 0, .ref (ad 53), .int (nI t.2.2.2.1), .ref (ad 54), .ref (ad 55), .ref (ad 56), .ref (ad 57), .ref (ad 58), .ref (ad 59), .ref (ad 60), .ref (ad 61), .int v_m_cl, .int v_m_wa, .int v_m_co_, .int v_m_fi, .int v_m_bu, .int v_m_ho, .ref (ad 62), .ref (ad 63), .ref (ad 64), .int v_m_lh, .int v_m_mg, .int v_m_wd, .int (t.2.2.2.2 3), .int (t.2.2.2.2 4), .ref (ad 65), .ref (ad 66), .ref (ad 67), .ref (ad 68), .long v_m_po, .long v_m_de])), ((ad 63), .inl (0, 4, .inl v_mi_f))]) rfl ?_
        refine y_if_eq (tgt := 30) d_Mm_minutes_25 (by decide) (fun c_25 => ?_) (fun c_25 => ?_)
        · refine y_iconst d_Mm_minutes_30 (v := 0) (by decide) ?_
          refine y_istore_n (lv' := [(2, .int 0), (0, .ref (ad 52)), (1, .int (nI a))]) d_Mm_minutes_31 rfl (by decide) rfl ?_
          refine y_end (fun wC6 hC6 => ?_)
          have hI9 := (hI.gen (t2 := t) (is := [52, 63]) (L2 := []) hC6 rfl ⟨kd_52.mpr ⟨_, _, _, _, _, _, _, _, _, _, _, _, rfl⟩, kd_63.mpr ⟨_, rfl⟩, trivial⟩ (by decide) (by decide) (fun _ h => nomatch h) (fun _ h => nomatch h) (fun _ _ _ _ h => h) (fun h => h))
          exact L_Q_Mm_minutesN_32 g hI9 a ha hw (a + 1) 0 _  hI9 (Nat.zero_le _) (by omega)
        · exact absurd c_25 (by decide)
    · exact absurd c_13 (by decide)
