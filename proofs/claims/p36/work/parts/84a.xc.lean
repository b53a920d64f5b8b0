def TH (ad : Nat → Nat) (c : Int32) (w : zW) : Prop := ∃ fs : List Value, w (ad 52) = some (.inr (12, .int c :: fs))
def IVo (g : zG) (ad : Nat → Nat) (v : Int64) (t : zTT) (u : zNN) (w : zW) : Prop := ∃ s, (s 69).2.1 0 = v ∧ IV g ad (mg t s) u w
theorem IVo.of {g : zG} {ad : Nat → Nat} {v : Int64} {t T : zTT} {u : zNN} {w : zW} (h : IV g ad T u w) (h1 : ∀ i, ¬ tx i → T.1 i = t.1 i) (h2 : T.2 = t.2) (h3 : (T.1 69).2.1 0 = v) : IVo g ad v t u w := ⟨T.1, h3, by rw [mg_self t T h1 h2]; exact h⟩
theorem IVo.m {g : zG} {ad : Nat → Nat} {v : Int64} {t : zTT} {u : zNN} {w : zW} (h : IVo g ad v t u w) : IVm g ad t u w := by
  obtain ⟨s, -, h⟩ := h
  exact ⟨s, h⟩
theorem IVo.nil {g : zG} {ad : Nat → Nat} {v : Int64} {t : zTT} {u : zNN} {w w1 : zW} (h1 : z_I w w1 0 []) (hI : IVo g ad v t u w) : IVo g ad v t u w1 := (z_I.same (z_I.nil w) h1).symm ▸ hI
theorem IVo.zu {g : zG} {ad : Nat → Nat} {v : Int64} {t : zTT} {s : Nat → zP2} {V : Nat → Nat → zV} {l : List (Nat × zP2)} {u : zNN} {w : zW} (h : IV g ad (zup (mg t s).1 l, V) u w) (h3 : (zup (mg t s).1 l 69).2.1 0 = v) : IVo g ad v (zup t.1 l, V) u w := IVo.of h (fun i hi => zup_cg (P := fun i => ¬ tx i) (fun i hi => if_neg hi) l i hi) rfl h3
theorem IVo.tz {g : zG} {ad : Nat → Nat} {v : Int64} {t : zTT} {s : Nat → zP2} {l : List (Nat × zP2)} {u : zNN} {w : zW} (h : IV g ad (zup (mg t s).1 l, (mg t s).2) u w) (hl : ∀ i ∈ l.map Prod.fst, tx i) (h3 : (zup (mg t s).1 l 69).2.1 0 = v) : IVo g ad v t u w := IVo.of h (fun i hi => (zup_out (fun q => hi (hl i q))).trans (if_neg hi)) rfl h3
def zxA (Es : List String) (p : Int32 × Int32) (o : zO) : Prop := (p.1 = 0 ∧ o = .inl (some (.int p.2))) ∨ ∃ (k : Nat) (E : String), Es[k]? = some E ∧ p.1 = nI (k + 1) ∧ o = .inr E
theorem zxA.V {Es : List String} {p : Int32 × Int32} {v : Option Value} (h : zxA Es p (.inl v)) : ∃ x : Int32, v = some (.int x) ∧ p.1 = 0 ∧ p.2 = x := by
  rcases h with ⟨h1, h2⟩ | ⟨k, E, -, -, h2⟩
  · cases h2; exact ⟨_, rfl, h1, rfl⟩
  · cases h2
theorem zxA.X {Es : List String} {p : Int32 × Int32} {E : String} (h : zxA Es p (.inr E)) : ∃ k : Nat, Es[k]? = some E ∧ p.1 = nI (k + 1) := by
  rcases h with ⟨h1, h2⟩ | ⟨k, E2, h3, h4, h2⟩
  · cases h2
  · cases h2; exact ⟨k, h3, h4⟩
set_option maxHeartbeats 4000000 in
set_option maxRecDepth 100000 in
theorem Qe_Ip_waitingE {g : zG} {ad : Nat → Nat} {t : zTT} {u : zNN} {w : zW} (hI : IV g ad t u w) (x : Int32) (hx : ¬ ∃ k, k < u.1 0 ∧ x = nI k) : zMB g M_Ip_waiting [.ref (ad 0), .int x] w (fun o w1 => o = .inr "java/util/NoSuchElementException" ∧ IV g ad t u w1) 1 6 := by
  obtain ⟨e_a, wf_a, k_a⟩ := hI.1.2 0 (by decide)
  obtain rfl := kd_0.mp k_a
  refine y_of (by decide) rfl (Nat.le_of_ble_eq_true rfl) (y_base (cs := [((ad 0), .inr (11, [.ref (ad 1), .ref (ad 5), .ref (ad 18), .ref (ad 31), .ref (ad 32), .ref (ad 36), .ref (ad 42), .ref (ad 45), .ref (ad 47), .ref (ad 49), .ref (ad 50), .ref (ad 51)]))]) (hI.1.I [0] _ rfl (by decide) (by decide) (List.forall_mem_cons.mpr ⟨wf_a, (fun _ h => nomatch h)⟩)) ?_)
  refine y_lvE (lv2 := [(0, .ref (ad 0)), (1, .int x)]) rfl ?_
  refine y_iload_n d_Ip_waiting_0 rfl 1 rfl ?_
  refine y_if_lt (tgt := 15) d_Ip_waiting_1 (by decide) (fun c_1 => ?_) (fun c_1 => ?_)
  · refine y_throwXW tb_Ip_150_154 sr_Ip_420 d_Ip_waiting_15 d_Ip_waiting_18 d_Ip_waiting_19 d_Ip_waiting_22 d_Ip_waiting_25 rfl (by decide) (by decide) (Nat.le_of_ble_eq_true rfl) (by omega) (by omega) ?_
    exact fun w1 h1 => ⟨rfl, (hI.gen (t2 := t) (is := [0]) (L2 := []) h1 rfl ⟨kd_0.mpr rfl, trivial⟩ (by decide) (by decide) (fun _ h => nomatch h) (fun _ h => nomatch h) (fun _ _ _ => rfl) (fun h => h) rfl)⟩
  · refine y_iload_n d_Ip_waiting_4 rfl 1 rfl ?_
    refine y_aload_n d_Ip_waiting_5 rfl 0 rfl ?_
    refine y_get fs_Ip_74 d_Ip_waiting_6 (q0 := 0) rfl rfl ?_
    refine yw_callVL (As := []) (rest := [.int x]) (ci := 13) rfl (fun wA hA => ((hI.gen (t2 := t) (is := [0]) (L2 := []) hA rfl ⟨kd_0.mpr rfl, trivial⟩ (by decide) (by decide) (fun _ h => nomatch h) (fun _ h => nomatch h) (fun _ _ _ => rfl) (fun h => h) rfl).2.1.1 0 (by decide)).ob) ln_Ip_341 w_im_AL_size w_se_AL_size ok_Ip_waiting_AL_size d_Ip_waiting_9 (fun wA hA => Q_size ((hI.gen (t2 := t) (is := [0]) (L2 := []) hA rfl ⟨kd_0.mpr rfl, trivial⟩ (by decide) (by decide) (fun _ h => nomatch h) (fun _ h => nomatch h) (fun _ _ _ => rfl) (fun h => h) rfl).2.1.1 0 (by decide))) rfl rfl (Nat.le_of_ble_eq_true rfl) (by omega) (by omega) (fun wA9 hA9 E wB9 hx => ?_) (fun wA9 hA9 v wB9 hx => ?_)
    · exact absurd hx.1 (by simp)
    · obtain ⟨e1, e2⟩ := hx
      cases e1
      refine yw_st (st2 := [.int (nI (u.1 0)), .int x]) rfl ?_
      subst e2
      refine y_go hA9 ?_
      refine y_icmp_lt (tgt := 26) d_Ip_waiting_12 (by decide) (fun c_12 => ?_) (fun c_12 => ?_)
      · exact absurd (z_idx2 (hI.n5 0 (by decide)) c_1 c_12) hx
      · refine y_throwXW tb_Ip_150_154 sr_Ip_420 d_Ip_waiting_15 d_Ip_waiting_18 d_Ip_waiting_19 d_Ip_waiting_22 d_Ip_waiting_25 rfl (by decide) (by decide) (Nat.le_of_ble_eq_true rfl) (by omega) (by omega) ?_
        exact fun w1 h1 => ⟨rfl, (hI.gen (t2 := t) (is := [0]) (L2 := []) h1 rfl ⟨kd_0.mpr rfl, trivial⟩ (by decide) (by decide) (fun _ h => nomatch h) (fun _ h => nomatch h) (fun _ _ _ => rfl) (fun h => h) rfl)⟩
set_option maxHeartbeats 4000000 in
set_option maxRecDepth 100000 in
theorem Qe_Ip_waitingN {g : zG} {ad : Nat → Nat} {t : zTT} {u : zNN} {w : zW} (hI : IV g ad t u w) (k : Nat) (hk : k < u.1 0) : zMB g M_Ip_waiting [.ref (ad 0), .int (nI k)] w (fun o w1 => o = .inl (some (.int ((t.2 0 k).1 5))) ∧ IV g ad t u w1) 1 6 := by
  obtain ⟨e_a, wf_a, k_a⟩ := hI.1.2 0 (by decide)
  obtain rfl := kd_0.mp k_a
  have h33 := hI.n5 0 (by decide)
  refine y_of (by decide) rfl (Nat.le_of_ble_eq_true rfl) (y_base (cs := [((ad 0), .inr (11, [.ref (ad 1), .ref (ad 5), .ref (ad 18), .ref (ad 31), .ref (ad 32), .ref (ad 36), .ref (ad 42), .ref (ad 45), .ref (ad 47), .ref (ad 49), .ref (ad 50), .ref (ad 51)]))]) (hI.1.I [0] _ rfl (by decide) (by decide) (List.forall_mem_cons.mpr ⟨wf_a, (fun _ h => nomatch h)⟩)) ?_)
  refine y_lvE (lv2 := [(0, .ref (ad 0)), (1, .int (nI k))]) rfl ?_
  refine y_iload_n d_Ip_waiting_0 rfl 1 rfl ?_
  refine y_if_lt (tgt := 15) d_Ip_waiting_1 (by decide) (fun c_1 => ?_) (fun c_1 => ?_)
  · exact absurd c_1 (nI_nneg (by omega))
  · refine y_iload_n d_Ip_waiting_4 rfl 1 rfl ?_
    refine y_aload_n d_Ip_waiting_5 rfl 0 rfl ?_
    refine y_get fs_Ip_74 d_Ip_waiting_6 (q0 := 0) rfl rfl ?_
    refine yw_callVL (As := []) (rest := [.int (nI k)]) (ci := 13) rfl (fun wA hA => ((hI.gen (t2 := t) (is := [0]) (L2 := []) hA rfl ⟨kd_0.mpr rfl, trivial⟩ (by decide) (by decide) (fun _ h => nomatch h) (fun _ h => nomatch h) (fun _ _ _ => rfl) (fun h => h) rfl).2.1.1 0 (by decide)).ob) ln_Ip_341 w_im_AL_size w_se_AL_size ok_Ip_waiting_AL_size d_Ip_waiting_9 (fun wA hA => Q_size ((hI.gen (t2 := t) (is := [0]) (L2 := []) hA rfl ⟨kd_0.mpr rfl, trivial⟩ (by decide) (by decide) (fun _ h => nomatch h) (fun _ h => nomatch h) (fun _ _ _ => rfl) (fun h => h) rfl).2.1.1 0 (by decide))) rfl rfl (Nat.le_of_ble_eq_true rfl) (by omega) (by omega) (fun wA9 hA9 E wB9 hx => ?_) (fun wA9 hA9 v wB9 hx => ?_)
    · exact absurd hx.1 (by simp)
    · obtain ⟨e1, e2⟩ := hx
      cases e1
      refine yw_st (st2 := [.int (nI (u.1 0)), .int (nI k)]) rfl ?_
      subst e2
      refine y_go hA9 ?_
      refine y_icmp_lt (tgt := 26) d_Ip_waiting_12 (by decide) (fun c_12 => ?_) (fun c_12 => ?_)
      · refine y_aload_n d_Ip_waiting_26 rfl 0 rfl ?_
        refine y_get fs_Ip_74 d_Ip_waiting_27 (q0 := 0) rfl rfl ?_
        refine y_iload_n d_Ip_waiting_30 rfl 1 rfl ?_
        refine yw_callVL (As := [.int (nI k)]) (rest := []) (ci := 13) rfl (fun wA hA => ((hI.gen (t2 := t) (is := [0]) (L2 := []) hA rfl ⟨kd_0.mpr rfl, trivial⟩ (by decide) (by decide) (fun _ h => nomatch h) (fun _ h => nomatch h) (fun _ _ _ => rfl) (fun h => h) rfl).2.1.1 0 (by decide)).ob) ln_Ip_344 w_im_AL_get w_se_AL_get ok_Ip_waiting_AL_get d_Ip_waiting_31 (fun wA hA => Q_get ((hI.gen (t2 := t) (is := [0]) (L2 := []) hA rfl ⟨kd_0.mpr rfl, trivial⟩ (by decide) (by decide) (fun _ h => nomatch h) (fun _ h => nomatch h) (fun _ _ _ => rfl) (fun h => h) rfl).2.1.1 0 (by decide)) hk) rfl rfl (Nat.le_of_ble_eq_true rfl) (by omega) (by omega) (fun wA31 hA31 E wB31 hx => ?_) (fun wA31 hA31 v wB31 hx => ?_)
        · exact absurd hx.1 (by simp)
        · obtain ⟨e1, e2⟩ := hx
          cases e1
          refine yw_st (st2 := [.ref (u.2.2 0 k)]) rfl ?_
          subst e2
          refine y_go hA31 ?_
          refine y_end (fun wC1 hC1 => ?_)
          have hI9 := (hI.gen (t2 := t) (is := [0]) (L2 := []) hC1 rfl ⟨kd_0.mpr rfl, trivial⟩ (by decide) (by decide) (fun _ h => nomatch h) (fun _ h => nomatch h) (fun _ _ _ => rfl) (fun h => h) rfl)
          have hI := hI9
          obtain ⟨nf_d, c_d, hw_d, hx_d, nfc_d, hwc_d, hch_d⟩ := hI.2.1.2.1 0 (by decide) k hk
          refine y_base (cs := [((ad 0), .inr (11, [.ref (ad 1), .ref (ad 5), .ref (ad 18), .ref (ad 31), .ref (ad 32), .ref (ad 36), .ref (ad 42), .ref (ad 45), .ref (ad 47), .ref (ad 49), .ref (ad 50), .ref (ad 51)])), ((u.2.2 0 k), .inr (7, [.ref c_d, .int (nI ((t.2 0 k).2.2.2 0)), .int ((t.2 0 k).1 0), .int ((t.2 0 k).1 1), .int ((t.2 0 k).1 2), .int ((t.2 0 k).1 3), .int ((t.2 0 k).1 4), .int ((t.2 0 k).1 5)])), (c_d, .inl (1, 108, .inl ((t.2 0 k).2.1)))]) (z_I.kd (List.forall_mem_cons.mpr ⟨hC1.at (q0 := 0) rfl, (List.forall_mem_cons.mpr ⟨hw_d, (List.forall_mem_cons.mpr ⟨hwc_d, (fun _ h => nomatch h)⟩)⟩)⟩) (by simp [z_kd])) ?_
          refine y_castO lk_Ip_348 d_Ip_waiting_34 (q0 := 1) rfl rfl ?_
          refine y_get fs_Ip_350 d_Ip_waiting_37 (q0 := 1) rfl rfl ?_
          refine y_iret d_Ip_waiting_40 rfl rfl ?_
          exact fun w1 h1 => ⟨rfl, (hI.gen (t2 := t) (is := [0]) (L2 := [(u.2.2 0 k), c_d]) h1 rfl ⟨kd_0.mpr rfl, trivial⟩ (by decide) (by decide) (List.forall_mem_cons.mpr ⟨nf_d, (List.forall_mem_cons.mpr ⟨nfc_d, (fun _ h => nomatch h)⟩)⟩) (List.forall_mem_cons.mpr ⟨⟨_, hw_d, h1.at (q0 := 1) rfl⟩, (List.forall_mem_cons.mpr ⟨⟨_, hwc_d, h1.at (q0 := 2) rfl⟩, (fun _ h => nomatch h)⟩)⟩) (fun _ _ _ => rfl) (fun h => h) rfl)⟩
      · exact absurd ((nI_ltI (by omega) (by omega)).mpr hk) c_12
set_option maxHeartbeats 4000000 in
set_option maxRecDepth 100000 in
theorem Qe_Mm_waitingE {g : zG} {ad : Nat → Nat} {t : zTT} {u : zNN} {w : zW} (hI : IV g ad t u w) (x : Int32) (hx : ¬ ∃ k, k < u.1 3 ∧ x = nI k) : zMB g M_Mm_waiting [.ref (ad 52), .int x] w (fun o w1 => o = .inl (some (.int 0)) ∧ IV g ad t u w1 ∧ TH ad 1 w1) 0 0 := by
  obtain ⟨e_m, wf_m, k_m⟩ := hI.1.2 52 (by decide)
  obtain ⟨v_m_th, rfl⟩ := kd_52.mp k_m
  refine y_of (by decide) rfl (Nat.le_of_ble_eq_true rfl) (y_base (cs := [((ad 52), .inr (12, [.int v_m_th, .ref (ad 53), .int (nI ((t.1 52).2.2 0)), .ref (ad 54), .ref (ad 55), .ref (ad 56), .ref (ad 57), .ref (ad 58), .ref (ad 59), .ref (ad 60), .ref (ad 61), .int ((t.1 52).1 0), .int ((t.1 52).1 1), .int ((t.1 52).1 2), .int ((t.1 52).1 3), .int ((t.1 52).1 4), .int ((t.1 52).1 5), .ref (ad 62), .ref (ad 63), .ref (ad 64), .int ((t.1 52).1 6), .int ((t.1 52).1 7), .int ((t.1 52).1 8), .int ((t.1 52).1 9), .int ((t.1 52).1 10), .ref (ad 65), .ref (ad 66), .ref (ad 67), .ref (ad 68), .long ((t.1 52).2.1 0), .long ((t.1 52).2.1 1)]))]) (hI.1.I [52] _ rfl (by decide) (by decide) (List.forall_mem_cons.mpr ⟨wf_m, (fun _ h => nomatch h)⟩)) ?_)
  refine y_lvE (lv2 := [(0, .ref (ad 52)), (1, .int x)]) rfl ?_
  refine y_aload_n d_Mm_waiting_0 rfl 0 rfl ?_
  refine y_iconst d_Mm_waiting_1 (v := 0) (by decide) ?_
  refine y_put fp_Mm_84 d_Mm_waiting_2 (fun h => nomatch h) rfl rfl (q0 := 0) rfl (Nat.le_of_ble_eq_true rfl) (cs' := [((ad 52), .inr (12, [.int 0, .ref (ad 53), .int (nI ((t.1 52).2.2 0)), .ref (ad 54), .ref (ad 55), .ref (ad 56), .ref (ad 57), .ref (ad 58), .ref (ad 59), .ref (ad 60), .ref (ad 61), .int ((t.1 52).1 0), .int ((t.1 52).1 1), .int ((t.1 52).1 2), .int ((t.1 52).1 3), .int ((t.1 52).1 4), .int ((t.1 52).1 5), .ref (ad 62), .ref (ad 63), .ref (ad 64), .int ((t.1 52).1 6), .int ((t.1 52).1 7), .int ((t.1 52).1 8), .int ((t.1 52).1 9), .int ((t.1 52).1 10), .ref (ad 65), .ref (ad 66), .ref (ad 67), .ref (ad 68), .long ((t.1 52).2.1 0), .long ((t.1 52).2.1 1)]))]) rfl ?_
  refine y_aload_n d_Mm_waiting_5 rfl 0 rfl ?_
  refine y_iload_n d_Mm_waiting_6 rfl 1 rfl ?_
  refine y_iconst d_Mm_waiting_7 (v := 0) (by decide) ?_
  refine y_aload_n d_Mm_waiting_8 rfl 0 rfl ?_
  refine y_get fs_Mm_72 d_Mm_waiting_9 (q0 := 0) rfl rfl ?_
  refine yw_callVL (As := []) (rest := [.int 0, .int x, .ref (ad 52)]) (ci := 13) rfl (fun wA hA => ((hI.gen (t2 := t) (is := [52]) (L2 := []) hA rfl ⟨kd_52.mpr ⟨_, rfl⟩, trivial⟩ (by decide) (by decide) (fun _ h => nomatch h) (fun _ h => nomatch h) (fun _ _ _ => rfl) (fun h => h) rfl).2.1.1 3 (by decide)).ob) ln_Mm_208 w_im_AL_size w_se_AL_size ok_Mm_waiting_AL_size d_Mm_waiting_12 (fun wA hA => Q_size ((hI.gen (t2 := t) (is := [52]) (L2 := []) hA rfl ⟨kd_52.mpr ⟨_, rfl⟩, trivial⟩ (by decide) (by decide) (fun _ h => nomatch h) (fun _ h => nomatch h) (fun _ _ _ => rfl) (fun h => h) rfl).2.1.1 3 (by decide))) rfl rfl (Nat.le_of_ble_eq_true rfl) (by omega) (by omega) (fun wA12 hA12 E wB12 hx => ?_) (fun wA12 hA12 v wB12 hx => ?_)
  · exact absurd hx.1 (by simp)
  · obtain ⟨e1, e2⟩ := hx
    cases e1
    refine yw_st (st2 := [.int (nI (u.1 3)), .int 0, .int x, .ref (ad 52)]) rfl ?_
    subst e2
    refine y_go hA12 ?_
    refine y_iconst d_Mm_waiting_15 (v := 1) (by decide) ?_
    refine y_isub d_Mm_waiting_16 (v := nI (u.1 3) - 1) rfl ?_
    refine y_callS (As := [.int x, .int 0, .int (nI (u.1 3) - 1)]) (rest := [.ref (ad 52)]) (csC := []) (is := []) ln_Mm_87 w_st_Mm_in ok_Mm_waiting_Mm_in d_Mm_waiting_17 (C_Mm_in g x 0 (nI (u.1 3) - 1)) rfl rfl (Nat.le_of_ble_eq_true rfl) rfl (by decide) (by omega) (by omega) (fun E cs1 hx => ?_) (fun v cs1 hx => ?_)
    · exact absurd hx.1 (by simp)
    · obtain ⟨e1, rfl⟩ := hx
      rw [if_neg (fun q => hx ((z_idx (hI.n5 3 (by decide))).mp q))] at e1
      cases e1
      refine ⟨rfl, ?_⟩
      refine y_st (st2 := [.int 0, .ref (ad 52)]) rfl ?_
      refine y_cs (cs2 := [((ad 52), .inr (12, [.int 0, .ref (ad 53), .int (nI ((t.1 52).2.2 0)), .ref (ad 54), .ref (ad 55), .ref (ad 56), .ref (ad 57), .ref (ad 58), .ref (ad 59), .ref (ad 60), .ref (ad 61), .int ((t.1 52).1 0), .int ((t.1 52).1 1), .int ((t.1 52).1 2), .int ((t.1 52).1 3), .int ((t.1 52).1 4), .int ((t.1 52).1 5), .ref (ad 62), .ref (ad 63), .ref (ad 64), .int ((t.1 52).1 6), .int ((t.1 52).1 7), .int ((t.1 52).1 8), .int ((t.1 52).1 9), .int ((t.1 52).1 10), .ref (ad 65), .ref (ad 66), .ref (ad 67), .ref (ad 68), .long ((t.1 52).2.1 0), .long ((t.1 52).2.1 1)]))]) rfl ?_
      refine y_if_ne (tgt := 27) d_Mm_waiting_20 (by decide) (fun c_20 => ?_) (fun c_20 => ?_)
      · exact absurd c_20 (by decide)
      · refine y_iconst d_Mm_waiting_23 (v := 1) (by decide) ?_
        refine y_goto (tgt := 28) d_Mm_waiting_24 (by decide) ?_
        refine y_iconst d_Mm_waiting_28 (v := 1) (by decide) ?_
        refine y_callV (As := [.int 1, .int 1]) (rest := []) (csC := [((ad 52), .inr (12, [.int 0, .ref (ad 53), .int (nI ((t.1 52).2.2 0)), .ref (ad 54), .ref (ad 55), .ref (ad 56), .ref (ad 57), .ref (ad 58), .ref (ad 59), .ref (ad 60), .ref (ad 61), .int ((t.1 52).1 0), .int ((t.1 52).1 1), .int ((t.1 52).1 2), .int ((t.1 52).1 3), .int ((t.1 52).1 4), .int ((t.1 52).1 5), .ref (ad 62), .ref (ad 63), .ref (ad 64), .int ((t.1 52).1 6), .int ((t.1 52).1 7), .int ((t.1 52).1 8), .int ((t.1 52).1 9), .int ((t.1 52).1 10), .ref (ad 65), .ref (ad 66), .ref (ad 67), .ref (ad 68), .long ((t.1 52).2.1 0), .long ((t.1 52).2.1 1)]))]) (is := [0]) (q0 := 0) rfl rfl ln_Mm_103 w_im_Mm_fails w_se_Mm_fails ok_Mm_waiting_Mm_fails d_Mm_waiting_29 (C_Mm_fails1 g (ad 52) (ad 53) (ad 54) (ad 55) (ad 56) (ad 57) (ad 58) (ad 59) (ad 60) (ad 61) (ad 62) (ad 63) (ad 64) (ad 65) (ad 66) (ad 67) (ad 68) 0 (nI ((t.1 52).2.2 0)) ((t.1 52).1 0) ((t.1 52).1 1) ((t.1 52).1 2) ((t.1 52).1 3) ((t.1 52).1 4) ((t.1 52).1 5) ((t.1 52).1 6) ((t.1 52).1 7) ((t.1 52).1 8) ((t.1 52).1 9) ((t.1 52).1 10) ((t.1 52).2.1 0) ((t.1 52).2.1 1)) rfl rfl (Nat.le_of_ble_eq_true rfl) rfl (by decide) (by omega) (by omega) (fun E cs1 hx => ?_) (fun v cs1 hx => ?_)
        · exact absurd hx.1 (by simp)
        · obtain ⟨e1, rfl⟩ := hx
          cases e1
          refine ⟨rfl, ?_⟩
          refine y_st (st2 := [.int 1]) rfl ?_
          refine y_cs (cs2 := [((ad 52), .inr (12, [.int 1, .ref (ad 53), .int (nI ((t.1 52).2.2 0)), .ref (ad 54), .ref (ad 55), .ref (ad 56), .ref (ad 57), .ref (ad 58), .ref (ad 59), .ref (ad 60), .ref (ad 61), .int ((t.1 52).1 0), .int ((t.1 52).1 1), .int ((t.1 52).1 2), .int ((t.1 52).1 3), .int ((t.1 52).1 4), .int ((t.1 52).1 5), .ref (ad 62), .ref (ad 63), .ref (ad 64), .int ((t.1 52).1 6), .int ((t.1 52).1 7), .int ((t.1 52).1 8), .int ((t.1 52).1 9), .int ((t.1 52).1 10), .ref (ad 65), .ref (ad 66), .ref (ad 67), .ref (ad 68), .long ((t.1 52).2.1 0), .long ((t.1 52).2.1 1)]))]) rfl ?_
          refine y_if_eq (tgt := 39) d_Mm_waiting_32 (by decide) (fun c_32 => ?_) (fun c_32 => ?_)
          · exact absurd c_32 (by decide)
          · refine y_iconst d_Mm_waiting_35 (v := 0) (by decide) ?_
            refine y_goto (tgt := 52) d_Mm_waiting_36 (by decide) ?_
            refine y_iret d_Mm_waiting_52 rfl rfl ?_
            exact fun w1 h1 => ⟨rfl, (hI.gen (t2 := t) (is := [52]) (L2 := []) h1 rfl ⟨kd_52.mpr ⟨_, rfl⟩, trivial⟩ (by decide) (by decide) (fun _ h => nomatch h) (fun _ h => nomatch h) (fun _ _ _ => rfl) (fun h => h) rfl), ⟨_, h1.at (q0 := 0) rfl⟩⟩
set_option maxHeartbeats 4000000 in
set_option maxRecDepth 100000 in
theorem Qe_Mm_waitingN {g : zG} {ad : Nat → Nat} {t : zTT} {u : zNN} {w : zW} (hI : IV g ad t u w) (k : Nat) (hk : k < u.1 3) : zMB g M_Mm_waiting [.ref (ad 52), .int (nI k)] w (fun o w1 => o = .inl (some (.int ((t.2 4 k).2.1 4))) ∧ IV g ad t u w1 ∧ TH ad 0 w1) 0 0 := by
  obtain ⟨e_m, wf_m, k_m⟩ := hI.1.2 52 (by decide)
  obtain ⟨v_m_th, rfl⟩ := kd_52.mp k_m
  refine y_of (by decide) rfl (Nat.le_of_ble_eq_true rfl) (y_base (cs := [((ad 52), .inr (12, [.int v_m_th, .ref (ad 53), .int (nI ((t.1 52).2.2 0)), .ref (ad 54), .ref (ad 55), .ref (ad 56), .ref (ad 57), .ref (ad 58), .ref (ad 59), .ref (ad 60), .ref (ad 61), .int ((t.1 52).1 0), .int ((t.1 52).1 1), .int ((t.1 52).1 2), .int ((t.1 52).1 3), .int ((t.1 52).1 4), .int ((t.1 52).1 5), .ref (ad 62), .ref (ad 63), .ref (ad 64), .int ((t.1 52).1 6), .int ((t.1 52).1 7), .int ((t.1 52).1 8), .int ((t.1 52).1 9), .int ((t.1 52).1 10), .ref (ad 65), .ref (ad 66), .ref (ad 67), .ref (ad 68), .long ((t.1 52).2.1 0), .long ((t.1 52).2.1 1)]))]) (hI.1.I [52] _ rfl (by decide) (by decide) (List.forall_mem_cons.mpr ⟨wf_m, (fun _ h => nomatch h)⟩)) ?_)
  refine y_lvE (lv2 := [(0, .ref (ad 52)), (1, .int (nI k))]) rfl ?_
  refine y_aload_n d_Mm_waiting_0 rfl 0 rfl ?_
  refine y_iconst d_Mm_waiting_1 (v := 0) (by decide) ?_
  refine y_put fp_Mm_84 d_Mm_waiting_2 (fun h => nomatch h) rfl rfl (q0 := 0) rfl (Nat.le_of_ble_eq_true rfl) (cs' := [((ad 52), .inr (12, [.int 0, .ref (ad 53), .int (nI ((t.1 52).2.2 0)), .ref (ad 54), .ref (ad 55), .ref (ad 56), .ref (ad 57), .ref (ad 58), .ref (ad 59), .ref (ad 60), .ref (ad 61), .int ((t.1 52).1 0), .int ((t.1 52).1 1), .int ((t.1 52).1 2), .int ((t.1 52).1 3), .int ((t.1 52).1 4), .int ((t.1 52).1 5), .ref (ad 62), .ref (ad 63), .ref (ad 64), .int ((t.1 52).1 6), .int ((t.1 52).1 7), .int ((t.1 52).1 8), .int ((t.1 52).1 9), .int ((t.1 52).1 10), .ref (ad 65), .ref (ad 66), .ref (ad 67), .ref (ad 68), .long ((t.1 52).2.1 0), .long ((t.1 52).2.1 1)]))]) rfl ?_
  refine y_aload_n d_Mm_waiting_5 rfl 0 rfl ?_
  refine y_iload_n d_Mm_waiting_6 rfl 1 rfl ?_
  refine y_iconst d_Mm_waiting_7 (v := 0) (by decide) ?_
  refine y_aload_n d_Mm_waiting_8 rfl 0 rfl ?_
  refine y_get fs_Mm_72 d_Mm_waiting_9 (q0 := 0) rfl rfl ?_
  refine yw_callVL (As := []) (rest := [.int 0, .int (nI k), .ref (ad 52)]) (ci := 13) rfl (fun wA hA => ((hI.gen (t2 := t) (is := [52]) (L2 := []) hA rfl ⟨kd_52.mpr ⟨_, rfl⟩, trivial⟩ (by decide) (by decide) (fun _ h => nomatch h) (fun _ h => nomatch h) (fun _ _ _ => rfl) (fun h => h) rfl).2.1.1 3 (by decide)).ob) ln_Mm_208 w_im_AL_size w_se_AL_size ok_Mm_waiting_AL_size d_Mm_waiting_12 (fun wA hA => Q_size ((hI.gen (t2 := t) (is := [52]) (L2 := []) hA rfl ⟨kd_52.mpr ⟨_, rfl⟩, trivial⟩ (by decide) (by decide) (fun _ h => nomatch h) (fun _ h => nomatch h) (fun _ _ _ => rfl) (fun h => h) rfl).2.1.1 3 (by decide))) rfl rfl (Nat.le_of_ble_eq_true rfl) (by omega) (by omega) (fun wA12 hA12 E wB12 hx => ?_) (fun wA12 hA12 v wB12 hx => ?_)
  · exact absurd hx.1 (by simp)
  · obtain ⟨e1, e2⟩ := hx
    cases e1
    refine yw_st (st2 := [.int (nI (u.1 3)), .int 0, .int (nI k), .ref (ad 52)]) rfl ?_
    subst e2
    refine y_go hA12 ?_
    refine y_iconst d_Mm_waiting_15 (v := 1) (by decide) ?_
    refine y_isub d_Mm_waiting_16 (v := nI (u.1 3) - 1) rfl ?_
    refine y_callS (As := [.int (nI k), .int 0, .int (nI (u.1 3) - 1)]) (rest := [.ref (ad 52)]) (csC := []) (is := []) ln_Mm_87 w_st_Mm_in ok_Mm_waiting_Mm_in d_Mm_waiting_17 (C_Mm_in g (nI k) 0 (nI (u.1 3) - 1)) rfl rfl (Nat.le_of_ble_eq_true rfl) rfl (by decide) (by omega) (by omega) (fun E cs1 hx => ?_) (fun v cs1 hx => ?_)
    · exact absurd hx.1 (by simp)
    · obtain ⟨e1, rfl⟩ := hx
      rw [if_pos ((z_idx (hI.n5 3 (by decide))).mpr ⟨k, hk, rfl⟩)] at e1
      cases e1
      refine ⟨rfl, ?_⟩
      refine y_st (st2 := [.int 1, .ref (ad 52)]) rfl ?_
      refine y_cs (cs2 := [((ad 52), .inr (12, [.int 0, .ref (ad 53), .int (nI ((t.1 52).2.2 0)), .ref (ad 54), .ref (ad 55), .ref (ad 56), .ref (ad 57), .ref (ad 58), .ref (ad 59), .ref (ad 60), .ref (ad 61), .int ((t.1 52).1 0), .int ((t.1 52).1 1), .int ((t.1 52).1 2), .int ((t.1 52).1 3), .int ((t.1 52).1 4), .int ((t.1 52).1 5), .ref (ad 62), .ref (ad 63), .ref (ad 64), .int ((t.1 52).1 6), .int ((t.1 52).1 7), .int ((t.1 52).1 8), .int ((t.1 52).1 9), .int ((t.1 52).1 10), .ref (ad 65), .ref (ad 66), .ref (ad 67), .ref (ad 68), .long ((t.1 52).2.1 0), .long ((t.1 52).2.1 1)]))]) rfl ?_
      refine y_if_ne (tgt := 27) d_Mm_waiting_20 (by decide) (fun c_20 => ?_) (fun c_20 => ?_)
      · refine y_iconst d_Mm_waiting_27 (v := 0) (by decide) ?_
        refine y_iconst d_Mm_waiting_28 (v := 1) (by decide) ?_
        refine y_callV (As := [.int 0, .int 1]) (rest := []) (csC := [((ad 52), .inr (12, [.int 0, .ref (ad 53), .int (nI ((t.1 52).2.2 0)), .ref (ad 54), .ref (ad 55), .ref (ad 56), .ref (ad 57), .ref (ad 58), .ref (ad 59), .ref (ad 60), .ref (ad 61), .int ((t.1 52).1 0), .int ((t.1 52).1 1), .int ((t.1 52).1 2), .int ((t.1 52).1 3), .int ((t.1 52).1 4), .int ((t.1 52).1 5), .ref (ad 62), .ref (ad 63), .ref (ad 64), .int ((t.1 52).1 6), .int ((t.1 52).1 7), .int ((t.1 52).1 8), .int ((t.1 52).1 9), .int ((t.1 52).1 10), .ref (ad 65), .ref (ad 66), .ref (ad 67), .ref (ad 68), .long ((t.1 52).2.1 0), .long ((t.1 52).2.1 1)]))]) (is := [0]) (q0 := 0) rfl rfl ln_Mm_103 w_im_Mm_fails w_se_Mm_fails ok_Mm_waiting_Mm_fails d_Mm_waiting_29 (C_Mm_fails0 g (ad 52) (ad 53) (ad 54) (ad 55) (ad 56) (ad 57) (ad 58) (ad 59) (ad 60) (ad 61) (ad 62) (ad 63) (ad 64) (ad 65) (ad 66) (ad 67) (ad 68) 0 (nI ((t.1 52).2.2 0)) ((t.1 52).1 0) ((t.1 52).1 1) ((t.1 52).1 2) ((t.1 52).1 3) ((t.1 52).1 4) ((t.1 52).1 5) ((t.1 52).1 6) ((t.1 52).1 7) ((t.1 52).1 8) ((t.1 52).1 9) ((t.1 52).1 10) ((t.1 52).2.1 0) ((t.1 52).2.1 1) 1) rfl rfl (Nat.le_of_ble_eq_true rfl) rfl (by decide) (by omega) (by omega) (fun E cs1 hx => ?_) (fun v cs1 hx => ?_)
        · exact absurd hx.1 (by simp)
        · obtain ⟨e1, rfl⟩ := hx
          cases e1
          refine ⟨rfl, ?_⟩
          refine y_st (st2 := [.int 0]) rfl ?_
          refine y_cs (cs2 := [((ad 52), .inr (12, [.int 0, .ref (ad 53), .int (nI ((t.1 52).2.2 0)), .ref (ad 54), .ref (ad 55), .ref (ad 56), .ref (ad 57), .ref (ad 58), .ref (ad 59), .ref (ad 60), .ref (ad 61), .int ((t.1 52).1 0), .int ((t.1 52).1 1), .int ((t.1 52).1 2), .int ((t.1 52).1 3), .int ((t.1 52).1 4), .int ((t.1 52).1 5), .ref (ad 62), .ref (ad 63), .ref (ad 64), .int ((t.1 52).1 6), .int ((t.1 52).1 7), .int ((t.1 52).1 8), .int ((t.1 52).1 9), .int ((t.1 52).1 10), .ref (ad 65), .ref (ad 66), .ref (ad 67), .ref (ad 68), .long ((t.1 52).2.1 0), .long ((t.1 52).2.1 1)]))]) rfl ?_
          refine y_if_eq (tgt := 39) d_Mm_waiting_32 (by decide) (fun c_32 => ?_) (fun c_32 => ?_)
          · refine y_aload_n d_Mm_waiting_39 rfl 0 rfl ?_
            refine y_get fs_Mm_75 d_Mm_waiting_40 (q0 := 0) rfl rfl ?_
            refine y_iload_n d_Mm_waiting_43 rfl 1 rfl ?_
            refine yw_callVL (As := [.int (nI k)]) (rest := []) (ci := 13) rfl (fun wA hA => ((hI.gen (t2 := t) (is := [52]) (L2 := []) hA rfl ⟨kd_52.mpr ⟨_, rfl⟩, trivial⟩ (by decide) (by decide) (fun _ h => nomatch h) (fun _ h => nomatch h) (fun _ _ _ => rfl) (fun h => h) rfl).2.1.1 4 (by decide)).ob) ln_Mm_211 w_im_AL_get w_se_AL_get ok_Mm_waiting_AL_get d_Mm_waiting_44 (fun wA hA => Q_get ((hI.gen (t2 := t) (is := [52]) (L2 := []) hA rfl ⟨kd_52.mpr ⟨_, rfl⟩, trivial⟩ (by decide) (by decide) (fun _ h => nomatch h) (fun _ h => nomatch h) (fun _ _ _ => rfl) (fun h => h) rfl).2.1.1 4 (by decide)) (by rw [hI.c34]; exact hk)) rfl rfl (Nat.le_of_ble_eq_true rfl) (by omega) (by omega) (fun wA44 hA44 E wB44 hx => ?_) (fun wA44 hA44 v wB44 hx => ?_)
            · exact absurd hx.1 (by simp)
            · obtain ⟨e1, e2⟩ := hx
              cases e1
              refine yw_st (st2 := [.ref (u.2.2 4 k)]) rfl ?_
              subst e2
              refine y_go hA44 ?_
              refine y_end (fun wC1 hC1 => ?_)
              have hI9 := (hI.gen (t2 := t) (is := [52]) (L2 := []) hC1 rfl ⟨kd_52.mpr ⟨_, rfl⟩, trivial⟩ (by decide) (by decide) (fun _ h => nomatch h) (fun _ h => nomatch h) (fun _ _ _ => rfl) (fun h => h) rfl)
              have hI := hI9
              obtain ⟨nf_c, hw_c, h0_c⟩ := hI.2.1.2.1 4 (by decide) k (by rw [hI.c34]; exact hk)
              refine y_base (cs := [((ad 52), .inr (12, [.int 0, .ref (ad 53), .int (nI ((t.1 52).2.2 0)), .ref (ad 54), .ref (ad 55), .ref (ad 56), .ref (ad 57), .ref (ad 58), .ref (ad 59), .ref (ad 60), .ref (ad 61), .int ((t.1 52).1 0), .int ((t.1 52).1 1), .int ((t.1 52).1 2), .int ((t.1 52).1 3), .int ((t.1 52).1 4), .int ((t.1 52).1 5), .ref (ad 62), .ref (ad 63), .ref (ad 64), .int ((t.1 52).1 6), .int ((t.1 52).1 7), .int ((t.1 52).1 8), .int ((t.1 52).1 9), .int ((t.1 52).1 10), .ref (ad 65), .ref (ad 66), .ref (ad 67), .ref (ad 68), .long ((t.1 52).2.1 0), .long ((t.1 52).2.1 1)])), ((u.2.2 4 k), .inl (0, 5, .inl ((t.2 4 k).2.1)))]) (z_I.kd (List.forall_mem_cons.mpr ⟨hC1.at (q0 := 0) rfl, (List.forall_mem_cons.mpr ⟨hw_c, (fun _ h => nomatch h)⟩)⟩) (by simp [z_kd])) ?_
              refine y_castA (t := 0) (by decide) lk_Mm_215 d_Mm_waiting_47 (q0 := 1) rfl ?_
              refine y_iconst d_Mm_waiting_50 (v := 4) (by decide) ?_
              refine y_iald d_Mm_waiting_51 (q0 := 1) rfl (fun q => q.elim (by decide) (by decide)) (v := ((t.2 4 k).2.1) 4) rfl ?_
              refine y_iret d_Mm_waiting_52 rfl rfl ?_
              exact fun w1 h1 => ⟨rfl, (hI.gen (t2 := t) (is := [52]) (L2 := [(u.2.2 4 k)]) h1 rfl ⟨kd_52.mpr ⟨_, rfl⟩, trivial⟩ (by decide) (by decide) (List.forall_mem_cons.mpr ⟨nf_c, (fun _ h => nomatch h)⟩) (List.forall_mem_cons.mpr ⟨⟨_, hw_c, h1.at (q0 := 1) rfl⟩, (fun _ h => nomatch h)⟩) (fun _ _ _ => rfl) (fun h => h) rfl), ⟨_, h1.at (q0 := 0) rfl⟩⟩
          · exact absurd c_32 (by decide)
      · exact absurd c_20 (by decide)
noncomputable def vK_Ip_waiting (ad : Nat → Nat) (x : Int32) (t : zTT) (n : Nat → Nat) : Int32 × Int32 := if x.toNatClampNeg < n 0 ∧ x = nI x.toNatClampNeg then (0, ((t.2 0 x.toNatClampNeg).1 5)) else (1, 0)
theorem KE_Ip_waiting {g : zG} {ad : Nat → Nat} {t : zTT} {u : zNN} {w : zW} (hI : IVm g ad t u w) (x : Int32) : zMB g M_Ip_waiting [.ref (ad 0), .int x] w (fun o w1 => zxA ["java/util/NoSuchElementException"] (vK_Ip_waiting ad x t u.1) o ∧ ∃ u2 : zNN, u2.1 = u.1 ∧ IVm g ad t u2 w1) 10 300 := by
  obtain ⟨s, hI⟩ := hI
  by_cases hx : x.toNatClampNeg < u.1 0 ∧ x = nI x.toNatClampNeg
  · obtain ⟨k, hk, rfl⟩ : ∃ k, k < u.1 0 ∧ x = nI k := ⟨_, hx⟩
    have h33 := hI.n5 0 (by decide)
    have ek : (nI k).toNatClampNeg = k := nI_clamp (by omega)
    have eV : vK_Ip_waiting ad (nI k) t u.1 = (0, ((t.2 0 k).1 5)) := by
      unfold vK_Ip_waiting
      rw [if_pos hx, ek]
    rw [eV]
    exact (Qe_Ip_waitingN hI k hk).mono (by decide) (by decide) (fun o w1 h => ⟨Or.inl ⟨rfl, h.1⟩, u, rfl, ⟨_, h.2⟩⟩)
  · have hx9 : ¬ ∃ k, k < u.1 0 ∧ x = nI k := fun ⟨k, hk, e⟩ => hx (by have h33 := hI.n5 0 (by decide); subst e; rw [nI_clamp (by omega)]; exact ⟨hk, rfl⟩)
    have eV : vK_Ip_waiting ad x t u.1 = (1, 0) := by
      unfold vK_Ip_waiting
      rw [if_neg hx]
    rw [eV]
    exact (Qe_Ip_waitingE hI x hx9).mono (by decide) (by decide) (fun o w1 h => ⟨Or.inr ⟨0, _, rfl, rfl, h.1⟩, u, rfl, ⟨_, h.2⟩⟩)
noncomputable def vK_Mm_waiting (ad : Nat → Nat) (x : Int32) (t : zTT) (n : Nat → Nat) : Int32 × Int32 := if x.toNatClampNeg < n 3 ∧ x = nI x.toNatClampNeg then (0, ((t.2 4 x.toNatClampNeg).2.1 4)) else (1, 0)
theorem KE_Mm_waiting {g : zG} {ad : Nat → Nat} {t : zTT} {u : zNN} {w : zW} {vo : Int64} (hI : IVo g ad vo t u w) (x : Int32) : zMB g M_Mm_waiting [.ref (ad 52), .int x] w (fun o w1 => o = .inl (some (.int (vK_Mm_waiting ad x t u.1).2)) ∧ TH ad (vK_Mm_waiting ad x t u.1).1 w1 ∧ ∃ u2 : zNN, u2.1 = u.1 ∧ IVo g ad vo t u2 w1) 10 300 := by
  obtain ⟨s, hv, hI⟩ := hI
  by_cases hx : x.toNatClampNeg < u.1 3 ∧ x = nI x.toNatClampNeg
  · obtain ⟨k, hk, rfl⟩ : ∃ k, k < u.1 3 ∧ x = nI k := ⟨_, hx⟩
    have h33 := hI.n5 3 (by decide)
    have ek : (nI k).toNatClampNeg = k := nI_clamp (by omega)
    have eV : vK_Mm_waiting ad (nI k) t u.1 = (0, ((t.2 4 k).2.1 4)) := by
      unfold vK_Mm_waiting
      rw [if_pos hx, ek]
    rw [eV]
    exact (Qe_Mm_waitingN hI k hk).mono (by decide) (by decide) (fun o w1 h => ⟨h.1, h.2.2, u, rfl, ⟨s, hv, h.2.1⟩⟩)
  · have hx9 : ¬ ∃ k, k < u.1 3 ∧ x = nI k := fun ⟨k, hk, e⟩ => hx (by have h33 := hI.n5 3 (by decide); subst e; rw [nI_clamp (by omega)]; exact ⟨hk, rfl⟩)
    have eV : vK_Mm_waiting ad x t u.1 = (1, 0) := by
      unfold vK_Mm_waiting
      rw [if_neg hx]
    rw [eV]
    exact (Qe_Mm_waitingE hI x hx9).mono (by decide) (by decide) (fun o w1 h => ⟨h.1, h.2.2, u, rfl, ⟨s, hv, h.2.1⟩⟩)
theorem V_waiting {ad : Nat → Nat} {t : zTT} {n : Nat → Nat} {b : Nat} {n1 : Nat → Nat} (x : Int32) (h : REL t n b) (e1 : n1 = n) : (vK_Ip_waiting ad x t n).1 = (vK_Mm_waiting ad x t n1).1 ∧ ((vK_Ip_waiting ad x t n).1 = 0 → (vK_Ip_waiting ad x t n).2 = (vK_Mm_waiting ad x t n1).2) := by
  subst e1
  unfold vK_Ip_waiting vK_Mm_waiting
  by_cases hx : x.toNatClampNeg < n1 0 ∧ x = nI x.toNatClampNeg
  · have hr : x.toNatClampNeg < n1 3 ∧ x = nI x.toNatClampNeg := ⟨h.mo.1 ▸ hx.1, hx.2⟩
    have hc := h.mo.2.2 _ hx.1
    rw [if_pos hx, if_pos hr]
    exact ⟨rfl, fun _ => hc.2.2.2.2.2.2.2⟩
  · rw [if_neg hx, if_neg (fun q => hx ⟨h.mo.1.symm ▸ q.1, q.2⟩)]
    exact ⟨rfl, fun _ => rfl⟩
