def TH (ad : Nat → Nat) (c : Int32) (w : zW) : Prop := ∃ fs : List Value, w (ad 52) = some (.inr (12, .int c :: fs))
def IVo (g : zG) (ad : Nat → Nat) (v : Int64) (t : zTT) (u : zNN) (w : zW) : Prop := ∃ s, (s 69).2.1 0 = v ∧ IV g ad (mg t s) u w
theorem IVo.of {g : zG} {ad : Nat → Nat} {v : Int64} {t T : zTT} {u : zNN} {w : zW} (h : IV g ad T u w) (h1 : ∀ i, ¬ tx i → T.1 i = t.1 i) (h2 : T.2 = t.2) (h3 : (T.1 69).2.1 0 = v) : IVo g ad v t u w := ⟨T.1, h3, by rw [mg_self t T h1 h2]; exact h⟩
theorem IVo.m {g : zG} {ad : Nat → Nat} {v : Int64} {t : zTT} {u : zNN} {w : zW} (h : IVo g ad v t u w) : IVm g ad t u w := by
  obtain ⟨s, -, h⟩ := h
  exact ⟨s, h⟩
theorem IVo.nil {g : zG} {ad : Nat → Nat} {v : Int64} {t : zTT} {u : zNN} {w w1 : zW} (h1 : z_I w w1 0 []) (hI : IVo g ad v t u w) : IVo g ad v t u w1 := (z_I.same (z_I.nil w) h1).symm ▸ hI
theorem IVo.zu {g : zG} {ad : Nat → Nat} {v : Int64} {t : zTT} {s : Nat → zP2} {V : Nat → Nat → zV} {l : List (Nat × zP2)} {u : zNN} {w : zW} (h : IV g ad (zup (mg t s).1 l, V) u w) (h3 : (zup (mg t s).1 l 69).2.1 0 = v) : IVo g ad v (zup t.1 l, V) u w := IVo.of h (fun i hi => zup_cg (P := fun i => ¬ tx i) (fun i hi => if_neg hi) l i hi) rfl h3
theorem IVo.tz {g : zG} {ad : Nat → Nat} {v : Int64} {t : zTT} {s : Nat → zP2} {l : List (Nat × zP2)} {u : zNN} {w : zW} (h : IV g ad (zup (mg t s).1 l, (mg t s).2) u w) (hl : ∀ i ∈ l.map Prod.fst, tx i) (h3 : (zup (mg t s).1 l 69).2.1 0 = v) : IVo g ad v t u w := IVo.of h (fun i hi => (zup_out (fun q => hi (hl i q))).trans (if_neg hi)) rfl h3
def zxA (Es : List String) (p : Int32 × Int32) (o : zO) : Prop := (p.1 = 0 ∧ o = .inl (some (.int p.2))) ∨ ∃ (k : Nat) (E : String), Es[k]? = some E ∧ p.1 = nI (k + 1) ∧ o = .inr E
theorem zxA.V {Es : List String} {p : Int32 × Int32} {v : Option Value} (h : zxA Es p (.inl v)) : ∃ x : Int32, v = some (.int x) ∧ p.1 = 0 ∧ p.2 = x := by
  rcases h with ⟨h1, h2⟩ | ⟨k, E, -, -, h2⟩
  · cases h2; exact ⟨_, rfl, h1, rfl⟩
  · cases h2
theorem zxA.X {Es : List String} {p : Int32 × Int32} {E : String} (h : zxA Es p (.inr E)) : ∃ k : Nat, Es[k]? = some E ∧ p.1 = nI (k + 1) := by
  rcases h with ⟨h1, h2⟩ | ⟨k, E2, h3, h4, h2⟩
  · cases h2
  · cases h2; exact ⟨k, h3, h4⟩
theorem le_z {x : Int32} (h : 0 ≤ x.toInt) : x ≤ 0 ↔ x = 0 := by
  constructor
  · intro q
    rw [Int32.le_iff_toInt_le, show (0 : Int32).toInt = 0 from rfl] at q
    exact Int32.toInt_inj.mp (by rw [show (0 : Int32).toInt = 0 from rfl]; omega)
  · intro q
    rw [q]
    decide
theorem lgs9 {a b : Int64} (h : a = b) : ¬ ¬ lg_cmp a b = 0 := fun q => q (by
  subst h
  unfold lg_cmp
  simp)
theorem zb_t {b : Bool} (h : b = false) : ¬ z_bi (!b) = 0 := by
  subst h
  decide
set_option maxHeartbeats 4000000 in
set_option maxRecDepth 100000 in
theorem L_Qe_ironBalances_44 (g : zG) {ad : Nat → Nat} {t : zTT} {u : zNN} {w : zW} (hI : IV g ad t u w) (hb : (hbS (((t.1 37).1 0).toInt64 + ((t.1 43).1 0).toInt64 + ((t.1 45).1 0).toInt64 + ((t.1 47).1 0).toInt64) (t.2 1) (u.1 1)) = (t.1 36).2.1 0) : ∀ (d i : Nat), i ≤ u.1 1 → u.1 1 < i + d → DW g M_Ip_ironBalances (fun o w1 => o = .inl (some (.int 1)) ∧ w1 = w) w 44 [(3, .int (nI i)), (1, .long (hbS (((t.1 37).1 0).toInt64 + ((t.1 43).1 0).toInt64 + ((t.1 45).1 0).toInt64 + ((t.1 47).1 0).toInt64) (t.2 1) i)), (0, .ref (ad 0))] [] 0 0 := by
  intro d
  induction d with
  | zero => intro i h1 h2; exact absurd h2 (by omega)
  | succ d ih =>
    intro i h1 h2
    obtain ⟨e_a, wf_a, k_a⟩ := hI.1.2 0 (by decide)
    obtain rfl := kd_0.mp k_a
    obtain ⟨e_fu, wf_fu, k_fu⟩ := hI.1.2 36 (by decide)
    obtain rfl := kd_36.mp k_fu
    obtain ⟨e_fub, wf_fub, k_fub⟩ := hI.1.2 37 (by decide)
    obtain rfl := kd_37.mp k_fub
    obtain ⟨e_la, wf_la, k_la⟩ := hI.1.2 42 (by decide)
    obtain ⟨c_la_0, rfl⟩ := kd_42.mp k_la
    obtain ⟨e_lab, wf_lab, k_lab⟩ := hI.1.2 43 (by decide)
    obtain ⟨c_lab_0, rfl⟩ := kd_43.mp k_lab
    obtain ⟨e_gy, wf_gy, k_gy⟩ := hI.1.2 45 (by decide)
    obtain rfl := kd_45.mp k_gy
    obtain ⟨e_du, wf_du, k_du⟩ := hI.1.2 47 (by decide)
    obtain rfl := kd_47.mp k_du
    have h33 := hI.n5 1 (by decide)
    have hJ := hI.1.I [0, 36, 37, 42, 43, 45, 47] [((ad 0), .inr (11, [.ref (ad 1), .ref (ad 5), .ref (ad 18), .ref (ad 31), .ref (ad 32), .ref (ad 36), .ref (ad 42), .ref (ad 45), .ref (ad 47), .ref (ad 49), .ref (ad 50), .ref (ad 51)])), ((ad 36), .inr (3, [.ref (ad 37), .ref (ad 39), .ref (ad 40), .ref (ad 41), .long ((t.1 36).2.1 0)])), ((ad 37), .inr (6, [.ref (ad 38), .int ((t.1 37).1 0)])), ((ad 42), .inr (5, [.ref (ad 43), .int ((t.1 42).1 0), .int ((t.1 42).1 1), .int ((t.1 42).1 2)])), ((ad 43), .inr (6, [.ref (ad 44), .int ((t.1 43).1 0)])), ((ad 45), .inr (6, [.ref (ad 46), .int ((t.1 45).1 0)])), ((ad 47), .inr (6, [.ref (ad 48), .int ((t.1 47).1 0)]))] rfl (by decide) (by decide) (List.forall_mem_cons.mpr ⟨wf_a, (List.forall_mem_cons.mpr ⟨wf_fu, (List.forall_mem_cons.mpr ⟨wf_fub, (List.forall_mem_cons.mpr ⟨wf_la, (List.forall_mem_cons.mpr ⟨wf_lab, (List.forall_mem_cons.mpr ⟨wf_gy, (List.forall_mem_cons.mpr ⟨wf_du, (fun _ h => nomatch h)⟩)⟩)⟩)⟩)⟩)⟩)⟩)
    refine y_base hJ ?_
    refine y_iload_n d_Ip_ironBalances_44 rfl 0 rfl ?_
    refine y_aload_n d_Ip_ironBalances_45 rfl 2 rfl ?_
    refine y_get fs_Ip_78 d_Ip_ironBalances_46 (q0 := 0) rfl rfl ?_
    refine yw_callVL (As := []) (rest := [.int (nI i)]) (ci := 13) rfl (fun wA hA => ((hI.gen (t2 := t) (is := [0, 36, 37, 42, 43, 45, 47]) (L2 := []) hA rfl ⟨kd_0.mpr rfl, kd_36.mpr rfl, kd_37.mpr rfl, kd_42.mpr ⟨c_la_0, rfl⟩, kd_43.mpr ⟨c_lab_0, rfl⟩, kd_45.mpr rfl, kd_47.mpr rfl, trivial⟩ (by decide) (by decide) (fun _ h => nomatch h) (fun _ h => nomatch h) (fun _ _ _ => rfl) (fun h => h) rfl).2.1.1 1 (by decide)).ob) ln_Ip_341 w_im_AL_size w_se_AL_size ok_Ip_ironBalances_AL_size d_Ip_ironBalances_49 (fun wA hA => Q_size ((hI.gen (t2 := t) (is := [0, 36, 37, 42, 43, 45, 47]) (L2 := []) hA rfl ⟨kd_0.mpr rfl, kd_36.mpr rfl, kd_37.mpr rfl, kd_42.mpr ⟨c_la_0, rfl⟩, kd_43.mpr ⟨c_lab_0, rfl⟩, kd_45.mpr rfl, kd_47.mpr rfl, trivial⟩ (by decide) (by decide) (fun _ h => nomatch h) (fun _ h => nomatch h) (fun _ _ _ => rfl) (fun h => h) rfl).2.1.1 1 (by decide))) rfl rfl (Nat.le_of_ble_eq_true rfl) (by omega) (by omega) (fun wA49 hA49 E wB49 hx => ?_) (fun wA49 hA49 v wB49 hx => ?_)
    · exact absurd hx.1 (by simp)
    · obtain ⟨e1, e2⟩ := hx
      cases e1
      refine yw_st (st2 := [.int (nI (u.1 1)), .int (nI i)]) rfl ?_
      subst e2
      refine y_go hA49 ?_
      refine y_icmp_ge (tgt := 94) d_Ip_ironBalances_52 (by decide) (fun c_52 => ?_) (fun c_52 => ?_)
      · have hn := z_le (a := (u.1 1)) (b := i) (by omega) (by omega) c_52
        obtain rfl : i = (u.1 1) := by omega
        refine y_lload_n d_Ip_ironBalances_94 rfl 1 rfl ?_
        refine y_aload_n d_Ip_ironBalances_95 rfl 2 rfl ?_
        refine y_get fs_Ip_43 d_Ip_ironBalances_96 (q0 := 0) rfl rfl ?_
        refine y_get fs_Ip_560 d_Ip_ironBalances_99 (q0 := 1) rfl rfl ?_
        refine y_lcmp d_Ip_ironBalances_102 (v := lg_cmp (hbS (((t.1 37).1 0).toInt64 + ((t.1 43).1 0).toInt64 + ((t.1 45).1 0).toInt64 + ((t.1 47).1 0).toInt64) (t.2 1) (u.1 1)) ((t.1 36).2.1 0)) rfl ?_
        refine y_if_ne (tgt := 110) d_Ip_ironBalances_103 (by decide) (fun c_103 => ?_) (fun c_103 => ?_)
        · exact absurd c_103 (lgs9 hb)
        · refine y_iconst d_Ip_ironBalances_106 (v := 1) (by decide) ?_
          refine y_goto (tgt := 111) d_Ip_ironBalances_107 (by decide) ?_
          refine y_iret d_Ip_ironBalances_111 rfl rfl ?_
          exact fun w1 h1 => ⟨rfl, z_I.same hJ h1⟩
      · have hn := z_nle (a := (u.1 1)) (b := i) (by omega) (by omega) c_52
        refine y_aload_n d_Ip_ironBalances_55 rfl 2 rfl ?_
        refine y_get fs_Ip_78 d_Ip_ironBalances_56 (q0 := 0) rfl rfl ?_
        refine y_iload_n d_Ip_ironBalances_59 rfl 0 rfl ?_
        refine yw_callVL (As := [.int (nI i)]) (rest := []) (ci := 13) rfl (fun wA hA => ((hI.gen (t2 := t) (is := [0, 36, 37, 42, 43, 45, 47]) (L2 := []) hA rfl ⟨kd_0.mpr rfl, kd_36.mpr rfl, kd_37.mpr rfl, kd_42.mpr ⟨c_la_0, rfl⟩, kd_43.mpr ⟨c_lab_0, rfl⟩, kd_45.mpr rfl, kd_47.mpr rfl, trivial⟩ (by decide) (by decide) (fun _ h => nomatch h) (fun _ h => nomatch h) (fun _ _ _ => rfl) (fun h => h) rfl).2.1.1 1 (by decide)).ob) ln_Ip_344 w_im_AL_get w_se_AL_get ok_Ip_ironBalances_AL_get d_Ip_ironBalances_60 (fun wA hA => Q_get ((hI.gen (t2 := t) (is := [0, 36, 37, 42, 43, 45, 47]) (L2 := []) hA rfl ⟨kd_0.mpr rfl, kd_36.mpr rfl, kd_37.mpr rfl, kd_42.mpr ⟨c_la_0, rfl⟩, kd_43.mpr ⟨c_lab_0, rfl⟩, kd_45.mpr rfl, kd_47.mpr rfl, trivial⟩ (by decide) (by decide) (fun _ h => nomatch h) (fun _ h => nomatch h) (fun _ _ _ => rfl) (fun h => h) rfl).2.1.1 1 (by decide)) hn) rfl rfl (Nat.le_of_ble_eq_true rfl) (by omega) (by omega) (fun wA60 hA60 E wB60 hx => ?_) (fun wA60 hA60 v wB60 hx => ?_)
        · exact absurd hx.1 (by simp)
        · obtain ⟨e1, e2⟩ := hx
          cases e1
          refine yw_st (st2 := [.ref (u.2.2 1 i)]) rfl ?_
          subst e2
          refine y_go hA60 ?_
          refine y_end (fun wC1 hC1 => ?_)
          obtain rfl := z_I.same hJ hC1
          obtain ⟨nf_c, me_c, gr_c, hw_c, nfm_c, hwm_c, nfg_c, hwg_c⟩ := hI.2.1.2.1 1 (by decide) i hn
          have hJ : z_I _ _ ([((ad 0), .inr (11, [.ref (ad 1), .ref (ad 5), .ref (ad 18), .ref (ad 31), .ref (ad 32), .ref (ad 36), .ref (ad 42), .ref (ad 45), .ref (ad 47), .ref (ad 49), .ref (ad 50), .ref (ad 51)])), ((ad 36), .inr (3, [.ref (ad 37), .ref (ad 39), .ref (ad 40), .ref (ad 41), .long ((t.1 36).2.1 0)])), ((ad 37), .inr (6, [.ref (ad 38), .int ((t.1 37).1 0)])), ((ad 42), .inr (5, [.ref (ad 43), .int ((t.1 42).1 0), .int ((t.1 42).1 1), .int ((t.1 42).1 2)])), ((ad 43), .inr (6, [.ref (ad 44), .int ((t.1 43).1 0)])), ((ad 45), .inr (6, [.ref (ad 46), .int ((t.1 45).1 0)])), ((ad 47), .inr (6, [.ref (ad 48), .int ((t.1 47).1 0)])), ((u.2.2 1 i), .inr (0, [.ref me_c, .int ((t.2 1 i).1 0), .int ((t.2 1 i).1 1), .int ((t.2 1 i).1 2), .int ((t.2 1 i).1 3), .int ((t.2 1 i).1 4)])), (me_c, .inr (6, [.ref gr_c, .int ((t.2 1 i).1 5)])), (gr_c, .inl (3, 4, .inr (.inl ((t.2 1 i).2.2.1))))] : zC).length [((ad 0), .inr (11, [.ref (ad 1), .ref (ad 5), .ref (ad 18), .ref (ad 31), .ref (ad 32), .ref (ad 36), .ref (ad 42), .ref (ad 45), .ref (ad 47), .ref (ad 49), .ref (ad 50), .ref (ad 51)])), ((ad 36), .inr (3, [.ref (ad 37), .ref (ad 39), .ref (ad 40), .ref (ad 41), .long ((t.1 36).2.1 0)])), ((ad 37), .inr (6, [.ref (ad 38), .int ((t.1 37).1 0)])), ((ad 42), .inr (5, [.ref (ad 43), .int ((t.1 42).1 0), .int ((t.1 42).1 1), .int ((t.1 42).1 2)])), ((ad 43), .inr (6, [.ref (ad 44), .int ((t.1 43).1 0)])), ((ad 45), .inr (6, [.ref (ad 46), .int ((t.1 45).1 0)])), ((ad 47), .inr (6, [.ref (ad 48), .int ((t.1 47).1 0)])), ((u.2.2 1 i), .inr (0, [.ref me_c, .int ((t.2 1 i).1 0), .int ((t.2 1 i).1 1), .int ((t.2 1 i).1 2), .int ((t.2 1 i).1 3), .int ((t.2 1 i).1 4)])), (me_c, .inr (6, [.ref gr_c, .int ((t.2 1 i).1 5)])), (gr_c, .inl (3, 4, .inr (.inl ((t.2 1 i).2.2.1))))] := hI.1.B [0, 36, 37, 42, 43, 45, 47] [((ad 0), .inr (11, [.ref (ad 1), .ref (ad 5), .ref (ad 18), .ref (ad 31), .ref (ad 32), .ref (ad 36), .ref (ad 42), .ref (ad 45), .ref (ad 47), .ref (ad 49), .ref (ad 50), .ref (ad 51)])), ((ad 36), .inr (3, [.ref (ad 37), .ref (ad 39), .ref (ad 40), .ref (ad 41), .long ((t.1 36).2.1 0)])), ((ad 37), .inr (6, [.ref (ad 38), .int ((t.1 37).1 0)])), ((ad 42), .inr (5, [.ref (ad 43), .int ((t.1 42).1 0), .int ((t.1 42).1 1), .int ((t.1 42).1 2)])), ((ad 43), .inr (6, [.ref (ad 44), .int ((t.1 43).1 0)])), ((ad 45), .inr (6, [.ref (ad 46), .int ((t.1 45).1 0)])), ((ad 47), .inr (6, [.ref (ad 48), .int ((t.1 47).1 0)]))] [((u.2.2 1 i), .inr (0, [.ref me_c, .int ((t.2 1 i).1 0), .int ((t.2 1 i).1 1), .int ((t.2 1 i).1 2), .int ((t.2 1 i).1 3), .int ((t.2 1 i).1 4)])), (me_c, .inr (6, [.ref gr_c, .int ((t.2 1 i).1 5)])), (gr_c, .inl (3, 4, .inr (.inl ((t.2 1 i).2.2.1))))] rfl (by decide) (by decide) (List.forall_mem_cons.mpr ⟨wf_a, (List.forall_mem_cons.mpr ⟨wf_fu, (List.forall_mem_cons.mpr ⟨wf_fub, (List.forall_mem_cons.mpr ⟨wf_la, (List.forall_mem_cons.mpr ⟨wf_lab, (List.forall_mem_cons.mpr ⟨wf_gy, (List.forall_mem_cons.mpr ⟨wf_du, (fun _ h => nomatch h)⟩)⟩)⟩)⟩)⟩)⟩)⟩) (List.forall_mem_cons.mpr ⟨hw_c, (List.forall_mem_cons.mpr ⟨hwm_c, (List.forall_mem_cons.mpr ⟨hwg_c, (fun _ h => nomatch h)⟩)⟩)⟩) (List.forall_mem_cons.mpr ⟨nf_c, (List.forall_mem_cons.mpr ⟨nfm_c, (List.forall_mem_cons.mpr ⟨nfg_c, (fun _ h => nomatch h)⟩)⟩)⟩) (by simp [z_kd])
          refine y_base hJ ?_
          refine y_castO lk_Ip_441 d_Ip_ironBalances_63 (q0 := 7) rfl rfl ?_
          refine y_astore (lv' := [(4, .ref (u.2.2 1 i)), (3, .int (nI i)), (1, .long (hbS (((t.1 37).1 0).toInt64 + ((t.1 43).1 0).toInt64 + ((t.1 45).1 0).toInt64 + ((t.1 47).1 0).toInt64) (t.2 1) i)), (0, .ref (ad 0))]) d_Ip_ironBalances_66 (by decide) rfl ?_
          refine y_aload d_Ip_ironBalances_68 0 rfl ?_
          refine y_get fs_Ip_469 d_Ip_ironBalances_70 (q0 := 7) rfl rfl ?_
          refine y_if_ne (tgt := 88) d_Ip_ironBalances_73 (by decide) (fun c_73 => ?_) (fun c_73 => ?_)
          · have hb9 : (hbS (((t.1 37).1 0).toInt64 + ((t.1 43).1 0).toInt64 + ((t.1 45).1 0).toInt64 + ((t.1 47).1 0).toInt64) (t.2 1) (i + 1)) = (hbS (((t.1 37).1 0).toInt64 + ((t.1 43).1 0).toInt64 + ((t.1 45).1 0).toInt64 + ((t.1 47).1 0).toInt64) (t.2 1) i) := if_neg c_73
            refine y_iinc (lv' := [(3, .int (nI (i + 1))), (4, .ref (u.2.2 1 i)), (1, .long (hbS (((t.1 37).1 0).toInt64 + ((t.1 43).1 0).toInt64 + ((t.1 45).1 0).toInt64 + ((t.1 47).1 0).toInt64) (t.2 1) i)), (0, .ref (ad 0))]) (v := nI (i + 1)) d_Ip_ironBalances_88 (j := 1) rfl (nI_add _ _) (by decide) rfl ?_
            refine y_goto (tgt := 44) d_Ip_ironBalances_91 (by decide) ?_
            refine y_lv (lv' := [(3, .int (nI (i + 1))), (1, .long (hbS (((t.1 37).1 0).toInt64 + ((t.1 43).1 0).toInt64 + ((t.1 45).1 0).toInt64 + ((t.1 47).1 0).toInt64) (t.2 1) i)), (0, .ref (ad 0))]) [0, 2, 3] rfl ?_
            refine y_lvE (lv2 := [(3, .int (nI (i + 1))), (1, .long (hbS (((t.1 37).1 0).toInt64 + ((t.1 43).1 0).toInt64 + ((t.1 45).1 0).toInt64 + ((t.1 47).1 0).toInt64) (t.2 1) (i + 1))), (0, .ref (ad 0))]) (by rw [hb9]) ?_
            refine y_end (fun wC2 hC2 => ?_)
            obtain rfl := z_I.same hJ hC2
            exact ih (i + 1) (by omega) (by omega)
          · have hb9 : (hbS (((t.1 37).1 0).toInt64 + ((t.1 43).1 0).toInt64 + ((t.1 45).1 0).toInt64 + ((t.1 47).1 0).toInt64) (t.2 1) (i + 1)) = (hbS (((t.1 37).1 0).toInt64 + ((t.1 43).1 0).toInt64 + ((t.1 45).1 0).toInt64 + ((t.1 47).1 0).toInt64) (t.2 1) i) + ((t.2 1 i).1 5).toInt64 := if_pos (c_73)
            refine y_lload_n d_Ip_ironBalances_76 rfl 2 rfl ?_
            refine y_aload d_Ip_ironBalances_77 0 rfl ?_
            refine y_get fs_Ip_450 d_Ip_ironBalances_79 (q0 := 7) rfl rfl ?_
            refine y_get fs_Ip_269 d_Ip_ironBalances_82 (q0 := 8) rfl rfl ?_
            refine y_i2l d_Ip_ironBalances_85 (v := ((t.2 1 i).1 5).toInt64) rfl ?_
            refine y_ladd d_Ip_ironBalances_86 (v := (hbS (((t.1 37).1 0).toInt64 + ((t.1 43).1 0).toInt64 + ((t.1 45).1 0).toInt64 + ((t.1 47).1 0).toInt64) (t.2 1) i) + (((t.2 1 i).1 5).toInt64)) rfl ?_
            refine y_lstore_n (lv' := [(1, .long ((hbS (((t.1 37).1 0).toInt64 + ((t.1 43).1 0).toInt64 + ((t.1 45).1 0).toInt64 + ((t.1 47).1 0).toInt64) (t.2 1) i) + (((t.2 1 i).1 5).toInt64))), (4, .ref (u.2.2 1 i)), (3, .int (nI i)), (0, .ref (ad 0))]) d_Ip_ironBalances_87 rfl (by decide) rfl ?_
            refine y_iinc (lv' := [(3, .int (nI (i + 1))), (1, .long ((hbS (((t.1 37).1 0).toInt64 + ((t.1 43).1 0).toInt64 + ((t.1 45).1 0).toInt64 + ((t.1 47).1 0).toInt64) (t.2 1) i) + (((t.2 1 i).1 5).toInt64))), (4, .ref (u.2.2 1 i)), (0, .ref (ad 0))]) (v := nI (i + 1)) d_Ip_ironBalances_88 (j := 2) rfl (nI_add _ _) (by decide) rfl ?_
            refine y_goto (tgt := 44) d_Ip_ironBalances_91 (by decide) ?_
            refine y_lv (lv' := [(3, .int (nI (i + 1))), (1, .long ((hbS (((t.1 37).1 0).toInt64 + ((t.1 43).1 0).toInt64 + ((t.1 45).1 0).toInt64 + ((t.1 47).1 0).toInt64) (t.2 1) i) + (((t.2 1 i).1 5).toInt64))), (0, .ref (ad 0))]) [0, 1, 3] rfl ?_
            refine y_lvE (lv2 := [(3, .int (nI (i + 1))), (1, .long (hbS (((t.1 37).1 0).toInt64 + ((t.1 43).1 0).toInt64 + ((t.1 45).1 0).toInt64 + ((t.1 47).1 0).toInt64) (t.2 1) (i + 1))), (0, .ref (ad 0))]) (by rw [hb9]) ?_
            refine y_end (fun wC3 hC3 => ?_)
            obtain rfl := z_I.same hJ hC3
            exact ih (i + 1) (by omega) (by omega)
set_option maxHeartbeats 4000000 in
set_option maxRecDepth 100000 in
theorem Qe_ironBalances {g : zG} {ad : Nat → Nat} {t : zTT} {u : zNN} {w : zW} (hI : IV g ad t u w) (hb : (hbS (((t.1 37).1 0).toInt64 + ((t.1 43).1 0).toInt64 + ((t.1 45).1 0).toInt64 + ((t.1 47).1 0).toInt64) (t.2 1) (u.1 1)) = (t.1 36).2.1 0) : zMB g M_Ip_ironBalances [.ref (ad 0)] w (fun o w1 => o = .inl (some (.int 1)) ∧ w1 = w) 0 0 := by
  obtain ⟨e_a, wf_a, k_a⟩ := hI.1.2 0 (by decide)
  obtain rfl := kd_0.mp k_a
  obtain ⟨e_fu, wf_fu, k_fu⟩ := hI.1.2 36 (by decide)
  obtain rfl := kd_36.mp k_fu
  obtain ⟨e_fub, wf_fub, k_fub⟩ := hI.1.2 37 (by decide)
  obtain rfl := kd_37.mp k_fub
  obtain ⟨e_la, wf_la, k_la⟩ := hI.1.2 42 (by decide)
  obtain ⟨c_la_0, rfl⟩ := kd_42.mp k_la
  obtain ⟨e_lab, wf_lab, k_lab⟩ := hI.1.2 43 (by decide)
  obtain ⟨c_lab_0, rfl⟩ := kd_43.mp k_lab
  obtain ⟨e_gy, wf_gy, k_gy⟩ := hI.1.2 45 (by decide)
  obtain rfl := kd_45.mp k_gy
  obtain ⟨e_du, wf_du, k_du⟩ := hI.1.2 47 (by decide)
  obtain rfl := kd_47.mp k_du
  have hJ := hI.1.I [0, 36, 37, 42, 43, 45, 47] [((ad 0), .inr (11, [.ref (ad 1), .ref (ad 5), .ref (ad 18), .ref (ad 31), .ref (ad 32), .ref (ad 36), .ref (ad 42), .ref (ad 45), .ref (ad 47), .ref (ad 49), .ref (ad 50), .ref (ad 51)])), ((ad 36), .inr (3, [.ref (ad 37), .ref (ad 39), .ref (ad 40), .ref (ad 41), .long ((t.1 36).2.1 0)])), ((ad 37), .inr (6, [.ref (ad 38), .int ((t.1 37).1 0)])), ((ad 42), .inr (5, [.ref (ad 43), .int ((t.1 42).1 0), .int ((t.1 42).1 1), .int ((t.1 42).1 2)])), ((ad 43), .inr (6, [.ref (ad 44), .int ((t.1 43).1 0)])), ((ad 45), .inr (6, [.ref (ad 46), .int ((t.1 45).1 0)])), ((ad 47), .inr (6, [.ref (ad 48), .int ((t.1 47).1 0)]))] rfl (by decide) (by decide) (List.forall_mem_cons.mpr ⟨wf_a, (List.forall_mem_cons.mpr ⟨wf_fu, (List.forall_mem_cons.mpr ⟨wf_fub, (List.forall_mem_cons.mpr ⟨wf_la, (List.forall_mem_cons.mpr ⟨wf_lab, (List.forall_mem_cons.mpr ⟨wf_gy, (List.forall_mem_cons.mpr ⟨wf_du, (fun _ h => nomatch h)⟩)⟩)⟩)⟩)⟩)⟩)⟩)
  refine y_of (by decide) rfl (Nat.le_of_ble_eq_true rfl) (y_base (cs := [((ad 0), .inr (11, [.ref (ad 1), .ref (ad 5), .ref (ad 18), .ref (ad 31), .ref (ad 32), .ref (ad 36), .ref (ad 42), .ref (ad 45), .ref (ad 47), .ref (ad 49), .ref (ad 50), .ref (ad 51)])), ((ad 36), .inr (3, [.ref (ad 37), .ref (ad 39), .ref (ad 40), .ref (ad 41), .long ((t.1 36).2.1 0)])), ((ad 37), .inr (6, [.ref (ad 38), .int ((t.1 37).1 0)])), ((ad 42), .inr (5, [.ref (ad 43), .int ((t.1 42).1 0), .int ((t.1 42).1 1), .int ((t.1 42).1 2)])), ((ad 43), .inr (6, [.ref (ad 44), .int ((t.1 43).1 0)])), ((ad 45), .inr (6, [.ref (ad 46), .int ((t.1 45).1 0)])), ((ad 47), .inr (6, [.ref (ad 48), .int ((t.1 47).1 0)]))]) hJ ?_)
  refine y_lvE (lv2 := [(0, .ref (ad 0))]) rfl ?_
  refine y_aload_n d_Ip_ironBalances_0 rfl 0 rfl ?_
  refine y_get fs_Ip_43 d_Ip_ironBalances_1 (q0 := 0) rfl rfl ?_
  refine y_get fs_Ip_277 d_Ip_ironBalances_4 (q0 := 1) rfl rfl ?_
  refine y_get fs_Ip_269 d_Ip_ironBalances_7 (q0 := 2) rfl rfl ?_
  refine y_i2l d_Ip_ironBalances_10 (v := ((t.1 37).1 0).toInt64) rfl ?_
  refine y_aload_n d_Ip_ironBalances_11 rfl 0 rfl ?_
  refine y_get fs_Ip_50 d_Ip_ironBalances_12 (q0 := 0) rfl rfl ?_
  refine y_get fs_Ip_359 d_Ip_ironBalances_15 (q0 := 3) rfl rfl ?_
  refine y_get fs_Ip_269 d_Ip_ironBalances_18 (q0 := 4) rfl rfl ?_
  refine y_i2l d_Ip_ironBalances_21 (v := ((t.1 43).1 0).toInt64) rfl ?_
  refine y_ladd d_Ip_ironBalances_22 (v := (((t.1 37).1 0).toInt64) + (((t.1 43).1 0).toInt64)) rfl ?_
  refine y_aload_n d_Ip_ironBalances_23 rfl 0 rfl ?_
  refine y_get fs_Ip_57 d_Ip_ironBalances_24 (q0 := 0) rfl rfl ?_
  refine y_get fs_Ip_269 d_Ip_ironBalances_27 (q0 := 5) rfl rfl ?_
  refine y_i2l d_Ip_ironBalances_30 (v := ((t.1 45).1 0).toInt64) rfl ?_
  refine y_ladd d_Ip_ironBalances_31 (v := ((((t.1 37).1 0).toInt64) + (((t.1 43).1 0).toInt64)) + (((t.1 45).1 0).toInt64)) rfl ?_
  refine y_aload_n d_Ip_ironBalances_32 rfl 0 rfl ?_
  refine y_get fs_Ip_61 d_Ip_ironBalances_33 (q0 := 0) rfl rfl ?_
  refine y_get fs_Ip_269 d_Ip_ironBalances_36 (q0 := 6) rfl rfl ?_
  refine y_i2l d_Ip_ironBalances_39 (v := ((t.1 47).1 0).toInt64) rfl ?_
  refine y_ladd d_Ip_ironBalances_40 (v := (((((t.1 37).1 0).toInt64) + (((t.1 43).1 0).toInt64)) + (((t.1 45).1 0).toInt64)) + (((t.1 47).1 0).toInt64)) rfl ?_
  refine y_lstore_n (lv' := [(1, .long ((((((t.1 37).1 0).toInt64) + (((t.1 43).1 0).toInt64)) + (((t.1 45).1 0).toInt64)) + (((t.1 47).1 0).toInt64))), (0, .ref (ad 0))]) d_Ip_ironBalances_41 rfl (by decide) rfl ?_
  refine y_iconst d_Ip_ironBalances_42 (v := 0) (by decide) ?_
  refine y_istore_n (lv' := [(3, .int 0), (1, .long ((((((t.1 37).1 0).toInt64) + (((t.1 43).1 0).toInt64)) + (((t.1 45).1 0).toInt64)) + (((t.1 47).1 0).toInt64))), (0, .ref (ad 0))]) d_Ip_ironBalances_43 rfl (by decide) rfl ?_
  refine y_lvE (lv2 := [(3, .int (nI 0)), (1, .long (hbS (((t.1 37).1 0).toInt64 + ((t.1 43).1 0).toInt64 + ((t.1 45).1 0).toInt64 + ((t.1 47).1 0).toInt64) (t.2 1) 0)), (0, .ref (ad 0))]) rfl ?_
  refine y_end (fun wC4 hC4 => ?_)
  obtain rfl := z_I.same hJ hC4
  exact L_Qe_ironBalances_44 g hI hb (u.1 1 + 1) 0 (Nat.zero_le _) (by omega)
set_option maxHeartbeats 4000000 in
set_option maxRecDepth 100000 in
theorem L_Qe_elementBalances_59 (g : zG) {ad : Nat → Nat} {t : zTT} {u : zNN} {w : zW} (hI : IV g ad t u w) (e : Nat) (he : e < 4) (hb : (hgS ((t.1 38).2.1 e + (t.1 44).2.1 e + (t.1 46).2.1 e + (t.1 48).2.1 e + (t.1 41).2.1 e) (t.2 1) e (u.1 1)) * 10 + (t.1 40).2.1 e = (t.1 39).2.1 e) : ∀ (d i : Nat), i ≤ u.1 1 → u.1 1 < i + d → DW g M_Ip_elementBalances (fun o w1 => o = .inl (some (.int 1)) ∧ w1 = w) w 59 [(4, .int (nI i)), (2, .long (hgS ((t.1 38).2.1 e + (t.1 44).2.1 e + (t.1 46).2.1 e + (t.1 48).2.1 e + (t.1 41).2.1 e) (t.2 1) e i)), (0, .ref (ad 0)), (1, .int (nI e))] [] 0 0 := by
  intro d
  induction d with
  | zero => intro i h1 h2; exact absurd h2 (by omega)
  | succ d ih =>
    intro i h1 h2
    obtain ⟨e_a, wf_a, k_a⟩ := hI.1.2 0 (by decide)
    obtain rfl := kd_0.mp k_a
    obtain ⟨e_fu, wf_fu, k_fu⟩ := hI.1.2 36 (by decide)
    obtain rfl := kd_36.mp k_fu
    obtain ⟨e_fub, wf_fub, k_fub⟩ := hI.1.2 37 (by decide)
    obtain rfl := kd_37.mp k_fub
    obtain ⟨e_fubg, wf_fubg, k_fubg⟩ := hI.1.2 38 (by decide)
    obtain rfl := kd_38.mp k_fubg
    obtain ⟨e_fut1, wf_fut1, k_fut1⟩ := hI.1.2 39 (by decide)
    obtain rfl := kd_39.mp k_fut1
    obtain ⟨e_fut2, wf_fut2, k_fut2⟩ := hI.1.2 40 (by decide)
    obtain rfl := kd_40.mp k_fut2
    obtain ⟨e_fut3, wf_fut3, k_fut3⟩ := hI.1.2 41 (by decide)
    obtain rfl := kd_41.mp k_fut3
    obtain ⟨e_la, wf_la, k_la⟩ := hI.1.2 42 (by decide)
    obtain ⟨c_la_0, rfl⟩ := kd_42.mp k_la
    obtain ⟨e_lab, wf_lab, k_lab⟩ := hI.1.2 43 (by decide)
    obtain ⟨c_lab_0, rfl⟩ := kd_43.mp k_lab
    obtain ⟨e_labg, wf_labg, k_labg⟩ := hI.1.2 44 (by decide)
    obtain rfl := kd_44.mp k_labg
    obtain ⟨e_gy, wf_gy, k_gy⟩ := hI.1.2 45 (by decide)
    obtain rfl := kd_45.mp k_gy
    obtain ⟨e_gyg, wf_gyg, k_gyg⟩ := hI.1.2 46 (by decide)
    obtain rfl := kd_46.mp k_gyg
    obtain ⟨e_du, wf_du, k_du⟩ := hI.1.2 47 (by decide)
    obtain rfl := kd_47.mp k_du
    obtain ⟨e_dug, wf_dug, k_dug⟩ := hI.1.2 48 (by decide)
    obtain rfl := kd_48.mp k_dug
    have h33 := hI.n5 1 (by decide)
    have hJ := hI.1.I [0, 36, 37, 38, 39, 40, 41, 42, 43, 44, 45, 46, 47, 48] [((ad 0), .inr (11, [.ref (ad 1), .ref (ad 5), .ref (ad 18), .ref (ad 31), .ref (ad 32), .ref (ad 36), .ref (ad 42), .ref (ad 45), .ref (ad 47), .ref (ad 49), .ref (ad 50), .ref (ad 51)])), ((ad 36), .inr (3, [.ref (ad 37), .ref (ad 39), .ref (ad 40), .ref (ad 41), .long ((t.1 36).2.1 0)])), ((ad 37), .inr (6, [.ref (ad 38), .int ((t.1 37).1 0)])), ((ad 38), .inl (3, 4, .inr (.inl ((t.1 38).2.1)))), ((ad 39), .inl (3, 4, .inr (.inl ((t.1 39).2.1)))), ((ad 40), .inl (3, 4, .inr (.inl ((t.1 40).2.1)))), ((ad 41), .inl (3, 4, .inr (.inl ((t.1 41).2.1)))), ((ad 42), .inr (5, [.ref (ad 43), .int ((t.1 42).1 0), .int ((t.1 42).1 1), .int ((t.1 42).1 2)])), ((ad 43), .inr (6, [.ref (ad 44), .int ((t.1 43).1 0)])), ((ad 44), .inl (3, 4, .inr (.inl ((t.1 44).2.1)))), ((ad 45), .inr (6, [.ref (ad 46), .int ((t.1 45).1 0)])), ((ad 46), .inl (3, 4, .inr (.inl ((t.1 46).2.1)))), ((ad 47), .inr (6, [.ref (ad 48), .int ((t.1 47).1 0)])), ((ad 48), .inl (3, 4, .inr (.inl ((t.1 48).2.1))))] rfl (by decide) (by decide) (List.forall_mem_cons.mpr ⟨wf_a, (List.forall_mem_cons.mpr ⟨wf_fu, (List.forall_mem_cons.mpr ⟨wf_fub, (List.forall_mem_cons.mpr ⟨wf_fubg, (List.forall_mem_cons.mpr ⟨wf_fut1, (List.forall_mem_cons.mpr ⟨wf_fut2, (List.forall_mem_cons.mpr ⟨wf_fut3, (List.forall_mem_cons.mpr ⟨wf_la, (List.forall_mem_cons.mpr ⟨wf_lab, (List.forall_mem_cons.mpr ⟨wf_labg, (List.forall_mem_cons.mpr ⟨wf_gy, (List.forall_mem_cons.mpr ⟨wf_gyg, (List.forall_mem_cons.mpr ⟨wf_du, (List.forall_mem_cons.mpr ⟨wf_dug, (fun _ h => nomatch h)⟩)⟩)⟩)⟩)⟩)⟩)⟩)⟩)⟩)⟩)⟩)⟩)⟩)⟩)
    refine y_base hJ ?_
    refine y_iload d_Ip_elementBalances_59 0 rfl ?_
    refine y_aload_n d_Ip_elementBalances_61 rfl 2 rfl ?_
    refine y_get fs_Ip_78 d_Ip_elementBalances_62 (q0 := 0) rfl rfl ?_
    refine yw_callVL (As := []) (rest := [.int (nI i)]) (ci := 13) rfl (fun wA hA => ((hI.gen (t2 := t) (is := [0, 36, 37, 38, 39, 40, 41, 42, 43, 44, 45, 46, 47, 48]) (L2 := []) hA rfl ⟨kd_0.mpr rfl, kd_36.mpr rfl, kd_37.mpr rfl, kd_38.mpr rfl, kd_39.mpr rfl, kd_40.mpr rfl, kd_41.mpr rfl, kd_42.mpr ⟨c_la_0, rfl⟩, kd_43.mpr ⟨c_lab_0, rfl⟩, kd_44.mpr rfl, kd_45.mpr rfl, kd_46.mpr rfl, kd_47.mpr rfl, kd_48.mpr rfl, trivial⟩ (by decide) (by decide) (fun _ h => nomatch h) (fun _ h => nomatch h) (fun _ _ _ => rfl) (fun h => h) rfl).2.1.1 1 (by decide)).ob) ln_Ip_341 w_im_AL_size w_se_AL_size ok_Ip_elementBalances_AL_size d_Ip_elementBalances_65 (fun wA hA => Q_size ((hI.gen (t2 := t) (is := [0, 36, 37, 38, 39, 40, 41, 42, 43, 44, 45, 46, 47, 48]) (L2 := []) hA rfl ⟨kd_0.mpr rfl, kd_36.mpr rfl, kd_37.mpr rfl, kd_38.mpr rfl, kd_39.mpr rfl, kd_40.mpr rfl, kd_41.mpr rfl, kd_42.mpr ⟨c_la_0, rfl⟩, kd_43.mpr ⟨c_lab_0, rfl⟩, kd_44.mpr rfl, kd_45.mpr rfl, kd_46.mpr rfl, kd_47.mpr rfl, kd_48.mpr rfl, trivial⟩ (by decide) (by decide) (fun _ h => nomatch h) (fun _ h => nomatch h) (fun _ _ _ => rfl) (fun h => h) rfl).2.1.1 1 (by decide))) rfl rfl (Nat.le_of_ble_eq_true rfl) (by omega) (by omega) (fun wA65 hA65 E wB65 hx => ?_) (fun wA65 hA65 v wB65 hx => ?_)
    · exact absurd hx.1 (by simp)
    · obtain ⟨e1, e2⟩ := hx
      cases e1
      refine yw_st (st2 := [.int (nI (u.1 1)), .int (nI i)]) rfl ?_
      subst e2
      refine y_go hA65 ?_
      refine y_icmp_ge (tgt := 112) d_Ip_elementBalances_68 (by decide) (fun c_68 => ?_) (fun c_68 => ?_)
      · have hn := z_le (a := (u.1 1)) (b := i) (by omega) (by omega) c_68
        obtain rfl : i = (u.1 1) := by omega
        refine y_lload_n d_Ip_elementBalances_112 rfl 1 rfl ?_
        refine y_ldc2 ct_Ip_567 d_Ip_elementBalances_113 ?_
        refine y_lmul d_Ip_elementBalances_116 (v := (hgS ((t.1 38).2.1 e + (t.1 44).2.1 e + (t.1 46).2.1 e + (t.1 48).2.1 e + (t.1 41).2.1 e) (t.2 1) e (u.1 1)) * 10) rfl ?_
        refine y_aload_n d_Ip_elementBalances_117 rfl 2 rfl ?_
        refine y_get fs_Ip_43 d_Ip_elementBalances_118 (q0 := 0) rfl rfl ?_
        refine y_get fs_Ip_569 d_Ip_elementBalances_121 (q0 := 1) rfl rfl ?_
        refine y_iload_n d_Ip_elementBalances_124 rfl 3 rfl ?_
        refine y_lald d_Ip_elementBalances_125 (q0 := 5) rfl (vp_in_nI (by omega) (by omega)) (v := ((t.1 40).2.1) e) (by rw [nI_clamp (by omega)]) ?_
        refine y_ladd d_Ip_elementBalances_126 (v := ((hgS ((t.1 38).2.1 e + (t.1 44).2.1 e + (t.1 46).2.1 e + (t.1 48).2.1 e + (t.1 41).2.1 e) (t.2 1) e (u.1 1)) * 10) + (((t.1 40).2.1) e)) rfl ?_
        refine y_aload_n d_Ip_elementBalances_127 rfl 2 rfl ?_
        refine y_get fs_Ip_43 d_Ip_elementBalances_128 (q0 := 0) rfl rfl ?_
        refine y_get fs_Ip_572 d_Ip_elementBalances_131 (q0 := 1) rfl rfl ?_
        refine y_iload_n d_Ip_elementBalances_134 rfl 3 rfl ?_
        refine y_lald d_Ip_elementBalances_135 (q0 := 4) rfl (vp_in_nI (by omega) (by omega)) (v := ((t.1 39).2.1) e) (by rw [nI_clamp (by omega)]) ?_
        refine y_lcmp d_Ip_elementBalances_136 (v := lg_cmp (((hgS ((t.1 38).2.1 e + (t.1 44).2.1 e + (t.1 46).2.1 e + (t.1 48).2.1 e + (t.1 41).2.1 e) (t.2 1) e (u.1 1)) * 10) + (((t.1 40).2.1) e)) (((t.1 39).2.1) e)) rfl ?_
        refine y_if_ne (tgt := 144) d_Ip_elementBalances_137 (by decide) (fun c_137 => ?_) (fun c_137 => ?_)
        · exact absurd c_137 (lgs9 hb)
        · refine y_iconst d_Ip_elementBalances_140 (v := 1) (by decide) ?_
          refine y_goto (tgt := 145) d_Ip_elementBalances_141 (by decide) ?_
          refine y_iret d_Ip_elementBalances_145 rfl rfl ?_
          exact fun w1 h1 => ⟨rfl, z_I.same hJ h1⟩
      · have hn := z_nle (a := (u.1 1)) (b := i) (by omega) (by omega) c_68
        refine y_aload_n d_Ip_elementBalances_71 rfl 2 rfl ?_
        refine y_get fs_Ip_78 d_Ip_elementBalances_72 (q0 := 0) rfl rfl ?_
        refine y_iload d_Ip_elementBalances_75 0 rfl ?_
        refine yw_callVL (As := [.int (nI i)]) (rest := []) (ci := 13) rfl (fun wA hA => ((hI.gen (t2 := t) (is := [0, 36, 37, 38, 39, 40, 41, 42, 43, 44, 45, 46, 47, 48]) (L2 := []) hA rfl ⟨kd_0.mpr rfl, kd_36.mpr rfl, kd_37.mpr rfl, kd_38.mpr rfl, kd_39.mpr rfl, kd_40.mpr rfl, kd_41.mpr rfl, kd_42.mpr ⟨c_la_0, rfl⟩, kd_43.mpr ⟨c_lab_0, rfl⟩, kd_44.mpr rfl, kd_45.mpr rfl, kd_46.mpr rfl, kd_47.mpr rfl, kd_48.mpr rfl, trivial⟩ (by decide) (by decide) (fun _ h => nomatch h) (fun _ h => nomatch h) (fun _ _ _ => rfl) (fun h => h) rfl).2.1.1 1 (by decide)).ob) ln_Ip_344 w_im_AL_get w_se_AL_get ok_Ip_elementBalances_AL_get d_Ip_elementBalances_77 (fun wA hA => Q_get ((hI.gen (t2 := t) (is := [0, 36, 37, 38, 39, 40, 41, 42, 43, 44, 45, 46, 47, 48]) (L2 := []) hA rfl ⟨kd_0.mpr rfl, kd_36.mpr rfl, kd_37.mpr rfl, kd_38.mpr rfl, kd_39.mpr rfl, kd_40.mpr rfl, kd_41.mpr rfl, kd_42.mpr ⟨c_la_0, rfl⟩, kd_43.mpr ⟨c_lab_0, rfl⟩, kd_44.mpr rfl, kd_45.mpr rfl, kd_46.mpr rfl, kd_47.mpr rfl, kd_48.mpr rfl, trivial⟩ (by decide) (by decide) (fun _ h => nomatch h) (fun _ h => nomatch h) (fun _ _ _ => rfl) (fun h => h) rfl).2.1.1 1 (by decide)) hn) rfl rfl (Nat.le_of_ble_eq_true rfl) (by omega) (by omega) (fun wA77 hA77 E wB77 hx => ?_) (fun wA77 hA77 v wB77 hx => ?_)
        · exact absurd hx.1 (by simp)
        · obtain ⟨e1, e2⟩ := hx
          cases e1
          refine yw_st (st2 := [.ref (u.2.2 1 i)]) rfl ?_
          subst e2
          refine y_go hA77 ?_
          refine y_end (fun wC1 hC1 => ?_)
          obtain rfl := z_I.same hJ hC1
          obtain ⟨nf_c, me_c, gr_c, hw_c, nfm_c, hwm_c, nfg_c, hwg_c⟩ := hI.2.1.2.1 1 (by decide) i hn
          have hJ : z_I _ _ ([((ad 0), .inr (11, [.ref (ad 1), .ref (ad 5), .ref (ad 18), .ref (ad 31), .ref (ad 32), .ref (ad 36), .ref (ad 42), .ref (ad 45), .ref (ad 47), .ref (ad 49), .ref (ad 50), .ref (ad 51)])), ((ad 36), .inr (3, [.ref (ad 37), .ref (ad 39), .ref (ad 40), .ref (ad 41), .long ((t.1 36).2.1 0)])), ((ad 37), .inr (6, [.ref (ad 38), .int ((t.1 37).1 0)])), ((ad 38), .inl (3, 4, .inr (.inl ((t.1 38).2.1)))), ((ad 39), .inl (3, 4, .inr (.inl ((t.1 39).2.1)))), ((ad 40), .inl (3, 4, .inr (.inl ((t.1 40).2.1)))), ((ad 41), .inl (3, 4, .inr (.inl ((t.1 41).2.1)))), ((ad 42), .inr (5, [.ref (ad 43), .int ((t.1 42).1 0), .int ((t.1 42).1 1), .int ((t.1 42).1 2)])), ((ad 43), .inr (6, [.ref (ad 44), .int ((t.1 43).1 0)])), ((ad 44), .inl (3, 4, .inr (.inl ((t.1 44).2.1)))), ((ad 45), .inr (6, [.ref (ad 46), .int ((t.1 45).1 0)])), ((ad 46), .inl (3, 4, .inr (.inl ((t.1 46).2.1)))), ((ad 47), .inr (6, [.ref (ad 48), .int ((t.1 47).1 0)])), ((ad 48), .inl (3, 4, .inr (.inl ((t.1 48).2.1)))), ((u.2.2 1 i), .inr (0, [.ref me_c, .int ((t.2 1 i).1 0), .int ((t.2 1 i).1 1), .int ((t.2 1 i).1 2), .int ((t.2 1 i).1 3), .int ((t.2 1 i).1 4)])), (me_c, .inr (6, [.ref gr_c, .int ((t.2 1 i).1 5)])), (gr_c, .inl (3, 4, .inr (.inl ((t.2 1 i).2.2.1))))] : zC).length [((ad 0), .inr (11, [.ref (ad 1), .ref (ad 5), .ref (ad 18), .ref (ad 31), .ref (ad 32), .ref (ad 36), .ref (ad 42), .ref (ad 45), .ref (ad 47), .ref (ad 49), .ref (ad 50), .ref (ad 51)])), ((ad 36), .inr (3, [.ref (ad 37), .ref (ad 39), .ref (ad 40), .ref (ad 41), .long ((t.1 36).2.1 0)])), ((ad 37), .inr (6, [.ref (ad 38), .int ((t.1 37).1 0)])), ((ad 38), .inl (3, 4, .inr (.inl ((t.1 38).2.1)))), ((ad 39), .inl (3, 4, .inr (.inl ((t.1 39).2.1)))), ((ad 40), .inl (3, 4, .inr (.inl ((t.1 40).2.1)))), ((ad 41), .inl (3, 4, .inr (.inl ((t.1 41).2.1)))), ((ad 42), .inr (5, [.ref (ad 43), .int ((t.1 42).1 0), .int ((t.1 42).1 1), .int ((t.1 42).1 2)])), ((ad 43), .inr (6, [.ref (ad 44), .int ((t.1 43).1 0)])), ((ad 44), .inl (3, 4, .inr (.inl ((t.1 44).2.1)))), ((ad 45), .inr (6, [.ref (ad 46), .int ((t.1 45).1 0)])), ((ad 46), .inl (3, 4, .inr (.inl ((t.1 46).2.1)))), ((ad 47), .inr (6, [.ref (ad 48), .int ((t.1 47).1 0)])), ((ad 48), .inl (3, 4, .inr (.inl ((t.1 48).2.1)))), ((u.2.2 1 i), .inr (0, [.ref me_c, .int ((t.2 1 i).1 0), .int ((t.2 1 i).1 1), .int ((t.2 1 i).1 2), .int ((t.2 1 i).1 3), .int ((t.2 1 i).1 4)])), (me_c, .inr (6, [.ref gr_c, .int ((t.2 1 i).1 5)])), (gr_c, .inl (3, 4, .inr (.inl ((t.2 1 i).2.2.1))))] := hI.1.B [0, 36, 37, 38, 39, 40, 41, 42, 43, 44, 45, 46, 47, 48] [((ad 0), .inr (11, [.ref (ad 1), .ref (ad 5), .ref (ad 18), .ref (ad 31), .ref (ad 32), .ref (ad 36), .ref (ad 42), .ref (ad 45), .ref (ad 47), .ref (ad 49), .ref (ad 50), .ref (ad 51)])), ((ad 36), .inr (3, [.ref (ad 37), .ref (ad 39), .ref (ad 40), .ref (ad 41), .long ((t.1 36).2.1 0)])), ((ad 37), .inr (6, [.ref (ad 38), .int ((t.1 37).1 0)])), ((ad 38), .inl (3, 4, .inr (.inl ((t.1 38).2.1)))), ((ad 39), .inl (3, 4, .inr (.inl ((t.1 39).2.1)))), ((ad 40), .inl (3, 4, .inr (.inl ((t.1 40).2.1)))), ((ad 41), .inl (3, 4, .inr (.inl ((t.1 41).2.1)))), ((ad 42), .inr (5, [.ref (ad 43), .int ((t.1 42).1 0), .int ((t.1 42).1 1), .int ((t.1 42).1 2)])), ((ad 43), .inr (6, [.ref (ad 44), .int ((t.1 43).1 0)])), ((ad 44), .inl (3, 4, .inr (.inl ((t.1 44).2.1)))), ((ad 45), .inr (6, [.ref (ad 46), .int ((t.1 45).1 0)])), ((ad 46), .inl (3, 4, .inr (.inl ((t.1 46).2.1)))), ((ad 47), .inr (6, [.ref (ad 48), .int ((t.1 47).1 0)])), ((ad 48), .inl (3, 4, .inr (.inl ((t.1 48).2.1))))] [((u.2.2 1 i), .inr (0, [.ref me_c, .int ((t.2 1 i).1 0), .int ((t.2 1 i).1 1), .int ((t.2 1 i).1 2), .int ((t.2 1 i).1 3), .int ((t.2 1 i).1 4)])), (me_c, .inr (6, [.ref gr_c, .int ((t.2 1 i).1 5)])), (gr_c, .inl (3, 4, .inr (.inl ((t.2 1 i).2.2.1))))] rfl (by decide) (by decide) (List.forall_mem_cons.mpr ⟨wf_a, (List.forall_mem_cons.mpr ⟨wf_fu, (List.forall_mem_cons.mpr ⟨wf_fub, (List.forall_mem_cons.mpr ⟨wf_fubg, (List.forall_mem_cons.mpr ⟨wf_fut1, (List.forall_mem_cons.mpr ⟨wf_fut2, (List.forall_mem_cons.mpr ⟨wf_fut3, (List.forall_mem_cons.mpr ⟨wf_la, (List.forall_mem_cons.mpr ⟨wf_lab, (List.forall_mem_cons.mpr ⟨wf_labg, (List.forall_mem_cons.mpr ⟨wf_gy, (List.forall_mem_cons.mpr ⟨wf_gyg, (List.forall_mem_cons.mpr ⟨wf_du, (List.forall_mem_cons.mpr ⟨wf_dug, (fun _ h => nomatch h)⟩)⟩)⟩)⟩)⟩)⟩)⟩)⟩)⟩)⟩)⟩)⟩)⟩)⟩) (List.forall_mem_cons.mpr ⟨hw_c, (List.forall_mem_cons.mpr ⟨hwm_c, (List.forall_mem_cons.mpr ⟨hwg_c, (fun _ h => nomatch h)⟩)⟩)⟩) (List.forall_mem_cons.mpr ⟨nf_c, (List.forall_mem_cons.mpr ⟨nfm_c, (List.forall_mem_cons.mpr ⟨nfg_c, (fun _ h => nomatch h)⟩)⟩)⟩) (by simp [z_kd])
          refine y_base hJ ?_
          refine y_castO lk_Ip_441 d_Ip_elementBalances_80 (q0 := 14) rfl rfl ?_
          refine y_astore (lv' := [(5, .ref (u.2.2 1 i)), (4, .int (nI i)), (2, .long (hgS ((t.1 38).2.1 e + (t.1 44).2.1 e + (t.1 46).2.1 e + (t.1 48).2.1 e + (t.1 41).2.1 e) (t.2 1) e i)), (0, .ref (ad 0)), (1, .int (nI e))]) d_Ip_elementBalances_83 (by decide) rfl ?_
          refine y_aload d_Ip_elementBalances_85 0 rfl ?_
          refine y_get fs_Ip_469 d_Ip_elementBalances_87 (q0 := 14) rfl rfl ?_
          refine y_if_ne (tgt := 106) d_Ip_elementBalances_90 (by decide) (fun c_90 => ?_) (fun c_90 => ?_)
          · have hb9 : (hgS ((t.1 38).2.1 e + (t.1 44).2.1 e + (t.1 46).2.1 e + (t.1 48).2.1 e + (t.1 41).2.1 e) (t.2 1) e (i + 1)) = (hgS ((t.1 38).2.1 e + (t.1 44).2.1 e + (t.1 46).2.1 e + (t.1 48).2.1 e + (t.1 41).2.1 e) (t.2 1) e i) := if_neg c_90
            refine y_iinc (lv' := [(4, .int (nI (i + 1))), (5, .ref (u.2.2 1 i)), (2, .long (hgS ((t.1 38).2.1 e + (t.1 44).2.1 e + (t.1 46).2.1 e + (t.1 48).2.1 e + (t.1 41).2.1 e) (t.2 1) e i)), (0, .ref (ad 0)), (1, .int (nI e))]) (v := nI (i + 1)) d_Ip_elementBalances_106 (j := 1) rfl (nI_add _ _) (by decide) rfl ?_
            refine y_goto (tgt := 59) d_Ip_elementBalances_109 (by decide) ?_
            refine y_lv (lv' := [(4, .int (nI (i + 1))), (2, .long (hgS ((t.1 38).2.1 e + (t.1 44).2.1 e + (t.1 46).2.1 e + (t.1 48).2.1 e + (t.1 41).2.1 e) (t.2 1) e i)), (0, .ref (ad 0)), (1, .int (nI e))]) [0, 2, 3, 4] rfl ?_
            refine y_lvE (lv2 := [(4, .int (nI (i + 1))), (2, .long (hgS ((t.1 38).2.1 e + (t.1 44).2.1 e + (t.1 46).2.1 e + (t.1 48).2.1 e + (t.1 41).2.1 e) (t.2 1) e (i + 1))), (0, .ref (ad 0)), (1, .int (nI e))]) (by rw [hb9]) ?_
            refine y_end (fun wC2 hC2 => ?_)
            obtain rfl := z_I.same hJ hC2
            exact ih (i + 1) (by omega) (by omega)
          · have hb9 : (hgS ((t.1 38).2.1 e + (t.1 44).2.1 e + (t.1 46).2.1 e + (t.1 48).2.1 e + (t.1 41).2.1 e) (t.2 1) e (i + 1)) = (hgS ((t.1 38).2.1 e + (t.1 44).2.1 e + (t.1 46).2.1 e + (t.1 48).2.1 e + (t.1 41).2.1 e) (t.2 1) e i) + (t.2 1 i).2.2.1 e := if_pos (c_90)
            refine y_lload_n d_Ip_elementBalances_93 rfl 2 rfl ?_
            refine y_aload d_Ip_elementBalances_94 0 rfl ?_
            refine y_get fs_Ip_450 d_Ip_elementBalances_96 (q0 := 14) rfl rfl ?_
            refine y_get fs_Ip_308 d_Ip_elementBalances_99 (q0 := 15) rfl rfl ?_
            refine y_iload_n d_Ip_elementBalances_102 rfl 4 rfl ?_
            refine y_lald d_Ip_elementBalances_103 (q0 := 16) rfl (vp_in_nI (by omega) (by omega)) (v := ((t.2 1 i).2.2.1) e) (by rw [nI_clamp (by omega)]) ?_
            refine y_ladd d_Ip_elementBalances_104 (v := (hgS ((t.1 38).2.1 e + (t.1 44).2.1 e + (t.1 46).2.1 e + (t.1 48).2.1 e + (t.1 41).2.1 e) (t.2 1) e i) + (((t.2 1 i).2.2.1) e)) rfl ?_
            refine y_lstore_n (lv' := [(2, .long ((hgS ((t.1 38).2.1 e + (t.1 44).2.1 e + (t.1 46).2.1 e + (t.1 48).2.1 e + (t.1 41).2.1 e) (t.2 1) e i) + (((t.2 1 i).2.2.1) e))), (5, .ref (u.2.2 1 i)), (4, .int (nI i)), (0, .ref (ad 0)), (1, .int (nI e))]) d_Ip_elementBalances_105 rfl (by decide) rfl ?_
            refine y_iinc (lv' := [(4, .int (nI (i + 1))), (2, .long ((hgS ((t.1 38).2.1 e + (t.1 44).2.1 e + (t.1 46).2.1 e + (t.1 48).2.1 e + (t.1 41).2.1 e) (t.2 1) e i) + (((t.2 1 i).2.2.1) e))), (5, .ref (u.2.2 1 i)), (0, .ref (ad 0)), (1, .int (nI e))]) (v := nI (i + 1)) d_Ip_elementBalances_106 (j := 2) rfl (nI_add _ _) (by decide) rfl ?_
            refine y_goto (tgt := 59) d_Ip_elementBalances_109 (by decide) ?_
            refine y_lv (lv' := [(4, .int (nI (i + 1))), (2, .long ((hgS ((t.1 38).2.1 e + (t.1 44).2.1 e + (t.1 46).2.1 e + (t.1 48).2.1 e + (t.1 41).2.1 e) (t.2 1) e i) + (((t.2 1 i).2.2.1) e))), (0, .ref (ad 0)), (1, .int (nI e))]) [0, 1, 3, 4] rfl ?_
            refine y_lvE (lv2 := [(4, .int (nI (i + 1))), (2, .long (hgS ((t.1 38).2.1 e + (t.1 44).2.1 e + (t.1 46).2.1 e + (t.1 48).2.1 e + (t.1 41).2.1 e) (t.2 1) e (i + 1))), (0, .ref (ad 0)), (1, .int (nI e))]) (by rw [hb9]) ?_
            refine y_end (fun wC3 hC3 => ?_)
            obtain rfl := z_I.same hJ hC3
            exact ih (i + 1) (by omega) (by omega)
set_option maxHeartbeats 4000000 in
set_option maxRecDepth 100000 in
theorem Qe_elementBalances {g : zG} {ad : Nat → Nat} {t : zTT} {u : zNN} {w : zW} (hI : IV g ad t u w) (e : Nat) (he : e < 4) (hb : (hgS ((t.1 38).2.1 e + (t.1 44).2.1 e + (t.1 46).2.1 e + (t.1 48).2.1 e + (t.1 41).2.1 e) (t.2 1) e (u.1 1)) * 10 + (t.1 40).2.1 e = (t.1 39).2.1 e) : zMB g M_Ip_elementBalances [.ref (ad 0), .int (nI e)] w (fun o w1 => o = .inl (some (.int 1)) ∧ w1 = w) 0 0 := by
  obtain ⟨e_a, wf_a, k_a⟩ := hI.1.2 0 (by decide)
  obtain rfl := kd_0.mp k_a
  obtain ⟨e_fu, wf_fu, k_fu⟩ := hI.1.2 36 (by decide)
  obtain rfl := kd_36.mp k_fu
  obtain ⟨e_fub, wf_fub, k_fub⟩ := hI.1.2 37 (by decide)
  obtain rfl := kd_37.mp k_fub
  obtain ⟨e_fubg, wf_fubg, k_fubg⟩ := hI.1.2 38 (by decide)
  obtain rfl := kd_38.mp k_fubg
  obtain ⟨e_fut1, wf_fut1, k_fut1⟩ := hI.1.2 39 (by decide)
  obtain rfl := kd_39.mp k_fut1
  obtain ⟨e_fut2, wf_fut2, k_fut2⟩ := hI.1.2 40 (by decide)
  obtain rfl := kd_40.mp k_fut2
  obtain ⟨e_fut3, wf_fut3, k_fut3⟩ := hI.1.2 41 (by decide)
  obtain rfl := kd_41.mp k_fut3
  obtain ⟨e_la, wf_la, k_la⟩ := hI.1.2 42 (by decide)
  obtain ⟨c_la_0, rfl⟩ := kd_42.mp k_la
  obtain ⟨e_lab, wf_lab, k_lab⟩ := hI.1.2 43 (by decide)
  obtain ⟨c_lab_0, rfl⟩ := kd_43.mp k_lab
  obtain ⟨e_labg, wf_labg, k_labg⟩ := hI.1.2 44 (by decide)
  obtain rfl := kd_44.mp k_labg
  obtain ⟨e_gy, wf_gy, k_gy⟩ := hI.1.2 45 (by decide)
  obtain rfl := kd_45.mp k_gy
  obtain ⟨e_gyg, wf_gyg, k_gyg⟩ := hI.1.2 46 (by decide)
  obtain rfl := kd_46.mp k_gyg
  obtain ⟨e_du, wf_du, k_du⟩ := hI.1.2 47 (by decide)
  obtain rfl := kd_47.mp k_du
  obtain ⟨e_dug, wf_dug, k_dug⟩ := hI.1.2 48 (by decide)
  obtain rfl := kd_48.mp k_dug
  have hJ := hI.1.I [0, 36, 37, 38, 39, 40, 41, 42, 43, 44, 45, 46, 47, 48] [((ad 0), .inr (11, [.ref (ad 1), .ref (ad 5), .ref (ad 18), .ref (ad 31), .ref (ad 32), .ref (ad 36), .ref (ad 42), .ref (ad 45), .ref (ad 47), .ref (ad 49), .ref (ad 50), .ref (ad 51)])), ((ad 36), .inr (3, [.ref (ad 37), .ref (ad 39), .ref (ad 40), .ref (ad 41), .long ((t.1 36).2.1 0)])), ((ad 37), .inr (6, [.ref (ad 38), .int ((t.1 37).1 0)])), ((ad 38), .inl (3, 4, .inr (.inl ((t.1 38).2.1)))), ((ad 39), .inl (3, 4, .inr (.inl ((t.1 39).2.1)))), ((ad 40), .inl (3, 4, .inr (.inl ((t.1 40).2.1)))), ((ad 41), .inl (3, 4, .inr (.inl ((t.1 41).2.1)))), ((ad 42), .inr (5, [.ref (ad 43), .int ((t.1 42).1 0), .int ((t.1 42).1 1), .int ((t.1 42).1 2)])), ((ad 43), .inr (6, [.ref (ad 44), .int ((t.1 43).1 0)])), ((ad 44), .inl (3, 4, .inr (.inl ((t.1 44).2.1)))), ((ad 45), .inr (6, [.ref (ad 46), .int ((t.1 45).1 0)])), ((ad 46), .inl (3, 4, .inr (.inl ((t.1 46).2.1)))), ((ad 47), .inr (6, [.ref (ad 48), .int ((t.1 47).1 0)])), ((ad 48), .inl (3, 4, .inr (.inl ((t.1 48).2.1))))] rfl (by decide) (by decide) (List.forall_mem_cons.mpr ⟨wf_a, (List.forall_mem_cons.mpr ⟨wf_fu, (List.forall_mem_cons.mpr ⟨wf_fub, (List.forall_mem_cons.mpr ⟨wf_fubg, (List.forall_mem_cons.mpr ⟨wf_fut1, (List.forall_mem_cons.mpr ⟨wf_fut2, (List.forall_mem_cons.mpr ⟨wf_fut3, (List.forall_mem_cons.mpr ⟨wf_la, (List.forall_mem_cons.mpr ⟨wf_lab, (List.forall_mem_cons.mpr ⟨wf_labg, (List.forall_mem_cons.mpr ⟨wf_gy, (List.forall_mem_cons.mpr ⟨wf_gyg, (List.forall_mem_cons.mpr ⟨wf_du, (List.forall_mem_cons.mpr ⟨wf_dug, (fun _ h => nomatch h)⟩)⟩)⟩)⟩)⟩)⟩)⟩)⟩)⟩)⟩)⟩)⟩)⟩)⟩)
  refine y_of (by decide) rfl (Nat.le_of_ble_eq_true rfl) (y_base (cs := [((ad 0), .inr (11, [.ref (ad 1), .ref (ad 5), .ref (ad 18), .ref (ad 31), .ref (ad 32), .ref (ad 36), .ref (ad 42), .ref (ad 45), .ref (ad 47), .ref (ad 49), .ref (ad 50), .ref (ad 51)])), ((ad 36), .inr (3, [.ref (ad 37), .ref (ad 39), .ref (ad 40), .ref (ad 41), .long ((t.1 36).2.1 0)])), ((ad 37), .inr (6, [.ref (ad 38), .int ((t.1 37).1 0)])), ((ad 38), .inl (3, 4, .inr (.inl ((t.1 38).2.1)))), ((ad 39), .inl (3, 4, .inr (.inl ((t.1 39).2.1)))), ((ad 40), .inl (3, 4, .inr (.inl ((t.1 40).2.1)))), ((ad 41), .inl (3, 4, .inr (.inl ((t.1 41).2.1)))), ((ad 42), .inr (5, [.ref (ad 43), .int ((t.1 42).1 0), .int ((t.1 42).1 1), .int ((t.1 42).1 2)])), ((ad 43), .inr (6, [.ref (ad 44), .int ((t.1 43).1 0)])), ((ad 44), .inl (3, 4, .inr (.inl ((t.1 44).2.1)))), ((ad 45), .inr (6, [.ref (ad 46), .int ((t.1 45).1 0)])), ((ad 46), .inl (3, 4, .inr (.inl ((t.1 46).2.1)))), ((ad 47), .inr (6, [.ref (ad 48), .int ((t.1 47).1 0)])), ((ad 48), .inl (3, 4, .inr (.inl ((t.1 48).2.1))))]) hJ ?_)
  refine y_lvE (lv2 := [(0, .ref (ad 0)), (1, .int (nI e))]) rfl ?_
  refine y_aload_n d_Ip_elementBalances_0 rfl 0 rfl ?_
  refine y_get fs_Ip_43 d_Ip_elementBalances_1 (q0 := 0) rfl rfl ?_
  refine y_get fs_Ip_277 d_Ip_elementBalances_4 (q0 := 1) rfl rfl ?_
  refine y_get fs_Ip_308 d_Ip_elementBalances_7 (q0 := 2) rfl rfl ?_
  refine y_iload_n d_Ip_elementBalances_10 rfl 1 rfl ?_
  refine y_lald d_Ip_elementBalances_11 (q0 := 3) rfl (vp_in_nI (by omega) (by omega)) (v := ((t.1 38).2.1) e) (by rw [nI_clamp (by omega)]) ?_
  refine y_aload_n d_Ip_elementBalances_12 rfl 0 rfl ?_
  refine y_get fs_Ip_50 d_Ip_elementBalances_13 (q0 := 0) rfl rfl ?_
  refine y_get fs_Ip_359 d_Ip_elementBalances_16 (q0 := 7) rfl rfl ?_
  refine y_get fs_Ip_308 d_Ip_elementBalances_19 (q0 := 8) rfl rfl ?_
  refine y_iload_n d_Ip_elementBalances_22 rfl 1 rfl ?_
  refine y_lald d_Ip_elementBalances_23 (q0 := 9) rfl (vp_in_nI (by omega) (by omega)) (v := ((t.1 44).2.1) e) (by rw [nI_clamp (by omega)]) ?_
  refine y_ladd d_Ip_elementBalances_24 (v := (((t.1 38).2.1) e) + (((t.1 44).2.1) e)) rfl ?_
  refine y_aload_n d_Ip_elementBalances_25 rfl 0 rfl ?_
  refine y_get fs_Ip_57 d_Ip_elementBalances_26 (q0 := 0) rfl rfl ?_
  refine y_get fs_Ip_308 d_Ip_elementBalances_29 (q0 := 10) rfl rfl ?_
  refine y_iload_n d_Ip_elementBalances_32 rfl 1 rfl ?_
  refine y_lald d_Ip_elementBalances_33 (q0 := 11) rfl (vp_in_nI (by omega) (by omega)) (v := ((t.1 46).2.1) e) (by rw [nI_clamp (by omega)]) ?_
  refine y_ladd d_Ip_elementBalances_34 (v := ((((t.1 38).2.1) e) + (((t.1 44).2.1) e)) + (((t.1 46).2.1) e)) rfl ?_
  refine y_aload_n d_Ip_elementBalances_35 rfl 0 rfl ?_
  refine y_get fs_Ip_61 d_Ip_elementBalances_36 (q0 := 0) rfl rfl ?_
  refine y_get fs_Ip_308 d_Ip_elementBalances_39 (q0 := 12) rfl rfl ?_
  refine y_iload_n d_Ip_elementBalances_42 rfl 1 rfl ?_
  refine y_lald d_Ip_elementBalances_43 (q0 := 13) rfl (vp_in_nI (by omega) (by omega)) (v := ((t.1 48).2.1) e) (by rw [nI_clamp (by omega)]) ?_
  refine y_ladd d_Ip_elementBalances_44 (v := (((((t.1 38).2.1) e) + (((t.1 44).2.1) e)) + (((t.1 46).2.1) e)) + (((t.1 48).2.1) e)) rfl ?_
  refine y_aload_n d_Ip_elementBalances_45 rfl 0 rfl ?_
  refine y_get fs_Ip_43 d_Ip_elementBalances_46 (q0 := 0) rfl rfl ?_
  refine y_get fs_Ip_564 d_Ip_elementBalances_49 (q0 := 1) rfl rfl ?_
  refine y_iload_n d_Ip_elementBalances_52 rfl 1 rfl ?_
  refine y_lald d_Ip_elementBalances_53 (q0 := 6) rfl (vp_in_nI (by omega) (by omega)) (v := ((t.1 41).2.1) e) (by rw [nI_clamp (by omega)]) ?_
  refine y_ladd d_Ip_elementBalances_54 (v := ((((((t.1 38).2.1) e) + (((t.1 44).2.1) e)) + (((t.1 46).2.1) e)) + (((t.1 48).2.1) e)) + (((t.1 41).2.1) e)) rfl ?_
  refine y_lstore_n (lv' := [(2, .long (((((((t.1 38).2.1) e) + (((t.1 44).2.1) e)) + (((t.1 46).2.1) e)) + (((t.1 48).2.1) e)) + (((t.1 41).2.1) e))), (0, .ref (ad 0)), (1, .int (nI e))]) d_Ip_elementBalances_55 rfl (by decide) rfl ?_
  refine y_iconst d_Ip_elementBalances_56 (v := 0) (by decide) ?_
  refine y_istore (lv' := [(4, .int 0), (2, .long (((((((t.1 38).2.1) e) + (((t.1 44).2.1) e)) + (((t.1 46).2.1) e)) + (((t.1 48).2.1) e)) + (((t.1 41).2.1) e))), (0, .ref (ad 0)), (1, .int (nI e))]) d_Ip_elementBalances_57 (by decide) rfl ?_
  refine y_lvE (lv2 := [(4, .int (nI 0)), (2, .long (hgS ((t.1 38).2.1 e + (t.1 44).2.1 e + (t.1 46).2.1 e + (t.1 48).2.1 e + (t.1 41).2.1 e) (t.2 1) e 0)), (0, .ref (ad 0)), (1, .int (nI e))]) rfl ?_
  refine y_end (fun wC4 hC4 => ?_)
  obtain rfl := z_I.same hJ hC4
  exact L_Qe_elementBalances_59 g hI e he hb (u.1 1 + 1) 0 (Nat.zero_le _) (by omega)
set_option maxHeartbeats 4000000 in
set_option maxRecDepth 100000 in
theorem L_Qe_Ip_isSound_11 (g : zG) {ad : Nat → Nat} {t : zTT} {u : zNN} {w : zW} (hI : IV g ad t u w) (hb : BALt t u.1) : ∀ (d i : Nat), i ≤ 4 → 4 < i + d → DW g M_Ip_isSound (fun o w1 => o = .inl (some (.int 1)) ∧ IVm g ad t u w1) w 11 [(1, .int (nI i)), (0, .ref (ad 0))] [] 0 0 := by
  intro d
  induction d with
  | zero => intro i h1 h2; exact absurd h2 (by omega)
  | succ d ih =>
    intro i h1 h2
    obtain ⟨e_a, wf_a, k_a⟩ := hI.1.2 0 (by decide)
    obtain rfl := kd_0.mp k_a
    obtain ⟨e_ta, wf_ta, k_ta⟩ := hI.1.2 5 (by decide)
    obtain rfl := kd_5.mp k_ta
    obtain ⟨e_ta1, wf_ta1, k_ta1⟩ := hI.1.2 6 (by decide)
    obtain rfl := kd_6.mp k_ta1
    obtain ⟨e_ta2, wf_ta2, k_ta2⟩ := hI.1.2 7 (by decide)
    obtain rfl := kd_7.mp k_ta2
    obtain ⟨e_taz, wf_taz, k_taz⟩ := hI.1.2 8 (by decide)
    obtain rfl := kd_8.mp k_taz
    obtain ⟨e_taz1, wf_taz1, k_taz1⟩ := hI.1.2 9 (by decide)
    obtain rfl := kd_9.mp k_taz1
    obtain ⟨e_taz2, wf_taz2, k_taz2⟩ := hI.1.2 10 (by decide)
    obtain rfl := kd_10.mp k_taz2
    obtain ⟨e_taz3, wf_taz3, k_taz3⟩ := hI.1.2 11 (by decide)
    obtain rfl := kd_11.mp k_taz3
    obtain ⟨e_taz4, wf_taz4, k_taz4⟩ := hI.1.2 12 (by decide)
    obtain rfl := kd_12.mp k_taz4
    obtain ⟨e_taz5, wf_taz5, k_taz5⟩ := hI.1.2 13 (by decide)
    obtain rfl := kd_13.mp k_taz5
    obtain ⟨e_taz6, wf_taz6, k_taz6⟩ := hI.1.2 14 (by decide)
    obtain rfl := kd_14.mp k_taz6
    obtain ⟨e_ta4, wf_ta4, k_ta4⟩ := hI.1.2 15 (by decide)
    obtain ⟨c_ta4_0, rfl⟩ := kd_15.mp k_ta4
    obtain ⟨e_ta5, wf_ta5, k_ta5⟩ := hI.1.2 16 (by decide)
    obtain rfl := kd_16.mp k_ta5
    obtain ⟨e_ta6, wf_ta6, k_ta6⟩ := hI.1.2 17 (by decide)
    obtain rfl := kd_17.mp k_ta6
    have hJ := hI.1.I [0, 5, 6, 7, 8, 9, 10, 11, 12, 13, 14, 15, 16, 17] [((ad 0), .inr (11, [.ref (ad 1), .ref (ad 5), .ref (ad 18), .ref (ad 31), .ref (ad 32), .ref (ad 36), .ref (ad 42), .ref (ad 45), .ref (ad 47), .ref (ad 49), .ref (ad 50), .ref (ad 51)])), ((ad 5), .inr (10, [.ref (ad 6), .ref (ad 7), .ref (ad 8), .ref (ad 15), .ref (ad 16), .ref (ad 17), .int ((t.1 5).1 0), .int ((t.1 5).1 1)])), ((ad 6), .inl (1, 108, .inl ((t.1 6).1))), ((ad 7), .inl (0, 108, .inl ((t.1 7).1))), ((ad 8), .inr (2, [.ref (ad 9), .ref (ad 10), .ref (ad 11), .ref (ad 12), .ref (ad 13), .ref (ad 14), .int ((t.1 8).1 0)])), ((ad 9), .inl (0, 108, .inl ((t.1 9).1))), ((ad 10), .inl (0, 108, .inl ((t.1 10).1))), ((ad 11), .inl (0, 108, .inl ((t.1 11).1))), ((ad 12), .inl (0, 108, .inl ((t.1 12).1))), ((ad 13), .inl (0, 108, .inl ((t.1 13).1))), ((ad 14), .inl (0, 108, .inl ((t.1 14).1))), ((ad 15), .inl (2, 108, .inl ((t.1 15).1))), ((ad 16), .inl (2, 108, .inl ((t.1 16).1))), ((ad 17), .inl (0, 108, .inl (fun k => nI (((t.1 17).2.2) k))))] rfl (by decide) (by decide) (List.forall_mem_cons.mpr ⟨wf_a, (List.forall_mem_cons.mpr ⟨wf_ta, (List.forall_mem_cons.mpr ⟨wf_ta1, (List.forall_mem_cons.mpr ⟨wf_ta2, (List.forall_mem_cons.mpr ⟨wf_taz, (List.forall_mem_cons.mpr ⟨wf_taz1, (List.forall_mem_cons.mpr ⟨wf_taz2, (List.forall_mem_cons.mpr ⟨wf_taz3, (List.forall_mem_cons.mpr ⟨wf_taz4, (List.forall_mem_cons.mpr ⟨wf_taz5, (List.forall_mem_cons.mpr ⟨wf_taz6, (List.forall_mem_cons.mpr ⟨wf_ta4, (List.forall_mem_cons.mpr ⟨wf_ta5, (List.forall_mem_cons.mpr ⟨wf_ta6, (fun _ h => nomatch h)⟩)⟩)⟩)⟩)⟩)⟩)⟩)⟩)⟩)⟩)⟩)⟩)⟩)⟩)
    refine y_base hJ ?_
    refine y_iload_n d_Ip_isSound_11 rfl 0 rfl ?_
    refine y_iconst d_Ip_isSound_12 (v := 4) (by decide) ?_
    refine y_icmp_ge (tgt := 32) d_Ip_isSound_13 (by decide) (fun c_13 => ?_) (fun c_13 => ?_)
    · have hn := z_le (a := 4) (by omega) (by decide) c_13
      obtain rfl : i = 4 := by omega
      refine y_aload_n d_Ip_isSound_32 rfl 1 rfl ?_
      refine y_get fs_Ip_19 d_Ip_isSound_33 (q0 := 0) rfl rfl ?_
      refine y_sipush d_Ip_isSound_36 (v := 1450) (by decide) ?_
      refine y_callV (As := [.int 1450]) (rest := []) (csC := [((ad 5), .inr (10, [.ref (ad 6), .ref (ad 7), .ref (ad 8), .ref (ad 15), .ref (ad 16), .ref (ad 17), .int ((t.1 5).1 0), .int ((t.1 5).1 1)])), ((ad 6), .inl (1, 108, .inl ((t.1 6).1))), ((ad 7), .inl (0, 108, .inl ((t.1 7).1))), ((ad 8), .inr (2, [.ref (ad 9), .ref (ad 10), .ref (ad 11), .ref (ad 12), .ref (ad 13), .ref (ad 14), .int ((t.1 8).1 0)])), ((ad 9), .inl (0, 108, .inl ((t.1 9).1))), ((ad 10), .inl (0, 108, .inl ((t.1 10).1))), ((ad 11), .inl (0, 108, .inl ((t.1 11).1))), ((ad 12), .inl (0, 108, .inl ((t.1 12).1))), ((ad 13), .inl (0, 108, .inl ((t.1 13).1))), ((ad 14), .inl (0, 108, .inl ((t.1 14).1))), ((ad 15), .inl (2, 108, .inl ((t.1 15).1))), ((ad 16), .inl (2, 108, .inl ((t.1 16).1))), ((ad 17), .inl (0, 108, .inl (fun k => nI (((t.1 17).2.2) k))))]) (is := [1, 2, 3, 4, 5, 6, 7, 8, 9, 10, 11, 12, 13]) (q0 := 1) rfl rfl ln_Ip_162 w_im_Tr_freeze w_se_Tr_freeze ok_Ip_isSound_Tr_freeze d_Ip_isSound_39 (X_freeze g (ad 5) (ad 6) (ad 7) (ad 8) (ad 9) (ad 10) (ad 11) (ad 12) (ad 13) (ad 14) (ad 15) (ad 16) (ad 17) 1450 (((t.1 6).1, (t.1 7).1, (t.1 5).1 0, (t.1 5).1 1), ((((t.1 9).1, (t.1 11).1, (t.1 12).1, (t.1 8).1 0), (t.1 10).1), (t.1 13).1, (t.1 14).1), ((t.1 15).1, (t.1 16).1, ((t.1 17).2.2)))) rfl rfl (Nat.le_of_ble_eq_true rfl) rfl (by decide) (by omega) (by omega) (fun E cs1 hx => ?_) (fun v cs1 hx => ?_)
      · exact absurd hx.1 (by simp)
      · obtain ⟨e1, rfl⟩ := hx
        cases e1
        refine ⟨rfl, ?_⟩
        refine y_st (st2 := []) rfl ?_
        refine y_cs (cs2 := [((ad 0), .inr (11, [.ref (ad 1), .ref (ad 5), .ref (ad 18), .ref (ad 31), .ref (ad 32), .ref (ad 36), .ref (ad 42), .ref (ad 45), .ref (ad 47), .ref (ad 49), .ref (ad 50), .ref (ad 51)])), ((ad 5), .inr (10, [.ref (ad 6), .ref (ad 7), .ref (ad 8), .ref (ad 15), .ref (ad 16), .ref (ad 17), .int ((frT 1450 (((t.1 6).1, (t.1 7).1, (t.1 5).1 0, (t.1 5).1 1), ((((t.1 9).1, (t.1 11).1, (t.1 12).1, (t.1 8).1 0), (t.1 10).1), (t.1 13).1, (t.1 14).1), ((t.1 15).1, (t.1 16).1, ((t.1 17).2.2)))).1.2.2.1), .int ((frT 1450 (((t.1 6).1, (t.1 7).1, (t.1 5).1 0, (t.1 5).1 1), ((((t.1 9).1, (t.1 11).1, (t.1 12).1, (t.1 8).1 0), (t.1 10).1), (t.1 13).1, (t.1 14).1), ((t.1 15).1, (t.1 16).1, ((t.1 17).2.2)))).1.2.2.2)])), ((ad 6), .inl (1, 108, .inl ((frT 1450 (((t.1 6).1, (t.1 7).1, (t.1 5).1 0, (t.1 5).1 1), ((((t.1 9).1, (t.1 11).1, (t.1 12).1, (t.1 8).1 0), (t.1 10).1), (t.1 13).1, (t.1 14).1), ((t.1 15).1, (t.1 16).1, ((t.1 17).2.2)))).1.1))), ((ad 7), .inl (0, 108, .inl ((frT 1450 (((t.1 6).1, (t.1 7).1, (t.1 5).1 0, (t.1 5).1 1), ((((t.1 9).1, (t.1 11).1, (t.1 12).1, (t.1 8).1 0), (t.1 10).1), (t.1 13).1, (t.1 14).1), ((t.1 15).1, (t.1 16).1, ((t.1 17).2.2)))).1.2.1))), ((ad 8), .inr (2, [.ref (ad 9), .ref (ad 10), .ref (ad 11), .ref (ad 12), .ref (ad 13), .ref (ad 14), .int ((frT 1450 (((t.1 6).1, (t.1 7).1, (t.1 5).1 0, (t.1 5).1 1), ((((t.1 9).1, (t.1 11).1, (t.1 12).1, (t.1 8).1 0), (t.1 10).1), (t.1 13).1, (t.1 14).1), ((t.1 15).1, (t.1 16).1, ((t.1 17).2.2)))).2.1.1.1.2.2.2)])), ((ad 9), .inl (0, 108, .inl ((frT 1450 (((t.1 6).1, (t.1 7).1, (t.1 5).1 0, (t.1 5).1 1), ((((t.1 9).1, (t.1 11).1, (t.1 12).1, (t.1 8).1 0), (t.1 10).1), (t.1 13).1, (t.1 14).1), ((t.1 15).1, (t.1 16).1, ((t.1 17).2.2)))).2.1.1.1.1))), ((ad 10), .inl (0, 108, .inl ((frT 1450 (((t.1 6).1, (t.1 7).1, (t.1 5).1 0, (t.1 5).1 1), ((((t.1 9).1, (t.1 11).1, (t.1 12).1, (t.1 8).1 0), (t.1 10).1), (t.1 13).1, (t.1 14).1), ((t.1 15).1, (t.1 16).1, ((t.1 17).2.2)))).2.1.1.2))), ((ad 11), .inl (0, 108, .inl ((frT 1450 (((t.1 6).1, (t.1 7).1, (t.1 5).1 0, (t.1 5).1 1), ((((t.1 9).1, (t.1 11).1, (t.1 12).1, (t.1 8).1 0), (t.1 10).1), (t.1 13).1, (t.1 14).1), ((t.1 15).1, (t.1 16).1, ((t.1 17).2.2)))).2.1.1.1.2.1))), ((ad 12), .inl (0, 108, .inl ((frT 1450 (((t.1 6).1, (t.1 7).1, (t.1 5).1 0, (t.1 5).1 1), ((((t.1 9).1, (t.1 11).1, (t.1 12).1, (t.1 8).1 0), (t.1 10).1), (t.1 13).1, (t.1 14).1), ((t.1 15).1, (t.1 16).1, ((t.1 17).2.2)))).2.1.1.1.2.2.1))), ((ad 13), .inl (0, 108, .inl ((frT 1450 (((t.1 6).1, (t.1 7).1, (t.1 5).1 0, (t.1 5).1 1), ((((t.1 9).1, (t.1 11).1, (t.1 12).1, (t.1 8).1 0), (t.1 10).1), (t.1 13).1, (t.1 14).1), ((t.1 15).1, (t.1 16).1, ((t.1 17).2.2)))).2.1.2.1))), ((ad 14), .inl (0, 108, .inl ((frT 1450 (((t.1 6).1, (t.1 7).1, (t.1 5).1 0, (t.1 5).1 1), ((((t.1 9).1, (t.1 11).1, (t.1 12).1, (t.1 8).1 0), (t.1 10).1), (t.1 13).1, (t.1 14).1), ((t.1 15).1, (t.1 16).1, ((t.1 17).2.2)))).2.1.2.2))), ((ad 15), .inl (2, 108, .inl ((frT 1450 (((t.1 6).1, (t.1 7).1, (t.1 5).1 0, (t.1 5).1 1), ((((t.1 9).1, (t.1 11).1, (t.1 12).1, (t.1 8).1 0), (t.1 10).1), (t.1 13).1, (t.1 14).1), ((t.1 15).1, (t.1 16).1, ((t.1 17).2.2)))).2.2.1))), ((ad 16), .inl (2, 108, .inl ((frT 1450 (((t.1 6).1, (t.1 7).1, (t.1 5).1 0, (t.1 5).1 1), ((((t.1 9).1, (t.1 11).1, (t.1 12).1, (t.1 8).1 0), (t.1 10).1), (t.1 13).1, (t.1 14).1), ((t.1 15).1, (t.1 16).1, ((t.1 17).2.2)))).2.2.2.1))), ((ad 17), .inl (0, 108, .inl (fun k => nI ((frT 1450 (((t.1 6).1, (t.1 7).1, (t.1 5).1 0, (t.1 5).1 1), ((((t.1 9).1, (t.1 11).1, (t.1 12).1, (t.1 8).1 0), (t.1 10).1), (t.1 13).1, (t.1 14).1), ((t.1 15).1, (t.1 16).1, ((t.1 17).2.2)))).2.2.2.2 k))))]) rfl ?_
        refine y_aload_n d_Ip_isSound_42 rfl 1 rfl ?_
        refine y_get fs_Ip_19 d_Ip_isSound_43 (q0 := 0) rfl rfl ?_
        refine y_callV (As := []) (rest := []) (csC := [((ad 5), .inr (10, [.ref (ad 6), .ref (ad 7), .ref (ad 8), .ref (ad 15), .ref (ad 16), .ref (ad 17), .int ((frT 1450 (((t.1 6).1, (t.1 7).1, (t.1 5).1 0, (t.1 5).1 1), ((((t.1 9).1, (t.1 11).1, (t.1 12).1, (t.1 8).1 0), (t.1 10).1), (t.1 13).1, (t.1 14).1), ((t.1 15).1, (t.1 16).1, ((t.1 17).2.2)))).1.2.2.1), .int ((frT 1450 (((t.1 6).1, (t.1 7).1, (t.1 5).1 0, (t.1 5).1 1), ((((t.1 9).1, (t.1 11).1, (t.1 12).1, (t.1 8).1 0), (t.1 10).1), (t.1 13).1, (t.1 14).1), ((t.1 15).1, (t.1 16).1, ((t.1 17).2.2)))).1.2.2.2)])), ((ad 6), .inl (1, 108, .inl ((frT 1450 (((t.1 6).1, (t.1 7).1, (t.1 5).1 0, (t.1 5).1 1), ((((t.1 9).1, (t.1 11).1, (t.1 12).1, (t.1 8).1 0), (t.1 10).1), (t.1 13).1, (t.1 14).1), ((t.1 15).1, (t.1 16).1, ((t.1 17).2.2)))).1.1))), ((ad 7), .inl (0, 108, .inl ((frT 1450 (((t.1 6).1, (t.1 7).1, (t.1 5).1 0, (t.1 5).1 1), ((((t.1 9).1, (t.1 11).1, (t.1 12).1, (t.1 8).1 0), (t.1 10).1), (t.1 13).1, (t.1 14).1), ((t.1 15).1, (t.1 16).1, ((t.1 17).2.2)))).1.2.1))), ((ad 8), .inr (2, [.ref (ad 9), .ref (ad 10), .ref (ad 11), .ref (ad 12), .ref (ad 13), .ref (ad 14), .int ((frT 1450 (((t.1 6).1, (t.1 7).1, (t.1 5).1 0, (t.1 5).1 1), ((((t.1 9).1, (t.1 11).1, (t.1 12).1, (t.1 8).1 0), (t.1 10).1), (t.1 13).1, (t.1 14).1), ((t.1 15).1, (t.1 16).1, ((t.1 17).2.2)))).2.1.1.1.2.2.2)])), ((ad 12), .inl (0, 108, .inl ((frT 1450 (((t.1 6).1, (t.1 7).1, (t.1 5).1 0, (t.1 5).1 1), ((((t.1 9).1, (t.1 11).1, (t.1 12).1, (t.1 8).1 0), (t.1 10).1), (t.1 13).1, (t.1 14).1), ((t.1 15).1, (t.1 16).1, ((t.1 17).2.2)))).2.1.1.1.2.2.1))), ((ad 15), .inl (2, 108, .inl ((frT 1450 (((t.1 6).1, (t.1 7).1, (t.1 5).1 0, (t.1 5).1 1), ((((t.1 9).1, (t.1 11).1, (t.1 12).1, (t.1 8).1 0), (t.1 10).1), (t.1 13).1, (t.1 14).1), ((t.1 15).1, (t.1 16).1, ((t.1 17).2.2)))).2.2.1))), ((ad 16), .inl (2, 108, .inl ((frT 1450 (((t.1 6).1, (t.1 7).1, (t.1 5).1 0, (t.1 5).1 1), ((((t.1 9).1, (t.1 11).1, (t.1 12).1, (t.1 8).1 0), (t.1 10).1), (t.1 13).1, (t.1 14).1), ((t.1 15).1, (t.1 16).1, ((t.1 17).2.2)))).2.2.2.1))), ((ad 17), .inl (0, 108, .inl (fun k => nI ((frT 1450 (((t.1 6).1, (t.1 7).1, (t.1 5).1 0, (t.1 5).1 1), ((((t.1 9).1, (t.1 11).1, (t.1 12).1, (t.1 8).1 0), (t.1 10).1), (t.1 13).1, (t.1 14).1), ((t.1 15).1, (t.1 16).1, ((t.1 17).2.2)))).2.2.2.2 k))))]) (is := [1, 2, 3, 4, 8, 11, 12, 13]) (q0 := 1) rfl rfl ln_Ip_503 w_im_Tr_isFilledInOrder w_se_Tr_isFilledInOrder ok_Ip_isSound_Tr_isFilledInOrder d_Ip_isSound_46 (C_Tr_isFilledInOrder g (ad 5) (ad 6) (ad 7) (ad 8) (ad 9) (ad 10) (ad 11) (ad 12) (ad 13) (ad 14) (ad 15) (ad 16) (ad 17) ((frT 1450 (((t.1 6).1, (t.1 7).1, (t.1 5).1 0, (t.1 5).1 1), ((((t.1 9).1, (t.1 11).1, (t.1 12).1, (t.1 8).1 0), (t.1 10).1), (t.1 13).1, (t.1 14).1), ((t.1 15).1, (t.1 16).1, ((t.1 17).2.2)))).1.2.2.1) ((frT 1450 (((t.1 6).1, (t.1 7).1, (t.1 5).1 0, (t.1 5).1 1), ((((t.1 9).1, (t.1 11).1, (t.1 12).1, (t.1 8).1 0), (t.1 10).1), (t.1 13).1, (t.1 14).1), ((t.1 15).1, (t.1 16).1, ((t.1 17).2.2)))).1.2.2.2) ((frT 1450 (((t.1 6).1, (t.1 7).1, (t.1 5).1 0, (t.1 5).1 1), ((((t.1 9).1, (t.1 11).1, (t.1 12).1, (t.1 8).1 0), (t.1 10).1), (t.1 13).1, (t.1 14).1), ((t.1 15).1, (t.1 16).1, ((t.1 17).2.2)))).2.1.1.1.2.2.2) ((frT 1450 (((t.1 6).1, (t.1 7).1, (t.1 5).1 0, (t.1 5).1 1), ((((t.1 9).1, (t.1 11).1, (t.1 12).1, (t.1 8).1 0), (t.1 10).1), (t.1 13).1, (t.1 14).1), ((t.1 15).1, (t.1 16).1, ((t.1 17).2.2)))).1.1) ((frT 1450 (((t.1 6).1, (t.1 7).1, (t.1 5).1 0, (t.1 5).1 1), ((((t.1 9).1, (t.1 11).1, (t.1 12).1, (t.1 8).1 0), (t.1 10).1), (t.1 13).1, (t.1 14).1), ((t.1 15).1, (t.1 16).1, ((t.1 17).2.2)))).1.2.1) ((frT 1450 (((t.1 6).1, (t.1 7).1, (t.1 5).1 0, (t.1 5).1 1), ((((t.1 9).1, (t.1 11).1, (t.1 12).1, (t.1 8).1 0), (t.1 10).1), (t.1 13).1, (t.1 14).1), ((t.1 15).1, (t.1 16).1, ((t.1 17).2.2)))).2.1.1.1.2.2.1) ((frT 1450 (((t.1 6).1, (t.1 7).1, (t.1 5).1 0, (t.1 5).1 1), ((((t.1 9).1, (t.1 11).1, (t.1 12).1, (t.1 8).1 0), (t.1 10).1), (t.1 13).1, (t.1 14).1), ((t.1 15).1, (t.1 16).1, ((t.1 17).2.2)))).2.2.1) ((frT 1450 (((t.1 6).1, (t.1 7).1, (t.1 5).1 0, (t.1 5).1 1), ((((t.1 9).1, (t.1 11).1, (t.1 12).1, (t.1 8).1 0), (t.1 10).1), (t.1 13).1, (t.1 14).1), ((t.1 15).1, (t.1 16).1, ((t.1 17).2.2)))).2.2.2.1) ((frT 1450 (((t.1 6).1, (t.1 7).1, (t.1 5).1 0, (t.1 5).1 1), ((((t.1 9).1, (t.1 11).1, (t.1 12).1, (t.1 8).1 0), (t.1 10).1), (t.1 13).1, (t.1 14).1), ((t.1 15).1, (t.1 16).1, ((t.1 17).2.2)))).2.2.2.2)) rfl rfl (Nat.le_of_ble_eq_true rfl) rfl (by decide) (by omega) (by omega) (fun E cs1 hx => ?_) (fun v cs1 hx => ?_)
        · exact absurd hx.1 (by simp)
        · obtain ⟨e1, rfl⟩ := hx
          cases e1
          refine ⟨rfl, ?_⟩
          refine y_st (st2 := [.int (z_bi (!anB (ioP ((frT 1450 (((t.1 6).1, (t.1 7).1, (t.1 5).1 0, (t.1 5).1 1), ((((t.1 9).1, (t.1 11).1, (t.1 12).1, (t.1 8).1 0), (t.1 10).1), (t.1 13).1, (t.1 14).1), ((t.1 15).1, (t.1 16).1, ((t.1 17).2.2)))).1.2.1)) 108))]) rfl ?_
          refine y_cs (cs2 := [((ad 0), .inr (11, [.ref (ad 1), .ref (ad 5), .ref (ad 18), .ref (ad 31), .ref (ad 32), .ref (ad 36), .ref (ad 42), .ref (ad 45), .ref (ad 47), .ref (ad 49), .ref (ad 50), .ref (ad 51)])), ((ad 5), .inr (10, [.ref (ad 6), .ref (ad 7), .ref (ad 8), .ref (ad 15), .ref (ad 16), .ref (ad 17), .int ((frT 1450 (((t.1 6).1, (t.1 7).1, (t.1 5).1 0, (t.1 5).1 1), ((((t.1 9).1, (t.1 11).1, (t.1 12).1, (t.1 8).1 0), (t.1 10).1), (t.1 13).1, (t.1 14).1), ((t.1 15).1, (t.1 16).1, ((t.1 17).2.2)))).1.2.2.1), .int ((frT 1450 (((t.1 6).1, (t.1 7).1, (t.1 5).1 0, (t.1 5).1 1), ((((t.1 9).1, (t.1 11).1, (t.1 12).1, (t.1 8).1 0), (t.1 10).1), (t.1 13).1, (t.1 14).1), ((t.1 15).1, (t.1 16).1, ((t.1 17).2.2)))).1.2.2.2)])), ((ad 6), .inl (1, 108, .inl ((frT 1450 (((t.1 6).1, (t.1 7).1, (t.1 5).1 0, (t.1 5).1 1), ((((t.1 9).1, (t.1 11).1, (t.1 12).1, (t.1 8).1 0), (t.1 10).1), (t.1 13).1, (t.1 14).1), ((t.1 15).1, (t.1 16).1, ((t.1 17).2.2)))).1.1))), ((ad 7), .inl (0, 108, .inl ((frT 1450 (((t.1 6).1, (t.1 7).1, (t.1 5).1 0, (t.1 5).1 1), ((((t.1 9).1, (t.1 11).1, (t.1 12).1, (t.1 8).1 0), (t.1 10).1), (t.1 13).1, (t.1 14).1), ((t.1 15).1, (t.1 16).1, ((t.1 17).2.2)))).1.2.1))), ((ad 8), .inr (2, [.ref (ad 9), .ref (ad 10), .ref (ad 11), .ref (ad 12), .ref (ad 13), .ref (ad 14), .int ((frT 1450 (((t.1 6).1, (t.1 7).1, (t.1 5).1 0, (t.1 5).1 1), ((((t.1 9).1, (t.1 11).1, (t.1 12).1, (t.1 8).1 0), (t.1 10).1), (t.1 13).1, (t.1 14).1), ((t.1 15).1, (t.1 16).1, ((t.1 17).2.2)))).2.1.1.1.2.2.2)])), ((ad 9), .inl (0, 108, .inl ((frT 1450 (((t.1 6).1, (t.1 7).1, (t.1 5).1 0, (t.1 5).1 1), ((((t.1 9).1, (t.1 11).1, (t.1 12).1, (t.1 8).1 0), (t.1 10).1), (t.1 13).1, (t.1 14).1), ((t.1 15).1, (t.1 16).1, ((t.1 17).2.2)))).2.1.1.1.1))), ((ad 10), .inl (0, 108, .inl ((frT 1450 (((t.1 6).1, (t.1 7).1, (t.1 5).1 0, (t.1 5).1 1), ((((t.1 9).1, (t.1 11).1, (t.1 12).1, (t.1 8).1 0), (t.1 10).1), (t.1 13).1, (t.1 14).1), ((t.1 15).1, (t.1 16).1, ((t.1 17).2.2)))).2.1.1.2))), ((ad 11), .inl (0, 108, .inl ((frT 1450 (((t.1 6).1, (t.1 7).1, (t.1 5).1 0, (t.1 5).1 1), ((((t.1 9).1, (t.1 11).1, (t.1 12).1, (t.1 8).1 0), (t.1 10).1), (t.1 13).1, (t.1 14).1), ((t.1 15).1, (t.1 16).1, ((t.1 17).2.2)))).2.1.1.1.2.1))), ((ad 12), .inl (0, 108, .inl ((frT 1450 (((t.1 6).1, (t.1 7).1, (t.1 5).1 0, (t.1 5).1 1), ((((t.1 9).1, (t.1 11).1, (t.1 12).1, (t.1 8).1 0), (t.1 10).1), (t.1 13).1, (t.1 14).1), ((t.1 15).1, (t.1 16).1, ((t.1 17).2.2)))).2.1.1.1.2.2.1))), ((ad 13), .inl (0, 108, .inl ((frT 1450 (((t.1 6).1, (t.1 7).1, (t.1 5).1 0, (t.1 5).1 1), ((((t.1 9).1, (t.1 11).1, (t.1 12).1, (t.1 8).1 0), (t.1 10).1), (t.1 13).1, (t.1 14).1), ((t.1 15).1, (t.1 16).1, ((t.1 17).2.2)))).2.1.2.1))), ((ad 14), .inl (0, 108, .inl ((frT 1450 (((t.1 6).1, (t.1 7).1, (t.1 5).1 0, (t.1 5).1 1), ((((t.1 9).1, (t.1 11).1, (t.1 12).1, (t.1 8).1 0), (t.1 10).1), (t.1 13).1, (t.1 14).1), ((t.1 15).1, (t.1 16).1, ((t.1 17).2.2)))).2.1.2.2))), ((ad 15), .inl (2, 108, .inl ((frT 1450 (((t.1 6).1, (t.1 7).1, (t.1 5).1 0, (t.1 5).1 1), ((((t.1 9).1, (t.1 11).1, (t.1 12).1, (t.1 8).1 0), (t.1 10).1), (t.1 13).1, (t.1 14).1), ((t.1 15).1, (t.1 16).1, ((t.1 17).2.2)))).2.2.1))), ((ad 16), .inl (2, 108, .inl ((frT 1450 (((t.1 6).1, (t.1 7).1, (t.1 5).1 0, (t.1 5).1 1), ((((t.1 9).1, (t.1 11).1, (t.1 12).1, (t.1 8).1 0), (t.1 10).1), (t.1 13).1, (t.1 14).1), ((t.1 15).1, (t.1 16).1, ((t.1 17).2.2)))).2.2.2.1))), ((ad 17), .inl (0, 108, .inl (fun k => nI (((frT 1450 (((t.1 6).1, (t.1 7).1, (t.1 5).1 0, (t.1 5).1 1), ((((t.1 9).1, (t.1 11).1, (t.1 12).1, (t.1 8).1 0), (t.1 10).1), (t.1 13).1, (t.1 14).1), ((t.1 15).1, (t.1 16).1, ((t.1 17).2.2)))).2.2.2.2) k))))]) rfl ?_
          refine y_if_eq (tgt := 66) d_Ip_isSound_49 (by decide) (fun c_49 => ?_) (fun c_49 => ?_)
          · exact absurd c_49 (zb_t (TIX_so (X := XTt t) (hh := 1450) (hI.2.2).2.2.2.2 (by decide)).1)
          · refine y_aload_n d_Ip_isSound_52 rfl 1 rfl ?_
            refine y_get fs_Ip_19 d_Ip_isSound_53 (q0 := 0) rfl rfl ?_
            refine y_callV (As := []) (rest := []) (csC := [((ad 5), .inr (10, [.ref (ad 6), .ref (ad 7), .ref (ad 8), .ref (ad 15), .ref (ad 16), .ref (ad 17), .int ((frT 1450 (((t.1 6).1, (t.1 7).1, (t.1 5).1 0, (t.1 5).1 1), ((((t.1 9).1, (t.1 11).1, (t.1 12).1, (t.1 8).1 0), (t.1 10).1), (t.1 13).1, (t.1 14).1), ((t.1 15).1, (t.1 16).1, ((t.1 17).2.2)))).1.2.2.1), .int ((frT 1450 (((t.1 6).1, (t.1 7).1, (t.1 5).1 0, (t.1 5).1 1), ((((t.1 9).1, (t.1 11).1, (t.1 12).1, (t.1 8).1 0), (t.1 10).1), (t.1 13).1, (t.1 14).1), ((t.1 15).1, (t.1 16).1, ((t.1 17).2.2)))).1.2.2.2)])), ((ad 6), .inl (1, 108, .inl ((frT 1450 (((t.1 6).1, (t.1 7).1, (t.1 5).1 0, (t.1 5).1 1), ((((t.1 9).1, (t.1 11).1, (t.1 12).1, (t.1 8).1 0), (t.1 10).1), (t.1 13).1, (t.1 14).1), ((t.1 15).1, (t.1 16).1, ((t.1 17).2.2)))).1.1))), ((ad 7), .inl (0, 108, .inl ((frT 1450 (((t.1 6).1, (t.1 7).1, (t.1 5).1 0, (t.1 5).1 1), ((((t.1 9).1, (t.1 11).1, (t.1 12).1, (t.1 8).1 0), (t.1 10).1), (t.1 13).1, (t.1 14).1), ((t.1 15).1, (t.1 16).1, ((t.1 17).2.2)))).1.2.1))), ((ad 8), .inr (2, [.ref (ad 9), .ref (ad 10), .ref (ad 11), .ref (ad 12), .ref (ad 13), .ref (ad 14), .int ((frT 1450 (((t.1 6).1, (t.1 7).1, (t.1 5).1 0, (t.1 5).1 1), ((((t.1 9).1, (t.1 11).1, (t.1 12).1, (t.1 8).1 0), (t.1 10).1), (t.1 13).1, (t.1 14).1), ((t.1 15).1, (t.1 16).1, ((t.1 17).2.2)))).2.1.1.1.2.2.2)])), ((ad 12), .inl (0, 108, .inl ((frT 1450 (((t.1 6).1, (t.1 7).1, (t.1 5).1 0, (t.1 5).1 1), ((((t.1 9).1, (t.1 11).1, (t.1 12).1, (t.1 8).1 0), (t.1 10).1), (t.1 13).1, (t.1 14).1), ((t.1 15).1, (t.1 16).1, ((t.1 17).2.2)))).2.1.1.1.2.2.1))), ((ad 15), .inl (2, 108, .inl ((frT 1450 (((t.1 6).1, (t.1 7).1, (t.1 5).1 0, (t.1 5).1 1), ((((t.1 9).1, (t.1 11).1, (t.1 12).1, (t.1 8).1 0), (t.1 10).1), (t.1 13).1, (t.1 14).1), ((t.1 15).1, (t.1 16).1, ((t.1 17).2.2)))).2.2.1))), ((ad 16), .inl (2, 108, .inl ((frT 1450 (((t.1 6).1, (t.1 7).1, (t.1 5).1 0, (t.1 5).1 1), ((((t.1 9).1, (t.1 11).1, (t.1 12).1, (t.1 8).1 0), (t.1 10).1), (t.1 13).1, (t.1 14).1), ((t.1 15).1, (t.1 16).1, ((t.1 17).2.2)))).2.2.2.1))), ((ad 17), .inl (0, 108, .inl (fun k => nI (((frT 1450 (((t.1 6).1, (t.1 7).1, (t.1 5).1 0, (t.1 5).1 1), ((((t.1 9).1, (t.1 11).1, (t.1 12).1, (t.1 8).1 0), (t.1 10).1), (t.1 13).1, (t.1 14).1), ((t.1 15).1, (t.1 16).1, ((t.1 17).2.2)))).2.2.2.2) k))))]) (is := [1, 2, 3, 4, 8, 11, 12, 13]) (q0 := 1) rfl rfl ln_Ip_506 w_im_Tr_areFedOnesReached w_se_Tr_areFedOnesReached ok_Ip_isSound_Tr_areFedOnesReached d_Ip_isSound_56 (C_Tr_areFedOnesReached g (ad 5) (ad 6) (ad 7) (ad 8) (ad 9) (ad 10) (ad 11) (ad 12) (ad 13) (ad 14) (ad 15) (ad 16) (ad 17) ((frT 1450 (((t.1 6).1, (t.1 7).1, (t.1 5).1 0, (t.1 5).1 1), ((((t.1 9).1, (t.1 11).1, (t.1 12).1, (t.1 8).1 0), (t.1 10).1), (t.1 13).1, (t.1 14).1), ((t.1 15).1, (t.1 16).1, ((t.1 17).2.2)))).1.2.2.1) ((frT 1450 (((t.1 6).1, (t.1 7).1, (t.1 5).1 0, (t.1 5).1 1), ((((t.1 9).1, (t.1 11).1, (t.1 12).1, (t.1 8).1 0), (t.1 10).1), (t.1 13).1, (t.1 14).1), ((t.1 15).1, (t.1 16).1, ((t.1 17).2.2)))).1.2.2.2) ((frT 1450 (((t.1 6).1, (t.1 7).1, (t.1 5).1 0, (t.1 5).1 1), ((((t.1 9).1, (t.1 11).1, (t.1 12).1, (t.1 8).1 0), (t.1 10).1), (t.1 13).1, (t.1 14).1), ((t.1 15).1, (t.1 16).1, ((t.1 17).2.2)))).2.1.1.1.2.2.2) ((frT 1450 (((t.1 6).1, (t.1 7).1, (t.1 5).1 0, (t.1 5).1 1), ((((t.1 9).1, (t.1 11).1, (t.1 12).1, (t.1 8).1 0), (t.1 10).1), (t.1 13).1, (t.1 14).1), ((t.1 15).1, (t.1 16).1, ((t.1 17).2.2)))).1.1) ((frT 1450 (((t.1 6).1, (t.1 7).1, (t.1 5).1 0, (t.1 5).1 1), ((((t.1 9).1, (t.1 11).1, (t.1 12).1, (t.1 8).1 0), (t.1 10).1), (t.1 13).1, (t.1 14).1), ((t.1 15).1, (t.1 16).1, ((t.1 17).2.2)))).1.2.1) ((frT 1450 (((t.1 6).1, (t.1 7).1, (t.1 5).1 0, (t.1 5).1 1), ((((t.1 9).1, (t.1 11).1, (t.1 12).1, (t.1 8).1 0), (t.1 10).1), (t.1 13).1, (t.1 14).1), ((t.1 15).1, (t.1 16).1, ((t.1 17).2.2)))).2.1.1.1.2.2.1) ((frT 1450 (((t.1 6).1, (t.1 7).1, (t.1 5).1 0, (t.1 5).1 1), ((((t.1 9).1, (t.1 11).1, (t.1 12).1, (t.1 8).1 0), (t.1 10).1), (t.1 13).1, (t.1 14).1), ((t.1 15).1, (t.1 16).1, ((t.1 17).2.2)))).2.2.1) ((frT 1450 (((t.1 6).1, (t.1 7).1, (t.1 5).1 0, (t.1 5).1 1), ((((t.1 9).1, (t.1 11).1, (t.1 12).1, (t.1 8).1 0), (t.1 10).1), (t.1 13).1, (t.1 14).1), ((t.1 15).1, (t.1 16).1, ((t.1 17).2.2)))).2.2.2.1) ((frT 1450 (((t.1 6).1, (t.1 7).1, (t.1 5).1 0, (t.1 5).1 1), ((((t.1 9).1, (t.1 11).1, (t.1 12).1, (t.1 8).1 0), (t.1 10).1), (t.1 13).1, (t.1 14).1), ((t.1 15).1, (t.1 16).1, ((t.1 17).2.2)))).2.2.2.2)) rfl rfl (Nat.le_of_ble_eq_true rfl) rfl (by decide) (by omega) (by omega) (fun E cs1 hx => ?_) (fun v cs1 hx => ?_)
            · exact absurd hx.1 (by simp)
            · obtain ⟨e1, rfl⟩ := hx
              cases e1
              refine ⟨rfl, ?_⟩
              refine y_st (st2 := [.int (z_bi (!(afS ((frT 1450 (((t.1 6).1, (t.1 7).1, (t.1 5).1 0, (t.1 5).1 1), ((((t.1 9).1, (t.1 11).1, (t.1 12).1, (t.1 8).1 0), (t.1 10).1), (t.1 13).1, (t.1 14).1), ((t.1 15).1, (t.1 16).1, ((t.1 17).2.2)))).1.1) ((frT 1450 (((t.1 6).1, (t.1 7).1, (t.1 5).1 0, (t.1 5).1 1), ((((t.1 9).1, (t.1 11).1, (t.1 12).1, (t.1 8).1 0), (t.1 10).1), (t.1 13).1, (t.1 14).1), ((t.1 15).1, (t.1 16).1, ((t.1 17).2.2)))).1.2.1) ((frT 1450 (((t.1 6).1, (t.1 7).1, (t.1 5).1 0, (t.1 5).1 1), ((((t.1 9).1, (t.1 11).1, (t.1 12).1, (t.1 8).1 0), (t.1 10).1), (t.1 13).1, (t.1 14).1), ((t.1 15).1, (t.1 16).1, ((t.1 17).2.2)))).2.1.1.1.2.2.1) ((frT 1450 (((t.1 6).1, (t.1 7).1, (t.1 5).1 0, (t.1 5).1 1), ((((t.1 9).1, (t.1 11).1, (t.1 12).1, (t.1 8).1 0), (t.1 10).1), (t.1 13).1, (t.1 14).1), ((t.1 15).1, (t.1 16).1, ((t.1 17).2.2)))).2.2.1) (((frT 1450 (((t.1 6).1, (t.1 7).1, (t.1 5).1 0, (t.1 5).1 1), ((((t.1 9).1, (t.1 11).1, (t.1 12).1, (t.1 8).1 0), (t.1 10).1), (t.1 13).1, (t.1 14).1), ((t.1 15).1, (t.1 16).1, ((t.1 17).2.2)))).2.2.2.1), ((frT 1450 (((t.1 6).1, (t.1 7).1, (t.1 5).1 0, (t.1 5).1 1), ((((t.1 9).1, (t.1 11).1, (t.1 12).1, (t.1 8).1 0), (t.1 10).1), (t.1 13).1, (t.1 14).1), ((t.1 15).1, (t.1 16).1, ((t.1 17).2.2)))).2.2.2.2)) 108).1))]) rfl ?_
              refine y_cs (cs2 := [((ad 0), .inr (11, [.ref (ad 1), .ref (ad 5), .ref (ad 18), .ref (ad 31), .ref (ad 32), .ref (ad 36), .ref (ad 42), .ref (ad 45), .ref (ad 47), .ref (ad 49), .ref (ad 50), .ref (ad 51)])), ((ad 5), .inr (10, [.ref (ad 6), .ref (ad 7), .ref (ad 8), .ref (ad 15), .ref (ad 16), .ref (ad 17), .int ((frT 1450 (((t.1 6).1, (t.1 7).1, (t.1 5).1 0, (t.1 5).1 1), ((((t.1 9).1, (t.1 11).1, (t.1 12).1, (t.1 8).1 0), (t.1 10).1), (t.1 13).1, (t.1 14).1), ((t.1 15).1, (t.1 16).1, ((t.1 17).2.2)))).1.2.2.1), .int ((frT 1450 (((t.1 6).1, (t.1 7).1, (t.1 5).1 0, (t.1 5).1 1), ((((t.1 9).1, (t.1 11).1, (t.1 12).1, (t.1 8).1 0), (t.1 10).1), (t.1 13).1, (t.1 14).1), ((t.1 15).1, (t.1 16).1, ((t.1 17).2.2)))).1.2.2.2)])), ((ad 6), .inl (1, 108, .inl ((frT 1450 (((t.1 6).1, (t.1 7).1, (t.1 5).1 0, (t.1 5).1 1), ((((t.1 9).1, (t.1 11).1, (t.1 12).1, (t.1 8).1 0), (t.1 10).1), (t.1 13).1, (t.1 14).1), ((t.1 15).1, (t.1 16).1, ((t.1 17).2.2)))).1.1))), ((ad 7), .inl (0, 108, .inl ((frT 1450 (((t.1 6).1, (t.1 7).1, (t.1 5).1 0, (t.1 5).1 1), ((((t.1 9).1, (t.1 11).1, (t.1 12).1, (t.1 8).1 0), (t.1 10).1), (t.1 13).1, (t.1 14).1), ((t.1 15).1, (t.1 16).1, ((t.1 17).2.2)))).1.2.1))), ((ad 8), .inr (2, [.ref (ad 9), .ref (ad 10), .ref (ad 11), .ref (ad 12), .ref (ad 13), .ref (ad 14), .int ((frT 1450 (((t.1 6).1, (t.1 7).1, (t.1 5).1 0, (t.1 5).1 1), ((((t.1 9).1, (t.1 11).1, (t.1 12).1, (t.1 8).1 0), (t.1 10).1), (t.1 13).1, (t.1 14).1), ((t.1 15).1, (t.1 16).1, ((t.1 17).2.2)))).2.1.1.1.2.2.2)])), ((ad 9), .inl (0, 108, .inl ((frT 1450 (((t.1 6).1, (t.1 7).1, (t.1 5).1 0, (t.1 5).1 1), ((((t.1 9).1, (t.1 11).1, (t.1 12).1, (t.1 8).1 0), (t.1 10).1), (t.1 13).1, (t.1 14).1), ((t.1 15).1, (t.1 16).1, ((t.1 17).2.2)))).2.1.1.1.1))), ((ad 10), .inl (0, 108, .inl ((frT 1450 (((t.1 6).1, (t.1 7).1, (t.1 5).1 0, (t.1 5).1 1), ((((t.1 9).1, (t.1 11).1, (t.1 12).1, (t.1 8).1 0), (t.1 10).1), (t.1 13).1, (t.1 14).1), ((t.1 15).1, (t.1 16).1, ((t.1 17).2.2)))).2.1.1.2))), ((ad 11), .inl (0, 108, .inl ((frT 1450 (((t.1 6).1, (t.1 7).1, (t.1 5).1 0, (t.1 5).1 1), ((((t.1 9).1, (t.1 11).1, (t.1 12).1, (t.1 8).1 0), (t.1 10).1), (t.1 13).1, (t.1 14).1), ((t.1 15).1, (t.1 16).1, ((t.1 17).2.2)))).2.1.1.1.2.1))), ((ad 12), .inl (0, 108, .inl ((frT 1450 (((t.1 6).1, (t.1 7).1, (t.1 5).1 0, (t.1 5).1 1), ((((t.1 9).1, (t.1 11).1, (t.1 12).1, (t.1 8).1 0), (t.1 10).1), (t.1 13).1, (t.1 14).1), ((t.1 15).1, (t.1 16).1, ((t.1 17).2.2)))).2.1.1.1.2.2.1))), ((ad 13), .inl (0, 108, .inl ((frT 1450 (((t.1 6).1, (t.1 7).1, (t.1 5).1 0, (t.1 5).1 1), ((((t.1 9).1, (t.1 11).1, (t.1 12).1, (t.1 8).1 0), (t.1 10).1), (t.1 13).1, (t.1 14).1), ((t.1 15).1, (t.1 16).1, ((t.1 17).2.2)))).2.1.2.1))), ((ad 14), .inl (0, 108, .inl ((frT 1450 (((t.1 6).1, (t.1 7).1, (t.1 5).1 0, (t.1 5).1 1), ((((t.1 9).1, (t.1 11).1, (t.1 12).1, (t.1 8).1 0), (t.1 10).1), (t.1 13).1, (t.1 14).1), ((t.1 15).1, (t.1 16).1, ((t.1 17).2.2)))).2.1.2.2))), ((ad 15), .inl (2, 108, .inl ((frT 1450 (((t.1 6).1, (t.1 7).1, (t.1 5).1 0, (t.1 5).1 1), ((((t.1 9).1, (t.1 11).1, (t.1 12).1, (t.1 8).1 0), (t.1 10).1), (t.1 13).1, (t.1 14).1), ((t.1 15).1, (t.1 16).1, ((t.1 17).2.2)))).2.2.1))), ((ad 16), .inl (2, 108, .inl ((afS ((frT 1450 (((t.1 6).1, (t.1 7).1, (t.1 5).1 0, (t.1 5).1 1), ((((t.1 9).1, (t.1 11).1, (t.1 12).1, (t.1 8).1 0), (t.1 10).1), (t.1 13).1, (t.1 14).1), ((t.1 15).1, (t.1 16).1, ((t.1 17).2.2)))).1.1) ((frT 1450 (((t.1 6).1, (t.1 7).1, (t.1 5).1 0, (t.1 5).1 1), ((((t.1 9).1, (t.1 11).1, (t.1 12).1, (t.1 8).1 0), (t.1 10).1), (t.1 13).1, (t.1 14).1), ((t.1 15).1, (t.1 16).1, ((t.1 17).2.2)))).1.2.1) ((frT 1450 (((t.1 6).1, (t.1 7).1, (t.1 5).1 0, (t.1 5).1 1), ((((t.1 9).1, (t.1 11).1, (t.1 12).1, (t.1 8).1 0), (t.1 10).1), (t.1 13).1, (t.1 14).1), ((t.1 15).1, (t.1 16).1, ((t.1 17).2.2)))).2.1.1.1.2.2.1) ((frT 1450 (((t.1 6).1, (t.1 7).1, (t.1 5).1 0, (t.1 5).1 1), ((((t.1 9).1, (t.1 11).1, (t.1 12).1, (t.1 8).1 0), (t.1 10).1), (t.1 13).1, (t.1 14).1), ((t.1 15).1, (t.1 16).1, ((t.1 17).2.2)))).2.2.1) (((frT 1450 (((t.1 6).1, (t.1 7).1, (t.1 5).1 0, (t.1 5).1 1), ((((t.1 9).1, (t.1 11).1, (t.1 12).1, (t.1 8).1 0), (t.1 10).1), (t.1 13).1, (t.1 14).1), ((t.1 15).1, (t.1 16).1, ((t.1 17).2.2)))).2.2.2.1), ((frT 1450 (((t.1 6).1, (t.1 7).1, (t.1 5).1 0, (t.1 5).1 1), ((((t.1 9).1, (t.1 11).1, (t.1 12).1, (t.1 8).1 0), (t.1 10).1), (t.1 13).1, (t.1 14).1), ((t.1 15).1, (t.1 16).1, ((t.1 17).2.2)))).2.2.2.2)) 108).2.1))), ((ad 17), .inl (0, 108, .inl (fun k => nI ((afS ((frT 1450 (((t.1 6).1, (t.1 7).1, (t.1 5).1 0, (t.1 5).1 1), ((((t.1 9).1, (t.1 11).1, (t.1 12).1, (t.1 8).1 0), (t.1 10).1), (t.1 13).1, (t.1 14).1), ((t.1 15).1, (t.1 16).1, ((t.1 17).2.2)))).1.1) ((frT 1450 (((t.1 6).1, (t.1 7).1, (t.1 5).1 0, (t.1 5).1 1), ((((t.1 9).1, (t.1 11).1, (t.1 12).1, (t.1 8).1 0), (t.1 10).1), (t.1 13).1, (t.1 14).1), ((t.1 15).1, (t.1 16).1, ((t.1 17).2.2)))).1.2.1) ((frT 1450 (((t.1 6).1, (t.1 7).1, (t.1 5).1 0, (t.1 5).1 1), ((((t.1 9).1, (t.1 11).1, (t.1 12).1, (t.1 8).1 0), (t.1 10).1), (t.1 13).1, (t.1 14).1), ((t.1 15).1, (t.1 16).1, ((t.1 17).2.2)))).2.1.1.1.2.2.1) ((frT 1450 (((t.1 6).1, (t.1 7).1, (t.1 5).1 0, (t.1 5).1 1), ((((t.1 9).1, (t.1 11).1, (t.1 12).1, (t.1 8).1 0), (t.1 10).1), (t.1 13).1, (t.1 14).1), ((t.1 15).1, (t.1 16).1, ((t.1 17).2.2)))).2.2.1) (((frT 1450 (((t.1 6).1, (t.1 7).1, (t.1 5).1 0, (t.1 5).1 1), ((((t.1 9).1, (t.1 11).1, (t.1 12).1, (t.1 8).1 0), (t.1 10).1), (t.1 13).1, (t.1 14).1), ((t.1 15).1, (t.1 16).1, ((t.1 17).2.2)))).2.2.2.1), ((frT 1450 (((t.1 6).1, (t.1 7).1, (t.1 5).1 0, (t.1 5).1 1), ((((t.1 9).1, (t.1 11).1, (t.1 12).1, (t.1 8).1 0), (t.1 10).1), (t.1 13).1, (t.1 14).1), ((t.1 15).1, (t.1 16).1, ((t.1 17).2.2)))).2.2.2.2)) 108).2.2 k))))]) rfl ?_
              refine y_if_eq (tgt := 66) d_Ip_isSound_59 (by decide) (fun c_59 => ?_) (fun c_59 => ?_)
              · exact absurd c_59 (zb_t ((TIX_so (X := XTt t) (hh := 1450) (hI.2.2).2.2.2.2 (by decide)).2 _))
              · refine y_iconst d_Ip_isSound_62 (v := 1) (by decide) ?_
                refine y_goto (tgt := 67) d_Ip_isSound_63 (by decide) ?_
                refine y_iret d_Ip_isSound_67 rfl rfl ?_
                exact fun w1 h1 => ⟨rfl, IVm.tw (hI.gen (t2 := (zup t.1 [(5, ((upd (upd ((t.1 5).1) 0 ((frT 1450 (((t.1 6).1, (t.1 7).1, (t.1 5).1 0, (t.1 5).1 1), ((((t.1 9).1, (t.1 11).1, (t.1 12).1, (t.1 8).1 0), (t.1 10).1), (t.1 13).1, (t.1 14).1), ((t.1 15).1, (t.1 16).1, ((t.1 17).2.2)))).1.2.2.1)) 1 ((frT 1450 (((t.1 6).1, (t.1 7).1, (t.1 5).1 0, (t.1 5).1 1), ((((t.1 9).1, (t.1 11).1, (t.1 12).1, (t.1 8).1 0), (t.1 10).1), (t.1 13).1, (t.1 14).1), ((t.1 15).1, (t.1 16).1, ((t.1 17).2.2)))).1.2.2.2)), (t.1 5).2.1, (t.1 5).2.2)), (6, (((frT 1450 (((t.1 6).1, (t.1 7).1, (t.1 5).1 0, (t.1 5).1 1), ((((t.1 9).1, (t.1 11).1, (t.1 12).1, (t.1 8).1 0), (t.1 10).1), (t.1 13).1, (t.1 14).1), ((t.1 15).1, (t.1 16).1, ((t.1 17).2.2)))).1.1), (t.1 6).2)), (7, (((frT 1450 (((t.1 6).1, (t.1 7).1, (t.1 5).1 0, (t.1 5).1 1), ((((t.1 9).1, (t.1 11).1, (t.1 12).1, (t.1 8).1 0), (t.1 10).1), (t.1 13).1, (t.1 14).1), ((t.1 15).1, (t.1 16).1, ((t.1 17).2.2)))).1.2.1), (t.1 7).2)), (8, ((upd ((t.1 8).1) 0 ((frT 1450 (((t.1 6).1, (t.1 7).1, (t.1 5).1 0, (t.1 5).1 1), ((((t.1 9).1, (t.1 11).1, (t.1 12).1, (t.1 8).1 0), (t.1 10).1), (t.1 13).1, (t.1 14).1), ((t.1 15).1, (t.1 16).1, ((t.1 17).2.2)))).2.1.1.1.2.2.2)), (t.1 8).2.1, (t.1 8).2.2)), (9, ((frT 1450 (((t.1 6).1, (t.1 7).1, (t.1 5).1 0, (t.1 5).1 1), ((((t.1 9).1, (t.1 11).1, (t.1 12).1, (t.1 8).1 0), (t.1 10).1), (t.1 13).1, (t.1 14).1), ((t.1 15).1, (t.1 16).1, ((t.1 17).2.2)))).2.1.1.1.1, (t.1 9).2)), (10, ((frT 1450 (((t.1 6).1, (t.1 7).1, (t.1 5).1 0, (t.1 5).1 1), ((((t.1 9).1, (t.1 11).1, (t.1 12).1, (t.1 8).1 0), (t.1 10).1), (t.1 13).1, (t.1 14).1), ((t.1 15).1, (t.1 16).1, ((t.1 17).2.2)))).2.1.1.2, (t.1 10).2)), (11, ((frT 1450 (((t.1 6).1, (t.1 7).1, (t.1 5).1 0, (t.1 5).1 1), ((((t.1 9).1, (t.1 11).1, (t.1 12).1, (t.1 8).1 0), (t.1 10).1), (t.1 13).1, (t.1 14).1), ((t.1 15).1, (t.1 16).1, ((t.1 17).2.2)))).2.1.1.1.2.1, (t.1 11).2)), (12, (((frT 1450 (((t.1 6).1, (t.1 7).1, (t.1 5).1 0, (t.1 5).1 1), ((((t.1 9).1, (t.1 11).1, (t.1 12).1, (t.1 8).1 0), (t.1 10).1), (t.1 13).1, (t.1 14).1), ((t.1 15).1, (t.1 16).1, ((t.1 17).2.2)))).2.1.1.1.2.2.1), (t.1 12).2)), (13, ((frT 1450 (((t.1 6).1, (t.1 7).1, (t.1 5).1 0, (t.1 5).1 1), ((((t.1 9).1, (t.1 11).1, (t.1 12).1, (t.1 8).1 0), (t.1 10).1), (t.1 13).1, (t.1 14).1), ((t.1 15).1, (t.1 16).1, ((t.1 17).2.2)))).2.1.2.1, (t.1 13).2)), (14, ((frT 1450 (((t.1 6).1, (t.1 7).1, (t.1 5).1 0, (t.1 5).1 1), ((((t.1 9).1, (t.1 11).1, (t.1 12).1, (t.1 8).1 0), (t.1 10).1), (t.1 13).1, (t.1 14).1), ((t.1 15).1, (t.1 16).1, ((t.1 17).2.2)))).2.1.2.2, (t.1 14).2)), (15, (((frT 1450 (((t.1 6).1, (t.1 7).1, (t.1 5).1 0, (t.1 5).1 1), ((((t.1 9).1, (t.1 11).1, (t.1 12).1, (t.1 8).1 0), (t.1 10).1), (t.1 13).1, (t.1 14).1), ((t.1 15).1, (t.1 16).1, ((t.1 17).2.2)))).2.2.1), (t.1 15).2)), (16, ((afS ((frT 1450 (((t.1 6).1, (t.1 7).1, (t.1 5).1 0, (t.1 5).1 1), ((((t.1 9).1, (t.1 11).1, (t.1 12).1, (t.1 8).1 0), (t.1 10).1), (t.1 13).1, (t.1 14).1), ((t.1 15).1, (t.1 16).1, ((t.1 17).2.2)))).1.1) ((frT 1450 (((t.1 6).1, (t.1 7).1, (t.1 5).1 0, (t.1 5).1 1), ((((t.1 9).1, (t.1 11).1, (t.1 12).1, (t.1 8).1 0), (t.1 10).1), (t.1 13).1, (t.1 14).1), ((t.1 15).1, (t.1 16).1, ((t.1 17).2.2)))).1.2.1) ((frT 1450 (((t.1 6).1, (t.1 7).1, (t.1 5).1 0, (t.1 5).1 1), ((((t.1 9).1, (t.1 11).1, (t.1 12).1, (t.1 8).1 0), (t.1 10).1), (t.1 13).1, (t.1 14).1), ((t.1 15).1, (t.1 16).1, ((t.1 17).2.2)))).2.1.1.1.2.2.1) ((frT 1450 (((t.1 6).1, (t.1 7).1, (t.1 5).1 0, (t.1 5).1 1), ((((t.1 9).1, (t.1 11).1, (t.1 12).1, (t.1 8).1 0), (t.1 10).1), (t.1 13).1, (t.1 14).1), ((t.1 15).1, (t.1 16).1, ((t.1 17).2.2)))).2.2.1) (((frT 1450 (((t.1 6).1, (t.1 7).1, (t.1 5).1 0, (t.1 5).1 1), ((((t.1 9).1, (t.1 11).1, (t.1 12).1, (t.1 8).1 0), (t.1 10).1), (t.1 13).1, (t.1 14).1), ((t.1 15).1, (t.1 16).1, ((t.1 17).2.2)))).2.2.2.1), ((frT 1450 (((t.1 6).1, (t.1 7).1, (t.1 5).1 0, (t.1 5).1 1), ((((t.1 9).1, (t.1 11).1, (t.1 12).1, (t.1 8).1 0), (t.1 10).1), (t.1 13).1, (t.1 14).1), ((t.1 15).1, (t.1 16).1, ((t.1 17).2.2)))).2.2.2.2)) 108).2.1, (t.1 16).2)), (17, ((t.1 17).1, (t.1 17).2.1, (afS ((frT 1450 (((t.1 6).1, (t.1 7).1, (t.1 5).1 0, (t.1 5).1 1), ((((t.1 9).1, (t.1 11).1, (t.1 12).1, (t.1 8).1 0), (t.1 10).1), (t.1 13).1, (t.1 14).1), ((t.1 15).1, (t.1 16).1, ((t.1 17).2.2)))).1.1) ((frT 1450 (((t.1 6).1, (t.1 7).1, (t.1 5).1 0, (t.1 5).1 1), ((((t.1 9).1, (t.1 11).1, (t.1 12).1, (t.1 8).1 0), (t.1 10).1), (t.1 13).1, (t.1 14).1), ((t.1 15).1, (t.1 16).1, ((t.1 17).2.2)))).1.2.1) ((frT 1450 (((t.1 6).1, (t.1 7).1, (t.1 5).1 0, (t.1 5).1 1), ((((t.1 9).1, (t.1 11).1, (t.1 12).1, (t.1 8).1 0), (t.1 10).1), (t.1 13).1, (t.1 14).1), ((t.1 15).1, (t.1 16).1, ((t.1 17).2.2)))).2.1.1.1.2.2.1) ((frT 1450 (((t.1 6).1, (t.1 7).1, (t.1 5).1 0, (t.1 5).1 1), ((((t.1 9).1, (t.1 11).1, (t.1 12).1, (t.1 8).1 0), (t.1 10).1), (t.1 13).1, (t.1 14).1), ((t.1 15).1, (t.1 16).1, ((t.1 17).2.2)))).2.2.1) (((frT 1450 (((t.1 6).1, (t.1 7).1, (t.1 5).1 0, (t.1 5).1 1), ((((t.1 9).1, (t.1 11).1, (t.1 12).1, (t.1 8).1 0), (t.1 10).1), (t.1 13).1, (t.1 14).1), ((t.1 15).1, (t.1 16).1, ((t.1 17).2.2)))).2.2.2.1), ((frT 1450 (((t.1 6).1, (t.1 7).1, (t.1 5).1 0, (t.1 5).1 1), ((((t.1 9).1, (t.1 11).1, (t.1 12).1, (t.1 8).1 0), (t.1 10).1), (t.1 13).1, (t.1 14).1), ((t.1 15).1, (t.1 16).1, ((t.1 17).2.2)))).2.2.2.2)) 108).2.2))], t.2)) (is := [0, 5, 6, 7, 8, 9, 10, 11, 12, 13, 14, 15, 16, 17]) (L2 := []) h1 rfl ⟨kd_0.mpr rfl, kd_5.mpr rfl, kd_6.mpr rfl, kd_7.mpr rfl, kd_8.mpr rfl, kd_9.mpr rfl, kd_10.mpr rfl, kd_11.mpr rfl, kd_12.mpr rfl, kd_13.mpr rfl, kd_14.mpr rfl, kd_15.mpr ⟨(frT_01 (h := 1450) (X := (((t.1 6).1, (t.1 7).1, (t.1 5).1 0, (t.1 5).1 1), ((((t.1 9).1, (t.1 11).1, (t.1 12).1, (t.1 8).1 0), (t.1 10).1), (t.1 13).1, (t.1 14).1), ((t.1 15).1, (t.1 16).1, ((t.1 17).2.2)))) c_ta4_0), rfl⟩, kd_16.mpr rfl, kd_17.mpr rfl, trivial⟩ (by decide) (by decide) (fun _ h => nomatch h) (fun _ h => nomatch h) (fun i hi hn => zup_out (fun q => hn ((by decide : ∀ j ∈ ([5, 6, 7, 8, 9, 10, 11, 12, 13, 14, 15, 16, 17] : List Nat), j ∈ ([0, 5, 6, 7, 8, 9, 10, 11, 12, 13, 14, 15, 16, 17] : List Nat)) i q))) (fun k9 => ⟨k9.1, k9.2.1, k9.2.2.1, k9.2.2.2.1, (TIX_fr (X := XTt t) _ k9.2.2.2.2 : TIX (frT 1450 (XTt t)) (t.1 2).1)⟩) rfl) (tx_all rfl)⟩
    · have hn := z_nle (a := 4) (by omega) (by decide) c_13
      refine y_aload_n d_Ip_isSound_16 rfl 1 rfl ?_
      refine y_iload_n d_Ip_isSound_17 rfl 0 rfl ?_
      refine yw_callV (As := [.int (nI i)]) (rest := []) (q0 := 0) rfl rfl ln_Ip_500 w_im_Ip_elementBalances w_se_Ip_elementBalances ok_Ip_isSound_Ip_elementBalances d_Ip_isSound_18 (fun wA hA => Qe_elementBalances (hI.gen (t2 := t) (is := [0, 5, 6, 7, 8, 9, 10, 11, 12, 13, 14, 15, 16, 17]) (L2 := []) hA rfl ⟨kd_0.mpr rfl, kd_5.mpr rfl, kd_6.mpr rfl, kd_7.mpr rfl, kd_8.mpr rfl, kd_9.mpr rfl, kd_10.mpr rfl, kd_11.mpr rfl, kd_12.mpr rfl, kd_13.mpr rfl, kd_14.mpr rfl, kd_15.mpr ⟨c_ta4_0, rfl⟩, kd_16.mpr rfl, kd_17.mpr rfl, trivial⟩ (by decide) (by decide) (fun _ h => nomatch h) (fun _ h => nomatch h) (fun _ _ _ => rfl) (fun h => h) rfl) i (by omega) ((congrArg (fun z => z * 10 + (t.1 40).2.1 i) (hg_cg _ _ _ _)).trans (hb.2 i (by omega)))) rfl rfl (Nat.le_of_ble_eq_true rfl) (by omega) (by omega) (fun wA18 hA18 E wB18 hx => ?_) (fun wA18 hA18 v wB18 hx => ?_)
      · exact absurd hx.1 (by simp)
      · obtain ⟨e1, e2⟩ := hx
        cases e1
        refine yw_st (st2 := [.int 1]) rfl ?_
        subst e2
        refine y_go hA18 ?_
        refine y_if_ne (tgt := 26) d_Ip_isSound_21 (by decide) (fun c_21 => ?_) (fun c_21 => ?_)
        · refine y_iinc (lv' := [(1, .int (nI (i + 1))), (0, .ref (ad 0))]) (v := nI (i + 1)) d_Ip_isSound_26 (j := 0) rfl (nI_add _ _) (by decide) rfl ?_
          refine y_goto (tgt := 11) d_Ip_isSound_29 (by decide) ?_
          refine y_lvE (lv2 := [(1, .int (nI (i + 1))), (0, .ref (ad 0))]) (rfl) ?_
          refine y_end (fun wC1 hC1 => ?_)
          obtain rfl := z_I.same hJ hC1
          exact ih (i + 1) (by omega) (by omega)
        · exact absurd c_21 (by decide)
set_option maxHeartbeats 4000000 in
set_option maxRecDepth 100000 in
theorem Qe_Ip_isSound {g : zG} {ad : Nat → Nat} {t : zTT} {u : zNN} {w : zW} (hI : IV g ad t u w) (hb : BALt t u.1) : zMB g M_Ip_isSound [.ref (ad 0)] w (fun o w1 => o = .inl (some (.int 1)) ∧ IVm g ad t u w1) 0 0 := by
  obtain ⟨e_a, wf_a, k_a⟩ := hI.1.2 0 (by decide)
  obtain rfl := kd_0.mp k_a
  obtain ⟨e_ta, wf_ta, k_ta⟩ := hI.1.2 5 (by decide)
  obtain rfl := kd_5.mp k_ta
  obtain ⟨e_ta1, wf_ta1, k_ta1⟩ := hI.1.2 6 (by decide)
  obtain rfl := kd_6.mp k_ta1
  obtain ⟨e_ta2, wf_ta2, k_ta2⟩ := hI.1.2 7 (by decide)
  obtain rfl := kd_7.mp k_ta2
  obtain ⟨e_taz, wf_taz, k_taz⟩ := hI.1.2 8 (by decide)
  obtain rfl := kd_8.mp k_taz
  obtain ⟨e_taz1, wf_taz1, k_taz1⟩ := hI.1.2 9 (by decide)
  obtain rfl := kd_9.mp k_taz1
  obtain ⟨e_taz2, wf_taz2, k_taz2⟩ := hI.1.2 10 (by decide)
  obtain rfl := kd_10.mp k_taz2
  obtain ⟨e_taz3, wf_taz3, k_taz3⟩ := hI.1.2 11 (by decide)
  obtain rfl := kd_11.mp k_taz3
  obtain ⟨e_taz4, wf_taz4, k_taz4⟩ := hI.1.2 12 (by decide)
  obtain rfl := kd_12.mp k_taz4
  obtain ⟨e_taz5, wf_taz5, k_taz5⟩ := hI.1.2 13 (by decide)
  obtain rfl := kd_13.mp k_taz5
  obtain ⟨e_taz6, wf_taz6, k_taz6⟩ := hI.1.2 14 (by decide)
  obtain rfl := kd_14.mp k_taz6
  obtain ⟨e_ta4, wf_ta4, k_ta4⟩ := hI.1.2 15 (by decide)
  obtain ⟨c_ta4_0, rfl⟩ := kd_15.mp k_ta4
  obtain ⟨e_ta5, wf_ta5, k_ta5⟩ := hI.1.2 16 (by decide)
  obtain rfl := kd_16.mp k_ta5
  obtain ⟨e_ta6, wf_ta6, k_ta6⟩ := hI.1.2 17 (by decide)
  obtain rfl := kd_17.mp k_ta6
  have hJ := hI.1.I [0, 5, 6, 7, 8, 9, 10, 11, 12, 13, 14, 15, 16, 17] [((ad 0), .inr (11, [.ref (ad 1), .ref (ad 5), .ref (ad 18), .ref (ad 31), .ref (ad 32), .ref (ad 36), .ref (ad 42), .ref (ad 45), .ref (ad 47), .ref (ad 49), .ref (ad 50), .ref (ad 51)])), ((ad 5), .inr (10, [.ref (ad 6), .ref (ad 7), .ref (ad 8), .ref (ad 15), .ref (ad 16), .ref (ad 17), .int ((t.1 5).1 0), .int ((t.1 5).1 1)])), ((ad 6), .inl (1, 108, .inl ((t.1 6).1))), ((ad 7), .inl (0, 108, .inl ((t.1 7).1))), ((ad 8), .inr (2, [.ref (ad 9), .ref (ad 10), .ref (ad 11), .ref (ad 12), .ref (ad 13), .ref (ad 14), .int ((t.1 8).1 0)])), ((ad 9), .inl (0, 108, .inl ((t.1 9).1))), ((ad 10), .inl (0, 108, .inl ((t.1 10).1))), ((ad 11), .inl (0, 108, .inl ((t.1 11).1))), ((ad 12), .inl (0, 108, .inl ((t.1 12).1))), ((ad 13), .inl (0, 108, .inl ((t.1 13).1))), ((ad 14), .inl (0, 108, .inl ((t.1 14).1))), ((ad 15), .inl (2, 108, .inl ((t.1 15).1))), ((ad 16), .inl (2, 108, .inl ((t.1 16).1))), ((ad 17), .inl (0, 108, .inl (fun k => nI (((t.1 17).2.2) k))))] rfl (by decide) (by decide) (List.forall_mem_cons.mpr ⟨wf_a, (List.forall_mem_cons.mpr ⟨wf_ta, (List.forall_mem_cons.mpr ⟨wf_ta1, (List.forall_mem_cons.mpr ⟨wf_ta2, (List.forall_mem_cons.mpr ⟨wf_taz, (List.forall_mem_cons.mpr ⟨wf_taz1, (List.forall_mem_cons.mpr ⟨wf_taz2, (List.forall_mem_cons.mpr ⟨wf_taz3, (List.forall_mem_cons.mpr ⟨wf_taz4, (List.forall_mem_cons.mpr ⟨wf_taz5, (List.forall_mem_cons.mpr ⟨wf_taz6, (List.forall_mem_cons.mpr ⟨wf_ta4, (List.forall_mem_cons.mpr ⟨wf_ta5, (List.forall_mem_cons.mpr ⟨wf_ta6, (fun _ h => nomatch h)⟩)⟩)⟩)⟩)⟩)⟩)⟩)⟩)⟩)⟩)⟩)⟩)⟩)⟩)
  refine y_of (by decide) rfl (Nat.le_of_ble_eq_true rfl) (y_base (cs := [((ad 0), .inr (11, [.ref (ad 1), .ref (ad 5), .ref (ad 18), .ref (ad 31), .ref (ad 32), .ref (ad 36), .ref (ad 42), .ref (ad 45), .ref (ad 47), .ref (ad 49), .ref (ad 50), .ref (ad 51)])), ((ad 5), .inr (10, [.ref (ad 6), .ref (ad 7), .ref (ad 8), .ref (ad 15), .ref (ad 16), .ref (ad 17), .int ((t.1 5).1 0), .int ((t.1 5).1 1)])), ((ad 6), .inl (1, 108, .inl ((t.1 6).1))), ((ad 7), .inl (0, 108, .inl ((t.1 7).1))), ((ad 8), .inr (2, [.ref (ad 9), .ref (ad 10), .ref (ad 11), .ref (ad 12), .ref (ad 13), .ref (ad 14), .int ((t.1 8).1 0)])), ((ad 9), .inl (0, 108, .inl ((t.1 9).1))), ((ad 10), .inl (0, 108, .inl ((t.1 10).1))), ((ad 11), .inl (0, 108, .inl ((t.1 11).1))), ((ad 12), .inl (0, 108, .inl ((t.1 12).1))), ((ad 13), .inl (0, 108, .inl ((t.1 13).1))), ((ad 14), .inl (0, 108, .inl ((t.1 14).1))), ((ad 15), .inl (2, 108, .inl ((t.1 15).1))), ((ad 16), .inl (2, 108, .inl ((t.1 16).1))), ((ad 17), .inl (0, 108, .inl (fun k => nI (((t.1 17).2.2) k))))]) hJ ?_)
  refine y_lvE (lv2 := [(0, .ref (ad 0))]) rfl ?_
  refine y_aload_n d_Ip_isSound_0 rfl 0 rfl ?_
  refine yw_callV (As := []) (rest := []) (q0 := 0) rfl rfl ln_Ip_497 w_im_Ip_ironBalances w_se_Ip_ironBalances ok_Ip_isSound_Ip_ironBalances d_Ip_isSound_1 (fun wA hA => Qe_ironBalances (hI.gen (t2 := t) (is := [0, 5, 6, 7, 8, 9, 10, 11, 12, 13, 14, 15, 16, 17]) (L2 := []) hA rfl ⟨kd_0.mpr rfl, kd_5.mpr rfl, kd_6.mpr rfl, kd_7.mpr rfl, kd_8.mpr rfl, kd_9.mpr rfl, kd_10.mpr rfl, kd_11.mpr rfl, kd_12.mpr rfl, kd_13.mpr rfl, kd_14.mpr rfl, kd_15.mpr ⟨c_ta4_0, rfl⟩, kd_16.mpr rfl, kd_17.mpr rfl, trivial⟩ (by decide) (by decide) (fun _ h => nomatch h) (fun _ h => nomatch h) (fun _ _ _ => rfl) (fun h => h) rfl) ((hb_ci _ _ _).trans hb.1)) rfl rfl (Nat.le_of_ble_eq_true rfl) (by omega) (by omega) (fun wA1 hA1 E wB1 hx => ?_) (fun wA1 hA1 v wB1 hx => ?_)
  · exact absurd hx.1 (by simp)
  · obtain ⟨e1, e2⟩ := hx
    cases e1
    refine yw_st (st2 := [.int 1]) rfl ?_
    subst e2
    refine y_go hA1 ?_
    refine y_if_ne (tgt := 9) d_Ip_isSound_4 (by decide) (fun c_4 => ?_) (fun c_4 => ?_)
    · refine y_iconst d_Ip_isSound_9 (v := 0) (by decide) ?_
      refine y_istore_n (lv' := [(1, .int 0), (0, .ref (ad 0))]) d_Ip_isSound_10 rfl (by decide) rfl ?_
      refine y_lvE (lv2 := [(1, .int (nI 0)), (0, .ref (ad 0))]) rfl ?_
      refine y_end (fun wC2 hC2 => ?_)
      obtain rfl := z_I.same hJ hC2
      exact L_Qe_Ip_isSound_11 g hI hb (4 + 1) 0 (Nat.zero_le _) (by omega)
    · exact absurd c_4 (by decide)
theorem KE_Ip_isSound {g : zG} {ad : Nat → Nat} {t : zTT} {u : zNN} {w : zW} (hI : IVm g ad t u w) (hb : BALt t u.1) : zMB g M_Ip_isSound [.ref (ad 0)] w (fun o w1 => o = .inl (some (.int 1)) ∧ IVm g ad t u w1) 10 300 := by
  obtain ⟨s, hI⟩ := hI
  exact (Qe_Ip_isSound hI hb).mono (by decide) (by decide) (fun o w1 h => ⟨h.1, h.2.mm⟩)
theorem KE_Mm_isSound {g : zG} {ad : Nat → Nat} {t : zTT} {u : zNN} {w : zW} (hI : IVm g ad t u w) : zMB g M_Mm_isSound [.ref (ad 52)] w (fun o w1 => o = .inl (some (.int 1)) ∧ IVm g ad t u w1) 10 300 := by
  obtain ⟨s, hI⟩ := hI
  exact (Qx_Mm_isSound hI).mono (by decide) (by decide) (fun o w1 h => ⟨h.1, ⟨_, h.2⟩⟩)
