def Wp (g : zG) (ad : Nat → Nat) (f : Nat → Int32) (k : Nat) (fu la gy du v : Int32) (w : zW) : Prop := ∃ t u, IV g ad t u w ∧ BO t u.1 f k ∧ (t.1 37).1 0 = fu ∧ (t.1 43).1 0 = la ∧ (t.1 45).1 0 = gy ∧ (t.1 47).1 0 = du ∧ ∃ k9, v = nI k9 ∧ k9 < u.1 1
theorem Wp.q {g : zG} {ad : Nat → Nat} {f : Nat → Int32} {k : Nat} {fu la gy du v : Int32} {w : zW} (h : Wp g ad f k fu la gy du v w) : Wq g ad f k fu la gy du w := by
  obtain ⟨t, u, h1, h2, h3, h4, h5, h6, -⟩ := h
  exact ⟨t, u, h1, h2, h3, h4, h5, h6⟩
theorem Wp.e {g : zG} {ad : Nat → Nat} {f : Nat → Int32} {k : Nat} {fu la gy du v : Int32} {w w1 : zW} (h : Wp g ad f k fu la gy du v w) (e : w1 = w) : Wp g ad f k fu la gy du v w1 := e ▸ h
theorem caF_nn (t : zTT) (vm : zV) (X : zTr) : 0 ≤ caF t vm X := by
  unfold caF caF2 caF1 moF mo1
  repeat' split
  all_goals decide
theorem w2_i {c : Nat} (h : c ≤ 108) : (2 * nI c : Int32).toInt = 2 * (c : Int) := by
  rw [show (2 * nI c : Int32) = nI (2 * c) from pk_mul _ _, nI_toInt (by omega)]
  omega
theorem pour_la {L W : Int32} (hL : 0 ≤ L.toInt ∧ L.toInt ≤ 400) (hW : 0 ≤ W.toInt ∧ W.toInt ≤ 216) : L - (if L < W then L else W) = if 0 < L - W then L - W else 0 := by
  have e : (L - W).toInt = L.toInt - W.toInt := sb32 hL hW (by decide) (by decide)
  have z0 : (0 : Int32).toInt = 0 := rfl
  by_cases h : L < W
  · have h2 := h
    rw [Int32.lt_iff_toInt_lt] at h2
    rw [if_pos h, if_neg (fun q => by rw [Int32.lt_iff_toInt_lt, e, z0] at q; omega), Int32.sub_self]
  · have h2 := h
    rw [Int32.lt_iff_toInt_lt] at h2
    rw [if_neg h]
    by_cases q : 0 < L - W
    · rw [if_pos q]
    · rw [if_neg q]
      have q2 := q
      rw [Int32.lt_iff_toInt_lt, e, z0] at q2
      exact Int32.toInt_inj.mp (by rw [e, z0]; omega)
theorem am_b {t : zTT} {v : zV} (hL : 0 ≤ ((t.1 43).1 0).toInt) (hv : v.2.2.2 0 ≤ 108) : 0 ≤ (amI t v).toInt ∧ (amI t v).toInt ≤ ((t.1 43).1 0).toInt := by
  have e2 := w2_i hv
  unfold amI
  by_cases q : (t.1 43).1 0 < 2 * nI (v.2.2.2 0)
  · rw [if_pos q]
    omega
  · rw [if_neg q]
    rw [Int32.lt_iff_toInt_lt] at q
    omega
section
variable {g : zG} {ad : Nat → Nat} {f : Nat → Int32} {k : Nat} {fu la gy du : Int32} {w : zW}
theorem B_mould (hW : Wq g ad f k fu la gy du w) : zMB g M_Lw_ask [.ref (ad 0), .int 11, .int 0, .int 0] w (fun o w1 => ∃ v : Int32, o = .inl (some (.int v)) ∧ Wq g ad f k fu la gy du w1) 4 170 := by
  have hr := hW.ra
  obtain ⟨t, u, hI, hB, rfl, rfl, rfl, rfl⟩ := hW
  by_cases hg : fa_cnt (fun k => decide (((t.1 2).1) k = 103)) 12 = 0
  · exact (K_askx dX_n dY_n hr 11 0 0 (by decide) (A_11 hr 0 0 0 0 0 (Qx_Ip_mouldE hI (Or.inl hg)) (fun v9 w1 h => nomatch h.1))).mono (by decide) (by decide) (fun o w1 h => ⟨_, h.1, ⟨t, u, h.2, hB, rfl, rfl, rfl, rfl⟩⟩)
  · by_cases hc : anB (fun k => decide (((t.1 2).1) k = 99)) 108 = true
    · by_cases hn : nI (coN ((t.1 2).1)) ≤ gdN t
      · by_cases hs : u.1 0 < 10
        · refine (K_askd hr 11 0 0 (by decide) (A_11 hr 0 0 0 0 0 (Qx_Ip_mouldN hI hg hc hn hs u.1 rfl) (fun v9 w1 h => ⟨_, Sum.inl.inj h.1⟩))).mono (by decide) (by decide) (fun o w1 h => ?_)
          obtain ⟨h1, u2, h2, h3⟩ := h
          have e0 : u2.1 0 = u.1 0 + 1 := by rw [h2]; rfl
          have e1 : u2.1 1 = u.1 1 := by rw [h2]; rfl
          refine ⟨_, h1, _, u2, h3, hB.c rfl ⟨rfl, rfl, rfl, rfl, rfl, rfl, rfl, rfl, rfl, rfl, rfl, rfl, rfl⟩ e1 (fun i hi => ?_), rfl, rfl, rfl, rfl⟩
          show (if i = u.1 0 then moV t else t.2 0 i).2.2.2 0 = cnM f
          by_cases q : i = u.1 0
          · rw [if_pos q]
            show cnM (t.1 2).1 = cnM f
            rw [hB.pf]
          · rw [if_neg q]
            exact hB.mo i (by omega)
        · exact (K_askx dX_s dY_s hr 11 0 0 (by decide) (A_11 hr 0 0 0 0 0 (Qx_Ip_mouldC hI hg hc hn hs) (fun v9 w1 h => nomatch h.1))).mono (by decide) (by decide) (fun o w1 h => ⟨_, h.1, ⟨t, u, h.2, hB, rfl, rfl, rfl, rfl⟩⟩)
      · exact (K_askx dX_u dY_u hr 11 0 0 (by decide) (A_11 hr 0 0 0 0 0 (Qx_Ip_mouldB hI hg hc hn) (fun v9 w1 h => nomatch h.1))).mono (by decide) (by decide) (fun o w1 h => ⟨_, h.1, ⟨t, u, h.2, hB, rfl, rfl, rfl, rfl⟩⟩)
    · exact (K_askx dX_n dY_n hr 11 0 0 (by decide) (A_11 hr 0 0 0 0 0 (Qx_Ip_mouldE hI (Or.inr (Bool.eq_false_iff.mpr hc))) (fun v9 w1 h => nomatch h.1))).mono (by decide) (by decide) (fun o w1 h => ⟨_, h.1, ⟨t, u, h.2, hB, rfl, rfl, rfl, rfl⟩⟩)
theorem po_BO {t : zTT} {u u2 : zNN} {f : Nat → Int32} {k : Nat} {X : zTr} (hB : BO t u.1 f k) (h0 : ¬ u.1 0 = 0) (h2 : u2.1 = z_upL (z_upL u.1 0 (u.1 0 - 1)) 1 (u.1 1 + 1)) : BO (poT t X (u.1 1)) u2.1 f k := by
  have e0 : u2.1 0 = u.1 0 - 1 := by rw [h2]; rfl
  have e1 : u2.1 1 = u.1 1 + 1 := by rw [h2]; rfl
  have hm := hB.mo 0 (by omega)
  have hc : (t.2 0 0).2.2.2 0 ≤ 108 := by rw [hm]; exact fa_cnt_le _ _
  have ha := am_b (t := t) hB.la.1 hc
  have hl := hB.la
  have eL : ((t.1 43).1 0 - amI t (t.2 0 0)).toInt = ((t.1 43).1 0).toInt - (amI t (t.2 0 0)).toInt := sb32 hl ha (by omega) (by omega)
  refine ⟨hB.pf, hB.fu, (show 0 ≤ ((t.1 43).1 0 - amI t (t.2 0 0)).toInt ∧ ((t.1 43).1 0 - amI t (t.2 0 0)).toInt ≤ 400 by rw [eL]; omega), hB.gy, hB.du, fun i hi => ?_, fun i hi => ?_, ?_⟩
  · show (0 ≤ ((z_apV (t.2 1) (u.1 1) (caV t (t.2 0 0) X (caF t (t.2 0 0) X)) i).1 5).toInt ∧ ((z_apV (t.2 1) (u.1 1) (caV t (t.2 0 0) X (caF t (t.2 0 0) X)) i).1 5).toInt ≤ 400) ∧ 0 ≤ (z_apV (t.2 1) (u.1 1) (caV t (t.2 0 0) X (caF t (t.2 0 0) X)) i).1 2
    unfold z_apV
    by_cases q : i = u.1 1
    · rw [if_pos q]
      refine ⟨?_, caF_nn t (t.2 0 0) X⟩
      rw [caV_5, Int32.zero_add]
      omega
    · rw [if_neg q]
      exact hB.ca i (by omega)
  · show (z_dlV (t.2 0) 0 i).2.2.2 0 = cnM f
    unfold z_dlV
    rw [if_neg (Nat.not_lt_zero i)]
    exact hB.mo (i + 1) (by omega)
  · unfold BALt
    rw [e1]
    show BAL ((t.1 37).1 0) ((t.1 43).1 0 - amI t (t.2 0 0)) ((t.1 45).1 0) ((t.1 47).1 0) ((t.1 36).2.1 0) (t.1 38).2.1 (mvS (t.1 44).2.1 (amI t (t.2 0 0)) ((t.1 43).1 0) 4) (t.1 46).2.1 (t.1 48).2.1 (t.1 41).2.1 (t.1 39).2.1 (t.1 40).2.1 (z_apV (t.2 1) (u.1 1) (caV t (t.2 0 0) X (caF t (t.2 0 0) X))) (u.1 1 + 1)
    exact BAL.po hB.bal (by omega) caV_4 (by rw [caV_5, Int32.zero_add]) (fun e => rfl)
theorem B_pour (hW : Wq g ad f k fu la gy du w) : zMB g M_Lw_ask [.ref (ad 0), .int 12, .int 0, .int 0] w (fun o w1 => ∃ v : Int32, o = .inl (some (.int v)) ∧ ((v < 0 ∧ Wq g ad f k fu la gy du w1) ∨ (¬ v < 0 ∧ Wp g ad f k fu (if 0 < la - 2 * nI (cnM f) then la - 2 * nI (cnM f) else 0) gy du v w1))) 6 60 := by
  have hr := hW.ra
  obtain ⟨t, u, hI, hB, rfl, rfl, rfl, rfl⟩ := hW
  by_cases h0 : u.1 0 = 0
  · exact (K_askx dX_n dY_n hr 12 0 0 (by decide) (A_12 hr 0 0 0 0 0 (Qx_Ip_pourE hI h0) (fun v9 w1 h => nomatch h.1))).mono (by decide) (by decide) (fun o w1 h => ⟨_, h.1, Or.inl ⟨(by decide), ⟨t, u, h.2, hB, rfl, rfl, rfl, rfl⟩⟩⟩)
  · by_cases h12 : ¬ (t.1 43).1 0 = 0 ∧ 1250 ≤ (t.1 42).1 0
    · by_cases h3 : u.1 1 < 30
      · have hv : ∀ (v9 : Option Value) (w1 : zW), (∃ X : zTr, (Sum.inl v9 : zO) = .inl (some (.int (nI (u.1 1 + 1) - 1))) ∧ ∃ u2 : zNN, u2.1 = z_upL (z_upL u.1 0 (u.1 0 - 1)) 1 (u.1 1 + 1) ∧ IV g ad (poT t X (u.1 1)) u2 w1) → ∃ i : Int32, v9 = some (.int i) := fun v9 w1 h => by
          obtain ⟨X, e, -⟩ := h
          exact ⟨_, Sum.inl.inj e⟩
        refine D_ask hr 12 0 0 ((D_done hr 12 0 0 0 0 0 (by decide) (A_12 hr 0 0 0 0 0 (Qx_Ip_pourN hI h0 h12.1 h12.2 h3 u.1 rfl) hv) hv (fun E w1 h => by obtain ⟨X, e, -⟩ := h; cases e)).mono (Nat.le_refl _) (Nat.le_refl _) (fun o w1 h => ?_)) (fun v9 w1 h => by obtain ⟨v, e, -⟩ := h; exact ⟨v, Sum.inl.inj e⟩)
        obtain ⟨o2, v2, ⟨X, rfl, u2, h2, hI2⟩, hd, rfl⟩ := h
        have ev : v2 = nI (u.1 1) := (dR_i hd).trans (nI_prd (u.1 1))
        have hm := hB.mo 0 (by omega)
        have hc : cnM f ≤ 108 := fa_cnt_le _ _
        have e1 : u2.1 1 = u.1 1 + 1 := by rw [h2]; rfl
        refine ⟨v2, rfl, Or.inr ⟨by rw [ev]; exact nI_nneg (by omega), _, u2, hI2, po_BO hB h0 h2, rfl, ?_, rfl, rfl, u.1 1, ev, by omega⟩⟩
        show (t.1 43).1 0 - amI t (t.2 0 0) = _
        unfold amI
        rw [hm]
        exact pour_la hB.la (by rw [w2_i hc]; omega)
      · exact (K_askx dX_u dY_u hr 12 0 0 (by decide) (A_12 hr 0 0 0 0 0 (Qx_Ip_pourG hI h0 h12.1 h12.2 h3) (fun v9 w1 h => nomatch h.1))).mono (by decide) (by decide) (fun o w1 h => ⟨_, h.1, Or.inl ⟨(by decide), ⟨t, u, h.2, hB, rfl, rfl, rfl, rfl⟩⟩⟩)
    · exact (K_askx dX_s dY_s hr 12 0 0 (by decide) (A_12 hr 0 0 0 0 0 (Qx_Ip_pourF hI h0 h12) (fun v9 w1 h => nomatch h.1))).mono (by decide) (by decide) (fun o w1 h => ⟨_, h.1, Or.inl ⟨(by decide), ⟨t, u, h.2, hB, rfl, rfl, rfl, rfl⟩⟩⟩)
theorem B_faults {v : Int32} (hW : Wp g ad f k fu la gy du v w) : zMB g M_Lw_ask [.ref (ad 0), .int 37, .int v, .int 0] w (fun o w1 => ∃ fl : Int32, o = .inl (some (.int fl)) ∧ 0 ≤ fl ∧ Wq g ad f k fu la gy du w1) 1 6 := by
  have hr := hW.q.ra
  obtain ⟨t, u, hI, hB, rfl, rfl, rfl, rfl, k9, rfl, h9⟩ := hW
  exact (K_ask hr 37 (nI k9) 0 (by decide) (A_37 hr (nI k9) 0 0 0 (Qy_Ip_faultsN hI k9 h9) (fun v9 w1 h => ⟨_, Sum.inl.inj h.1⟩))).mono (by decide) (by decide) (fun o w1 h => ⟨_, h.1, (hB.ca k9 h9).2, t, u, h.2, hB, rfl, rfl, rfl, rfl⟩)
theorem B_break {j : Nat} (hk : k < 14) (h4 : j < 4) (hW : Wq g ad f k fu la gy du w) : zMB g M_Lw_ask [.ref (ad 0), .int 15, .int (nI j), .int 0] w (fun o w1 => ∃ v : Int32, o = .inl (some (.int v)) ∧ ((v < 0 ∧ Wq g ad f k fu la gy du w1) ∨ (¬ v < 0 ∧ ∃ gy2 du2, Wq g ad f (k + 1) fu la gy2 du2 w1))) 3 18 := by
  have hr := hW.ra
  obtain ⟨t, u, hI, hB, rfl, rfl, rfl, rfl⟩ := hW
  have hl := hB.la
  have h3 := hB.gy
  have h4' := hB.du
  have hU := hB.up (Nat.le_succ k)
  by_cases hj : j < u.1 1
  · have hq := (hB.ca j hj).1
    by_cases h34 : (t.2 1 j).1 3 = 0 ∧ (t.2 1 j).1 4 = 0
    · by_cases h5 : (t.2 1 j).1 0 < 20
      · have e : ((t.1 45).1 0 + (t.2 1 j).1 5).toInt = ((t.1 45).1 0).toInt + ((t.2 1 j).1 5).toInt := ad32 h3 hq (by decide) (by omega)
        refine (K_askd hr 15 (nI j) 0 (by decide) (A_15 hr (nI j) 0 0 0 0 (Qx_Ip_breakUpG hI j hj h34.1 h34.2 h5) (fun v9 w1 h => ⟨_, Sum.inl.inj h.1⟩))).mono (by decide) (by decide) (fun o w1 h => ⟨_, h.1, Or.inr ⟨Int32.not_lt.mpr (nn_i (by rw [e]; omega)), _, _, _, u, h.2, ⟨hB.pf, hB.fu, hB.la, (show 0 ≤ ((t.1 45).1 0 + (t.2 1 j).1 5).toInt ∧ ((t.1 45).1 0 + (t.2 1 j).1 5).toInt ≤ 400 * ((k + 1 : Nat) : Int) by rw [e]; omega), hU.du, fun i hi => ?_, fun i hi => ?_, ?_⟩, rfl, rfl, rfl, rfl⟩⟩)
        · have h8 := hB.ca i hi
          by_cases q : i = j
          · subst q
            show (0 ≤ ((vup t.2 1 i (upd ((t.2 1 i).1) 4 (1), (t.2 1 i).2) 1 i).1 5).toInt ∧ ((vup t.2 1 i (upd ((t.2 1 i).1) 4 (1), (t.2 1 i).2) 1 i).1 5).toInt ≤ 400) ∧ 0 ≤ (vup t.2 1 i (upd ((t.2 1 i).1) 4 (1), (t.2 1 i).2) 1 i).1 2
            rw [show vup t.2 1 i (upd ((t.2 1 i).1) 4 (1), (t.2 1 i).2) 1 i = (upd ((t.2 1 i).1) 4 (1), (t.2 1 i).2) from if_pos ⟨rfl, rfl⟩]
            exact h8
          · show (0 ≤ ((vup t.2 1 j (upd ((t.2 1 j).1) 4 (1), (t.2 1 j).2) 1 i).1 5).toInt ∧ ((vup t.2 1 j (upd ((t.2 1 j).1) 4 (1), (t.2 1 j).2) 1 i).1 5).toInt ≤ 400) ∧ 0 ≤ (vup t.2 1 j (upd ((t.2 1 j).1) 4 (1), (t.2 1 j).2) 1 i).1 2
            rw [show vup t.2 1 j (upd ((t.2 1 j).1) 4 (1), (t.2 1 j).2) 1 i = t.2 1 i from if_neg (fun z => q z.2)]
            exact h8
        · show (vup t.2 1 j (upd ((t.2 1 j).1) 4 (1), (t.2 1 j).2) 0 i).2.2.2 0 = cnM f
          rw [show vup t.2 1 j (upd ((t.2 1 j).1) 4 (1), (t.2 1 j).2) 0 i = t.2 0 i from if_neg (fun z => absurd z.1 (by decide))]
          exact hB.mo i hi
        · show BAL ((t.1 37).1 0) ((t.1 43).1 0) ((t.1 45).1 0 + (t.2 1 j).1 5) ((t.1 47).1 0) ((t.1 36).2.1 0) (t.1 38).2.1 (t.1 44).2.1 (lfd ((t.1 46).2.1) ((t.2 1 j).2.2.1) 4) (t.1 48).2.1 (t.1 41).2.1 (t.1 39).2.1 (t.1 40).2.1 ((vup t.2 1 j (upd ((t.2 1 j).1) 4 (1), (t.2 1 j).2)) 1) (u.1 1)
          rw [vup_1]
          exact BAL.buc hB.bal hj h34.2 (by rw [v1_eq]; decide) (by omega)
      · have e : ((t.1 47).1 0 + (t.2 1 j).1 5).toInt = ((t.1 47).1 0).toInt + ((t.2 1 j).1 5).toInt := ad32 h4' hq (by decide) (by omega)
        refine (K_askd hr 15 (nI j) 0 (by decide) (A_15 hr (nI j) 0 0 0 0 (Qx_Ip_breakUpD hI j hj h34.1 h34.2 h5) (fun v9 w1 h => ⟨_, Sum.inl.inj h.1⟩))).mono (by decide) (by decide) (fun o w1 h => ⟨_, h.1, Or.inr ⟨Int32.not_lt.mpr (nn_i (by rw [e]; omega)), _, _, _, u, h.2, ⟨hB.pf, hB.fu, hB.la, hU.gy, (show 0 ≤ ((t.1 47).1 0 + (t.2 1 j).1 5).toInt ∧ ((t.1 47).1 0 + (t.2 1 j).1 5).toInt ≤ 400 * ((k + 1 : Nat) : Int) by rw [e]; omega), fun i hi => ?_, fun i hi => ?_, ?_⟩, rfl, rfl, rfl, rfl⟩⟩)
        · have h8 := hB.ca i hi
          by_cases q : i = j
          · subst q
            show (0 ≤ ((vup t.2 1 i (upd ((t.2 1 i).1) 4 (1), (t.2 1 i).2) 1 i).1 5).toInt ∧ ((vup t.2 1 i (upd ((t.2 1 i).1) 4 (1), (t.2 1 i).2) 1 i).1 5).toInt ≤ 400) ∧ 0 ≤ (vup t.2 1 i (upd ((t.2 1 i).1) 4 (1), (t.2 1 i).2) 1 i).1 2
            rw [show vup t.2 1 i (upd ((t.2 1 i).1) 4 (1), (t.2 1 i).2) 1 i = (upd ((t.2 1 i).1) 4 (1), (t.2 1 i).2) from if_pos ⟨rfl, rfl⟩]
            exact h8
          · show (0 ≤ ((vup t.2 1 j (upd ((t.2 1 j).1) 4 (1), (t.2 1 j).2) 1 i).1 5).toInt ∧ ((vup t.2 1 j (upd ((t.2 1 j).1) 4 (1), (t.2 1 j).2) 1 i).1 5).toInt ≤ 400) ∧ 0 ≤ (vup t.2 1 j (upd ((t.2 1 j).1) 4 (1), (t.2 1 j).2) 1 i).1 2
            rw [show vup t.2 1 j (upd ((t.2 1 j).1) 4 (1), (t.2 1 j).2) 1 i = t.2 1 i from if_neg (fun z => q z.2)]
            exact h8
        · show (vup t.2 1 j (upd ((t.2 1 j).1) 4 (1), (t.2 1 j).2) 0 i).2.2.2 0 = cnM f
          rw [show vup t.2 1 j (upd ((t.2 1 j).1) 4 (1), (t.2 1 j).2) 0 i = t.2 0 i from if_neg (fun z => absurd z.1 (by decide))]
          exact hB.mo i hi
        · show BAL ((t.1 37).1 0) ((t.1 43).1 0) ((t.1 45).1 0) ((t.1 47).1 0 + (t.2 1 j).1 5) ((t.1 36).2.1 0) (t.1 38).2.1 (t.1 44).2.1 (t.1 46).2.1 (lfd ((t.1 48).2.1) ((t.2 1 j).2.2.1) 4) (t.1 41).2.1 (t.1 39).2.1 (t.1 40).2.1 ((vup t.2 1 j (upd ((t.2 1 j).1) 4 (1), (t.2 1 j).2)) 1) (u.1 1)
          rw [vup_1]
          exact BAL.bud hB.bal hj h34.2 (by rw [v1_eq]; decide) (by omega)
    · exact (K_askx dX_s dY_s hr 15 (nI j) 0 (by decide) (A_15 hr (nI j) 0 0 0 0 (Qx_Ip_breakUpS hI j hj h34) (fun v9 w1 h => nomatch h.1))).mono (by decide) (by decide) (fun o w1 h => ⟨_, h.1, Or.inl ⟨(by decide), ⟨t, u, h.2, hB, rfl, rfl, rfl, rfl⟩⟩⟩)
  · exact (K_askx dX_b dY_b hr 15 (nI j) 0 (by decide) (A_15 hr (nI j) 0 0 0 0 (Qy_Ip_breakUpE hI (nI j) (fun q => by obtain ⟨i, hi, e⟩ := q; exact hj (nI_ij (by omega) (by have := hI.n5 1 (by decide); omega) e ▸ hi))) (fun v9 w1 h => nomatch h.1))).mono (by decide) (by decide) (fun o w1 h => ⟨_, h.1, Or.inl ⟨(by decide), ⟨t, u, h.2, hB, rfl, rfl, rfl, rfl⟩⟩⟩)
end
