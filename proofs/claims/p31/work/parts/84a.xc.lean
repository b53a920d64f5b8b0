def TH (ad : Nat → Nat) (c : Int32) (w : zW) : Prop := ∃ fs : List Value, w (ad 52) = some (.inr (12, .int c :: fs))
def IVo (g : zG) (ad : Nat → Nat) (v : Int64) (t : zTT) (u : zNN) (w : zW) : Prop := ∃ s, (s 69).2.1 0 = v ∧ IV g ad (mg t s) u w
theorem IVo.of {g : zG} {ad : Nat → Nat} {v : Int64} {t T : zTT} {u : zNN} {w : zW} (h : IV g ad T u w) (h1 : ∀ i, ¬ tx i → T.1 i = t.1 i) (h2 : T.2 = t.2) (h3 : (T.1 69).2.1 0 = v) : IVo g ad v t u w := ⟨T.1, h3, by rw [mg_self t T h1 h2]; exact h⟩
theorem IVo.m {g : zG} {ad : Nat → Nat} {v : Int64} {t : zTT} {u : zNN} {w : zW} (h : IVo g ad v t u w) : IVm g ad t u w := by
  obtain ⟨s, -, h⟩ := h
  exact ⟨s, h⟩
theorem IVo.nil {g : zG} {ad : Nat → Nat} {v : Int64} {t : zTT} {u : zNN} {w w1 : zW} (h1 : z_I w w1 0 []) (hI : IVo g ad v t u w) : IVo g ad v t u w1 := (z_I.same (z_I.nil w) h1).symm ▸ hI
theorem IVo.zu {g : zG} {ad : Nat → Nat} {v : Int64} {t : zTT} {s : Nat → zP2} {V : Nat → Nat → zV} {l : List (Nat × zP2)} {u : zNN} {w : zW} (h : IV g ad (zup (mg t s).1 l, V) u w) (h3 : (zup (mg t s).1 l 69).2.1 0 = v) : IVo g ad v (zup t.1 l, V) u w := IVo.of h (fun i hi => zup_cg (P := fun i => ¬ tx i) (fun i hi => if_neg hi) l i hi) rfl h3
theorem IVo.tz {g : zG} {ad : Nat → Nat} {v : Int64} {t : zTT} {s : Nat → zP2} {l : List (Nat × zP2)} {u : zNN} {w : zW} (h : IV g ad (zup (mg t s).1 l, (mg t s).2) u w) (hl : ∀ i ∈ l.map Prod.fst, tx i) (h3 : (zup (mg t s).1 l 69).2.1 0 = v) : IVo g ad v t u w := IVo.of h (fun i hi => (zup_out (fun q => hi (hl i q))).trans (if_neg hi)) rfl h3
def zxA (Es : List String) (p : Int32 × Int32) (o : zO) : Prop := (p.1 = 0 ∧ o = .inl (some (.int p.2))) ∨ ∃ (k : Nat) (E : String), Es[k]? = some E ∧ p.1 = nI (k + 1) ∧ o = .inr E
theorem zxA.V {Es : List String} {p : Int32 × Int32} {v : Option Value} (h : zxA Es p (.inl v)) : ∃ x : Int32, v = some (.int x) ∧ p.1 = 0 ∧ p.2 = x := by
  rcases h with ⟨h1, h2⟩ | ⟨k, E, -, -, h2⟩
  · cases h2; exact ⟨_, rfl, h1, rfl⟩
  · cases h2
theorem zxA.X {Es : List String} {p : Int32 × Int32} {E : String} (h : zxA Es p (.inr E)) : ∃ k : Nat, Es[k]? = some E ∧ p.1 = nI (k + 1) := by
  rcases h with ⟨h1, h2⟩ | ⟨k, E2, h3, h4, h2⟩
  · cases h2
  · cases h2; exact ⟨k, h3, h4⟩
noncomputable def vK_Ip_pool (ad : Nat → Nat) (k : Int32) (t : zTT) : Int32 × Int32 := (if k = 103 then (0, ((t.1 45).1 0)) else (if k = 100 then (0, ((t.1 47).1 0)) else (1, 0)))
theorem KE_Ip_pool {g : zG} {ad : Nat → Nat} {t : zTT} {u : zNN} {w : zW} (hI : IVm g ad t u w) (k : Int32) : zMB g M_Ip_pool [.ref (ad 0), .int k] w (fun o w1 => zxA ["java/lang/IllegalArgumentException"] (vK_Ip_pool ad k t) o ∧ ∃ u2 : zNN, u2.1 = u.1 ∧ IVm g ad t u2 w1) 10 300 := by
  obtain ⟨s, hI⟩ := hI
  by_cases h1 : k = 103
  · subst h1
    have eV : (vK_Ip_pool ad 103 t) = (0, ((t.1 45).1 0)) := by unfold vK_Ip_pool; rw [if_pos (rfl : (103 : Int32) = 103)]
    rw [eV]
    exact (Qx_Ip_pool103 hI).mono (by decide) (by decide) (fun o w1 h => ⟨Or.inl ⟨rfl, h.1⟩, u, rfl, ⟨_, h.2⟩⟩)
  · by_cases h2 : k = 100
    · subst h2
      have eV : (vK_Ip_pool ad 100 t) = (0, ((t.1 47).1 0)) := by unfold vK_Ip_pool; rw [if_neg h1, if_pos (rfl : (100 : Int32) = 100)]
      rw [eV]
      exact (Qx_Ip_pool100 hI).mono (by decide) (by decide) (fun o w1 h => ⟨Or.inl ⟨rfl, h.1⟩, u, rfl, ⟨_, h.2⟩⟩)
    · have eV : (vK_Ip_pool ad k t) = (1, 0) := by unfold vK_Ip_pool; rw [if_neg h1, if_neg h2]
      rw [eV]
      exact (Qx_Ip_poolE hI k h1 h2).mono (by decide) (by decide) (fun o w1 h => ⟨Or.inr ⟨0, _, rfl, rfl, h.1⟩, u, rfl, ⟨_, h.2⟩⟩)
set_option maxHeartbeats 4000000 in
theorem Qt_Mm_pool103 {g : zG} {ad : Nat → Nat} {t : zTT} {u : zNN} {w : zW} (hI : IV g ad t u w) : zMB g M_Mm_pool [.ref (ad 52), .int 103] w (fun o w1 => o = .inl (some (.int (((t.1 63).1) 2))) ∧ IV g ad t u w1 ∧ TH ad 0 w1) 0 0 := by
  obtain ⟨e_m, w_m, k_m⟩ := hI.1.2 52 (by decide)
  obtain ⟨v_m_th, rfl⟩ := kd_52.mp k_m
  obtain ⟨e_mi, w_mi, k_mi⟩ := hI.1.2 63 (by decide)
  obtain rfl := kd_63.mp k_mi
  refine ((C_Mm_pool103 g (ad 52) (ad 53) (ad 54) (ad 55) (ad 56) (ad 57) (ad 58) (ad 59) (ad 60) (ad 61) (ad 62) (ad 63) (ad 64) (ad 65) (ad 66) (ad 67) (ad 68) v_m_th (nI ((t.1 52).2.2 0)) ((t.1 52).1 0) ((t.1 52).1 1) ((t.1 52).1 2) ((t.1 52).1 3) ((t.1 52).1 4) ((t.1 52).1 5) ((t.1 52).1 6) ((t.1 52).1 7) ((t.1 52).1 8) ((t.1 52).1 9) ((t.1 52).1 10) ((t.1 52).2.1 0) ((t.1 52).2.1 1) ((t.1 63).1)).at (hI.1.I [52, 63] _ rfl (by decide) (by decide) (List.forall_mem_cons.mpr ⟨w_m, (List.forall_mem_cons.mpr ⟨w_mi, (fun _ h => nomatch h)⟩)⟩))).mono (Nat.le_of_ble_eq_true rfl) (Nat.le_of_ble_eq_true rfl) (fun o w1 hp => ?_)
  obtain ⟨cs1, hp, hi9⟩ := hp
  obtain ⟨e1, e2⟩ := hp
  subst e1; subst e2
  exact ⟨rfl, hI.fix (t2 := t) (is := [52, 63]) hi9 rfl ⟨kd_52.mpr ⟨_, rfl⟩, kd_63.mpr rfl, trivial⟩ (by decide) (by decide) (fun _ _ _ => rfl) (fun h => h) rfl, ⟨_, hi9.at (q0 := 0) rfl⟩⟩
set_option maxHeartbeats 4000000 in
theorem Qt_Mm_pool100 {g : zG} {ad : Nat → Nat} {t : zTT} {u : zNN} {w : zW} (hI : IV g ad t u w) : zMB g M_Mm_pool [.ref (ad 52), .int 100] w (fun o w1 => o = .inl (some (.int (((t.1 63).1) 3))) ∧ IV g ad t u w1 ∧ TH ad 0 w1) 0 0 := by
  obtain ⟨e_m, w_m, k_m⟩ := hI.1.2 52 (by decide)
  obtain ⟨v_m_th, rfl⟩ := kd_52.mp k_m
  obtain ⟨e_mi, w_mi, k_mi⟩ := hI.1.2 63 (by decide)
  obtain rfl := kd_63.mp k_mi
  refine ((C_Mm_pool100 g (ad 52) (ad 53) (ad 54) (ad 55) (ad 56) (ad 57) (ad 58) (ad 59) (ad 60) (ad 61) (ad 62) (ad 63) (ad 64) (ad 65) (ad 66) (ad 67) (ad 68) v_m_th (nI ((t.1 52).2.2 0)) ((t.1 52).1 0) ((t.1 52).1 1) ((t.1 52).1 2) ((t.1 52).1 3) ((t.1 52).1 4) ((t.1 52).1 5) ((t.1 52).1 6) ((t.1 52).1 7) ((t.1 52).1 8) ((t.1 52).1 9) ((t.1 52).1 10) ((t.1 52).2.1 0) ((t.1 52).2.1 1) ((t.1 63).1)).at (hI.1.I [52, 63] _ rfl (by decide) (by decide) (List.forall_mem_cons.mpr ⟨w_m, (List.forall_mem_cons.mpr ⟨w_mi, (fun _ h => nomatch h)⟩)⟩))).mono (Nat.le_of_ble_eq_true rfl) (Nat.le_of_ble_eq_true rfl) (fun o w1 hp => ?_)
  obtain ⟨cs1, hp, hi9⟩ := hp
  obtain ⟨e1, e2⟩ := hp
  subst e1; subst e2
  exact ⟨rfl, hI.fix (t2 := t) (is := [52, 63]) hi9 rfl ⟨kd_52.mpr ⟨_, rfl⟩, kd_63.mpr rfl, trivial⟩ (by decide) (by decide) (fun _ _ _ => rfl) (fun h => h) rfl, ⟨_, hi9.at (q0 := 0) rfl⟩⟩
set_option maxHeartbeats 4000000 in
theorem Qt_Mm_poolE {g : zG} {ad : Nat → Nat} {t : zTT} {u : zNN} {w : zW} (hI : IV g ad t u w) (k : Int32) (h1 : ¬ k = 103) (h2 : ¬ k = 100) : zMB g M_Mm_pool [.ref (ad 52), .int k] w (fun o w1 => o = .inl (some (.int 0)) ∧ IV g ad t u w1 ∧ TH ad 1 w1) 0 0 := by
  obtain ⟨e_m, w_m, k_m⟩ := hI.1.2 52 (by decide)
  obtain ⟨v_m_th, rfl⟩ := kd_52.mp k_m
  refine ((C_Mm_poolE g (ad 52) (ad 53) (ad 54) (ad 55) (ad 56) (ad 57) (ad 58) (ad 59) (ad 60) (ad 61) (ad 62) (ad 63) (ad 64) (ad 65) (ad 66) (ad 67) (ad 68) v_m_th (nI ((t.1 52).2.2 0)) ((t.1 52).1 0) ((t.1 52).1 1) ((t.1 52).1 2) ((t.1 52).1 3) ((t.1 52).1 4) ((t.1 52).1 5) ((t.1 52).1 6) ((t.1 52).1 7) ((t.1 52).1 8) ((t.1 52).1 9) ((t.1 52).1 10) ((t.1 52).2.1 0) ((t.1 52).2.1 1) k h1 h2).at (hI.1.I [52] _ rfl (by decide) (by decide) (List.forall_mem_cons.mpr ⟨w_m, (fun _ h => nomatch h)⟩))).mono (Nat.le_of_ble_eq_true rfl) (Nat.le_of_ble_eq_true rfl) (fun o w1 hp => ?_)
  obtain ⟨cs1, hp, hi9⟩ := hp
  obtain ⟨e1, e2⟩ := hp
  subst e1; subst e2
  exact ⟨rfl, hI.fix (t2 := t) (is := [52]) hi9 rfl ⟨kd_52.mpr ⟨_, rfl⟩, trivial⟩ (by decide) (by decide) (fun _ _ _ => rfl) (fun h => h) rfl, ⟨_, hi9.at (q0 := 0) rfl⟩⟩
noncomputable def vK_Mm_pool (ad : Nat → Nat) (k : Int32) (t : zTT) : Int32 × Int32 := (if k = 103 then (0, (((t.1 63).1) 2)) else (if k = 100 then (0, (((t.1 63).1) 3)) else (1, 0)))
theorem KE_Mm_pool {g : zG} {ad : Nat → Nat} {t : zTT} {u : zNN} {w : zW} {vo : Int64} (hI : IVo g ad vo t u w) (k : Int32) : zMB g M_Mm_pool [.ref (ad 52), .int k] w (fun o w1 => o = .inl (some (.int (vK_Mm_pool ad k t).2)) ∧ TH ad (vK_Mm_pool ad k t).1 w1 ∧ ∃ u2 : zNN, u2.1 = u.1 ∧ IVo g ad vo t u2 w1) 10 300 := by
  obtain ⟨s, hv, hI⟩ := hI
  by_cases h1 : k = 103
  · subst h1
    have eV : (vK_Mm_pool ad 103 t) = (0, (((t.1 63).1) 2)) := by unfold vK_Mm_pool; rw [if_pos (rfl : (103 : Int32) = 103)]
    rw [eV]
    exact (Qt_Mm_pool103 hI).mono (by decide) (by decide) (fun o w1 h => ⟨h.1, h.2.2, u, rfl, ⟨s, hv, h.2.1⟩⟩)
  · by_cases h2 : k = 100
    · subst h2
      have eV : (vK_Mm_pool ad 100 t) = (0, (((t.1 63).1) 3)) := by unfold vK_Mm_pool; rw [if_neg h1, if_pos (rfl : (100 : Int32) = 100)]
      rw [eV]
      exact (Qt_Mm_pool100 hI).mono (by decide) (by decide) (fun o w1 h => ⟨h.1, h.2.2, u, rfl, ⟨s, hv, h.2.1⟩⟩)
    · have eV : (vK_Mm_pool ad k t) = (1, 0) := by unfold vK_Mm_pool; rw [if_neg h1, if_neg h2]
      rw [eV]
      exact (Qt_Mm_poolE hI k h1 h2).mono (by decide) (by decide) (fun o w1 h => ⟨h.1, h.2.2, u, rfl, ⟨s, hv, h.2.1⟩⟩)
theorem V_pool {ad : Nat → Nat} {t : zTT} {n : Nat → Nat} {b : Nat} (k : Int32) (h : REL t n b) : (vK_Ip_pool ad k t).1 = (vK_Mm_pool ad k t).1 ∧ ((vK_Ip_pool ad k t).1 = 0 → (vK_Ip_pool ad k t).2 = (vK_Mm_pool ad k t).2) := by
  unfold vK_Ip_pool vK_Mm_pool
  rw [← h.ir.1.2.2.1, ← h.ir.1.2.2.2]
  exact ⟨rfl, fun _ => rfl⟩
