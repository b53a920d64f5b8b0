theorem R_pour {t : zTT} {n n1 n2 : Nat → Nat} {b : Nat} {X9 : zTr} {S9 : zSC} (hx : ¬ n 3 = 0 → ¬ fa_cnt (fun k => decide ((t.2 3 0).2.1 k = 103)) 12 = 0 ∧ (t.2 4 0).2.2.2 0 < 9) (h : REL t n b) (e1 : n1 = nK_Ip_pour t n) (e2 : n2 = nK_Mm_pour (tK_Ip_pour X9 t n) n1) : REL (tK_Mm_pour S9 (tK_Ip_pour X9 t n) n1) n2 b := by
  subst e1
  rw [e2]
  have m0 := h.mo.1
  have m4 := h.mo.2.1
  have c5 := h.ca.1
  have c6 := h.ca.2.1
  unfold tK_Ip_pour nK_Ip_pour
  by_cases h0 : ¬ n 0 = 0
  · have h0' : ¬ n 3 = 0 := by omega
    rw [if_pos h0, if_pos h0]
    by_cases h12 : ¬ (t.1 43).1 0 = 0 ∧ 1250 ≤ (t.1 42).1 0
    · have ei : (t.1 43).1 0 = (t.1 63).1 1 := h.ir.1.2.1
      have hi : ¬ (t.1 63).1 1 = 0 := by rw [← ei]; exact h12.1
      have l := h.la.2 hi
      have h12' : ¬ (t.1 63).1 1 = 0 ∧ 1250 ≤ (t.1 52).1 6 := ⟨hi, by rw [← l.1]; exact h12.2⟩
      rw [if_pos h12, if_pos h12]
      by_cases h3 : n 1 < 30
      · have h3' : ¬ n 5 = 30 := by omega
        rw [if_pos h3, if_pos h3]
        unfold tK_Mm_pour nK_Mm_pour
        refine Eq.mpr (congrArg (fun z => REL z _ _) ((if_pos h0').trans ((if_pos h12').trans (if_pos h3')))) ?_
        refine Eq.mpr (congrArg (fun z => REL _ z _) ((if_pos h0').trans ((if_pos h12').trans (if_pos h3')))) ?_
        obtain ⟨g1, g2⟩ := hx h0'
        obtain ⟨k1, k2, k3⟩ := po_cast (X := X9) (S := S9) h h0 g1 g2 hi h12.2
        have hgr := pg_rel (tk := ptk t) (al := (t.1 63).1 1) h.ir.2.2.1 4 (Nat.le_refl _)
        refine ⟨h.pa, h.pt, h.sa, ⟨h.co.1, h.co.2.1, h.co.2.2⟩, ?_, ⟨?_, fun _ => l⟩, h.re, ⟨?_, ?_, fun i hi => ?_⟩, ⟨?_, ?_, fun i hi => ?_⟩, h.fb, ⟨h.sz.1, ?_, ?_⟩, h.pz⟩
        · show RELI ((t.1 37).1 0) ((t.1 43).1 0 - amI t (t.2 0 0)) ((t.1 45).1 0) ((t.1 47).1 0) (t.1 38).2.1 (mvS (t.1 44).2.1 (amI t (t.2 0 0)) ((t.1 43).1 0) 4) (t.1 46).2.1 (t.1 48).2.1 (upd (t.1 63).1 1 ((t.1 63).1 1 - ptk t)) (pgM (t.1 64).2.1 (ptk t) ((t.1 63).1 1) 4).1
          rw [k2, ei]
          refine ⟨⟨?_, ?_, ?_, ?_⟩, fun e he => ?_, fun e he => ?_, fun e he => ?_, fun e he => ?_⟩
          · rw [upd_ne (by decide)]; exact h.ir.1.1
          · rw [upd_eq]
          · rw [upd_ne (by decide)]; exact h.ir.1.2.2.1
          · rw [upd_ne (by decide)]; exact h.ir.1.2.2.2
          · rw [hgr.2.2.2 0 (by decide) e he]; exact h.ir.2.1 e he
          · exact hgr.1 e he
          · rw [hgr.2.2.2 2 (by decide) e he]; exact h.ir.2.2.2.1 e he
          · rw [hgr.2.2.2 3 (by decide) e he]; exact h.ir.2.2.2.2 e he
        · show 0 ≤ ((t.1 63).1 1 - ptk t).toInt
          exact k3
        · show n 0 - 1 = n 3 - 1
          rw [m0]
        · show n 4 - 1 = n 3 - 1
          rw [m4]
        · have hi : i < n 0 - 1 := hi
          show RELm (z_dlV (t.2 0) 0 i) (z_dlV (t.2 3) 0 i) (z_dlV (t.2 4) 0 i)
          have ez : ∀ V : Nat → zV, z_dlV V 0 i = V (i + 1) := fun V => if_neg (Nat.not_lt_zero i)
          rw [ez, ez, ez]
          exact h.mo.2.2 (i + 1) (by omega)
        · show n 1 + 1 = n 5 + 1
          rw [c5]
        · show n 6 + 1 = n 5 + 1
          rw [c6]
        · have hi : i < n 1 + 1 := hi
          show RELc (if i = n 1 then caV t (t.2 0 0) X9 (caF t (t.2 0 0) X9) else t.2 1 i) (if i = n 5 then pcv9 t (pShS t S9) (pFbS t S9) else t.2 5 i) (if i = n 6 then pgv9 t else t.2 6 i)
          rw [c6, ← c5]
          by_cases q : i = n 1
          · rw [if_pos q, if_pos q, if_pos q]
            exact k1
          · rw [if_neg q, if_neg q, if_neg q]
            exact h.ca.2.2 i (by omega)
        · show n 0 - 1 ≤ 10
          have := h.sz.2.1
          omega
        · show n 1 + 1 ≤ 30
          omega
      · have h3' : ¬ ¬ n 5 = 30 := fun z => z (by have := h.sz.2.2; omega)
        rw [if_neg h3, if_neg h3]
        unfold tK_Mm_pour nK_Mm_pour
        refine Eq.mpr (congrArg (fun z => REL z _ _) ((if_pos h0').trans ((if_pos h12').trans (if_neg h3')))) ?_
        refine Eq.mpr (congrArg (fun z => REL _ z _) ((if_pos h0').trans ((if_pos h12').trans (if_neg h3')))) ?_
        exact h
    · have h12' : ¬ (¬ (t.1 63).1 1 = 0 ∧ 1250 ≤ (t.1 52).1 6) := fun q => h12 ⟨by rw [h.ir.1.2.1]; exact q.1, by rw [(h.la.2 q.1).1]; exact q.2⟩
      rw [if_neg h12, if_neg h12]
      unfold tK_Mm_pour nK_Mm_pour
      refine Eq.mpr (congrArg (fun z => REL z _ _) ((if_pos h0').trans (if_neg h12'))) ?_
      refine Eq.mpr (congrArg (fun z => REL _ z _) ((if_pos h0').trans (if_neg h12'))) ?_
      exact h
  · have h0' : ¬ ¬ n 3 = 0 := by omega
    rw [if_neg h0, if_neg h0]
    unfold tK_Mm_pour nK_Mm_pour
    refine Eq.mpr (congrArg (fun z => REL z _ _) (if_neg h0')) ?_
    refine Eq.mpr (congrArg (fun z => REL _ z _) (if_neg h0')) ?_
    exact h
theorem IVm.px {g : zG} {ad : Nat → Nat} {t : zTT} {u : zNN} {w : zW} (hI : IVm g ad t u w) (h : ¬ u.1 3 = 0) : ¬ fa_cnt (fun k => decide ((t.2 3 0).2.1 k = 103)) 12 = 0 ∧ (t.2 4 0).2.2.2 0 < 9 := by
  obtain ⟨s, hI⟩ := hI
  have h4 : u.1 4 = u.1 3 := hI.sz.2.2.2.2.1
  obtain ⟨-, -, -, a⟩ := hI.2.1.2.1 3 (by decide) 0 (by omega)
  obtain ⟨-, -, -, -, b⟩ := hI.2.1.2.1 4 (by decide) 0 (by omega)
  exact ⟨a, b⟩

