theorem IVo.th {g : zG} {ad : Nat → Nat} {v : Int64} {t : zTT} {u : zNN} {w : zW} {c : Int32} (hI : IVo g ad v t u w) (hT : TH ad c w) : zMB g M_Mm_thrown [.ref (ad 52)] w (fun o w1 => o = .inl (some (.int c)) ∧ w1 = w) 0 0 := by
  obtain ⟨s, -, hI⟩ := hI
  obtain ⟨fs, hT⟩ := hT
  obtain ⟨e_m, wf_m, k_m⟩ := hI.1.2 52 (by decide)
  obtain ⟨v_m_th, rfl⟩ := kd_52.mp k_m
  rw [wf_m] at hT
  cases hT
  have hJ := hI.1.I [52] [((ad 52), .inr (12, [.int c, .ref (ad 53), .int (nI (((mg t s).1 52).2.2 0)), .ref (ad 54), .ref (ad 55), .ref (ad 56), .ref (ad 57), .ref (ad 58), .ref (ad 59), .ref (ad 60), .ref (ad 61), .int (((mg t s).1 52).1 0), .int (((mg t s).1 52).1 1), .int (((mg t s).1 52).1 2), .int (((mg t s).1 52).1 3), .int (((mg t s).1 52).1 4), .int (((mg t s).1 52).1 5), .ref (ad 62), .ref (ad 63), .ref (ad 64), .int (((mg t s).1 52).1 6), .int (((mg t s).1 52).1 7), .int (((mg t s).1 52).1 8), .int (((mg t s).1 52).1 9), .int (((mg t s).1 52).1 10), .ref (ad 65), .ref (ad 66), .ref (ad 67), .ref (ad 68), .long (((mg t s).1 52).2.1 0), .long (((mg t s).1 52).2.1 1)]))] rfl (by decide) (by decide) (List.forall_mem_cons.mpr ⟨wf_m, (fun _ h => nomatch h)⟩)
  refine ((C_Mm_thrown g _ _ _ _ _ _ _ _ _ _ _ _ _ _ _ _ _ _ _ _ _ _ _ _ _ _ _ _ _ _ _ _).at hJ).mono (Nat.le_refl _) (Nat.le_refl _) (fun o w1 hp => ?_)
  obtain ⟨cs1, hp, hi9⟩ := hp
  obtain ⟨e1, e2⟩ := hp
  subst e2
  exact ⟨e1, z_I.same hJ hi9⟩
theorem TH.nil {ad : Nat → Nat} {c : Int32} {w w1 : zW} (h1 : z_I w w1 0 []) (hT : TH ad c w) : TH ad c w1 := (z_I.same (z_I.nil w) h1).symm ▸ hT
