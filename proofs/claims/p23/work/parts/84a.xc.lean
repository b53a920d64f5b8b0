def TH (ad : Nat → Nat) (c : Int32) (w : zW) : Prop := ∃ fs : List Value, w (ad 52) = some (.inr (12, .int c :: fs))
def IVo (g : zG) (ad : Nat → Nat) (v : Int64) (t : zTT) (u : zNN) (w : zW) : Prop := ∃ s, (s 69).2.1 0 = v ∧ IV g ad (mg t s) u w
theorem IVo.of {g : zG} {ad : Nat → Nat} {v : Int64} {t T : zTT} {u : zNN} {w : zW} (h : IV g ad T u w) (h1 : ∀ i, ¬ tx i → T.1 i = t.1 i) (h2 : T.2 = t.2) (h3 : (T.1 69).2.1 0 = v) : IVo g ad v t u w := ⟨T.1, h3, by rw [mg_self t T h1 h2]; exact h⟩
theorem IVo.m {g : zG} {ad : Nat → Nat} {v : Int64} {t : zTT} {u : zNN} {w : zW} (h : IVo g ad v t u w) : IVm g ad t u w := by
  obtain ⟨s, -, h⟩ := h
  exact ⟨s, h⟩
theorem IVo.nil {g : zG} {ad : Nat → Nat} {v : Int64} {t : zTT} {u : zNN} {w w1 : zW} (h1 : z_I w w1 0 []) (hI : IVo g ad v t u w) : IVo g ad v t u w1 := (z_I.same (z_I.nil w) h1).symm ▸ hI
theorem IVo.zu {g : zG} {ad : Nat → Nat} {v : Int64} {t : zTT} {s : Nat → zP2} {V : Nat → Nat → zV} {l : List (Nat × zP2)} {u : zNN} {w : zW} (h : IV g ad (zup (mg t s).1 l, V) u w) (h3 : (zup (mg t s).1 l 69).2.1 0 = v) : IVo g ad v (zup t.1 l, V) u w := IVo.of h (fun i hi => zup_cg (P := fun i => ¬ tx i) (fun i hi => if_neg hi) l i hi) rfl h3
theorem IVo.tz {g : zG} {ad : Nat → Nat} {v : Int64} {t : zTT} {s : Nat → zP2} {l : List (Nat × zP2)} {u : zNN} {w : zW} (h : IV g ad (zup (mg t s).1 l, (mg t s).2) u w) (hl : ∀ i ∈ l.map Prod.fst, tx i) (h3 : (zup (mg t s).1 l 69).2.1 0 = v) : IVo g ad v t u w := IVo.of h (fun i hi => (zup_out (fun q => hi (hl i q))).trans (if_neg hi)) rfl h3
def zxA (Es : List String) (p : Int32 × Int32) (o : zO) : Prop := (p.1 = 0 ∧ o = .inl (some (.int p.2))) ∨ ∃ (k : Nat) (E : String), Es[k]? = some E ∧ p.1 = nI (k + 1) ∧ o = .inr E
theorem zxA.V {Es : List String} {p : Int32 × Int32} {v : Option Value} (h : zxA Es p (.inl v)) : ∃ x : Int32, v = some (.int x) ∧ p.1 = 0 ∧ p.2 = x := by
  rcases h with ⟨h1, h2⟩ | ⟨k, E, -, -, h2⟩
  · cases h2; exact ⟨_, rfl, h1, rfl⟩
  · cases h2
theorem zxA.X {Es : List String} {p : Int32 × Int32} {E : String} (h : zxA Es p (.inr E)) : ∃ k : Nat, Es[k]? = some E ∧ p.1 = nI (k + 1) := by
  rcases h with ⟨h1, h2⟩ | ⟨k, E2, h3, h4, h2⟩
  · cases h2
  · cases h2; exact ⟨k, h3, h4⟩
noncomputable def vK_Ip_charge (ad : Nat → Nat) (k m : Int32) (t : zTT) : Int32 × Int32 := (if 0 ≤ z_ix 1 k ∧ (1 ≤ m ∧ m ≤ 1000) then (if k = 112 then (if 3000 < (t.1 37).1 0 + m then (3, 0) else (0, (((t.1 37).1 0) + m))) else (if k = 115 then (if 3000 < (t.1 37).1 0 + m then (3, 0) else (0, (((t.1 37).1 0) + m))) else (if k = 102 then (if 3000 < (t.1 37).1 0 + m then (3, 0) else (0, (((t.1 37).1 0) + m))) else (if k = 107 then (if 3000 < (t.1 37).1 0 + 0 then (3, 0) else (0, (((t.1 37).1 0) + 0))) else (if k = 103 then (if (t.1 45).1 0 < m then (2, 0) else (if 3000 < (t.1 37).1 0 + m then (3, 0) else (0, (((t.1 37).1 0) + m)))) else (if (t.1 47).1 0 < m then (2, 0) else (if 3000 < (t.1 37).1 0 + m then (3, 0) else (0, (((t.1 37).1 0) + m))))))))) else (1, 0))
theorem KE_Ip_charge {g : zG} {ad : Nat → Nat} {t : zTT} {u : zNN} {w : zW} (hI : IVm g ad t u w) (k m : Int32) : zMB g M_Ip_charge [.ref (ad 0), .int k, .int m] w (fun o w1 => zxA ["java/lang/IllegalArgumentException", "java/lang/UnsupportedOperationException", "java/lang/IllegalStateException"] (vK_Ip_charge ad k m t) o ∧ ∃ u2 : zNN, u2.1 = u.1 ∧ IVm g ad (tK_Ip_charge k m t) u2 w1) 10 300 := by
  obtain ⟨s, hI⟩ := hI
  by_cases hw : 0 ≤ z_ix 1 k ∧ (1 ≤ m ∧ m ≤ 1000)
  · rcases z_ix1 hw.1 with rfl | rfl | rfl | rfl | rfl | rfl
    · by_cases hg : 3000 < (t.1 37).1 0 + m
      · have eT : (tK_Ip_charge 112 m t) = t := by unfold tK_Ip_charge; rw [if_pos hw, if_pos (rfl : (112 : Int32) = 112), if_pos hg]
        have eV : (vK_Ip_charge ad 112 m t) = (3, 0) := by unfold vK_Ip_charge; rw [if_pos hw, if_pos (rfl : (112 : Int32) = 112), if_pos hg]
        rw [eT, eV]
        exact (Qx_Ip_charge112G hI m hw.2 hg).mono (by decide) (by decide) (fun o w1 h => ⟨Or.inr ⟨2, _, rfl, rfl, h.1⟩, u, rfl, ⟨_, h.2⟩⟩)
      · have eT : (tK_Ip_charge 112 m t) = (zup t.1 [(36, ((t.1 36).1, (vp_updL ((t.1 36).2.1) 0 (((t.1 36).2.1 0) + (m : Int32).toInt64)), (t.1 36).2.2)), (37, ((upd ((t.1 37).1) 0 (((t.1 37).1 0) + m)), (t.1 37).2.1, (t.1 37).2.2)), (38, ((t.1 38).1, lfd ((t.1 38).2.1) (fun e => chS m 0 e / 10) 4, (t.1 38).2.2)), (39, ((t.1 39).1, lfd ((t.1 39).2.1) (fun e => chS m 0 e) 4, (t.1 39).2.2)), (40, ((t.1 40).1, lfd ((t.1 40).2.1) (fun e => chS m 0 e - chS m 0 e / 10 * 10) 4, (t.1 40).2.2))], t.2) := by unfold tK_Ip_charge; rw [if_pos hw, if_pos (rfl : (112 : Int32) = 112), if_neg hg]
        have eV : (vK_Ip_charge ad 112 m t) = (0, (((t.1 37).1 0) + m)) := by unfold vK_Ip_charge; rw [if_pos hw, if_pos (rfl : (112 : Int32) = 112), if_neg hg]
        rw [eT, eV]
        exact (Qx_Ip_charge112N hI m hw.2 hg).mono (by decide) (by decide) (fun o w1 h => ⟨Or.inl ⟨rfl, h.1⟩, u, rfl, IVm.zu h.2⟩)
    · by_cases hg : 3000 < (t.1 37).1 0 + m
      · have eT : (tK_Ip_charge 115 m t) = t := by unfold tK_Ip_charge; rw [if_pos hw, if_neg (show ¬ ((115 : Int32) = 112) by decide), if_pos (rfl : (115 : Int32) = 115), if_pos hg]
        have eV : (vK_Ip_charge ad 115 m t) = (3, 0) := by unfold vK_Ip_charge; rw [if_pos hw, if_neg (show ¬ ((115 : Int32) = 112) by decide), if_pos (rfl : (115 : Int32) = 115), if_pos hg]
        rw [eT, eV]
        exact (Qx_Ip_charge115G hI m hw.2 hg).mono (by decide) (by decide) (fun o w1 h => ⟨Or.inr ⟨2, _, rfl, rfl, h.1⟩, u, rfl, ⟨_, h.2⟩⟩)
      · have eT : (tK_Ip_charge 115 m t) = (zup t.1 [(36, ((t.1 36).1, (vp_updL ((t.1 36).2.1) 0 (((t.1 36).2.1 0) + (m : Int32).toInt64)), (t.1 36).2.2)), (37, ((upd ((t.1 37).1) 0 (((t.1 37).1 0) + m)), (t.1 37).2.1, (t.1 37).2.2)), (38, ((t.1 38).1, lfd ((t.1 38).2.1) (fun e => chS m 1 e / 10) 4, (t.1 38).2.2)), (39, ((t.1 39).1, lfd ((t.1 39).2.1) (fun e => chS m 1 e) 4, (t.1 39).2.2)), (40, ((t.1 40).1, lfd ((t.1 40).2.1) (fun e => chS m 1 e - chS m 1 e / 10 * 10) 4, (t.1 40).2.2))], t.2) := by unfold tK_Ip_charge; rw [if_pos hw, if_neg (show ¬ ((115 : Int32) = 112) by decide), if_pos (rfl : (115 : Int32) = 115), if_neg hg]
        have eV : (vK_Ip_charge ad 115 m t) = (0, (((t.1 37).1 0) + m)) := by unfold vK_Ip_charge; rw [if_pos hw, if_neg (show ¬ ((115 : Int32) = 112) by decide), if_pos (rfl : (115 : Int32) = 115), if_neg hg]
        rw [eT, eV]
        exact (Qx_Ip_charge115N hI m hw.2 hg).mono (by decide) (by decide) (fun o w1 h => ⟨Or.inl ⟨rfl, h.1⟩, u, rfl, IVm.zu h.2⟩)
    · by_cases hg : 3000 < (t.1 37).1 0 + m
      · have eT : (tK_Ip_charge 102 m t) = t := by unfold tK_Ip_charge; rw [if_pos hw, if_neg (show ¬ ((102 : Int32) = 112) by decide), if_neg (show ¬ ((102 : Int32) = 115) by decide), if_pos (rfl : (102 : Int32) = 102), if_pos hg]
        have eV : (vK_Ip_charge ad 102 m t) = (3, 0) := by unfold vK_Ip_charge; rw [if_pos hw, if_neg (show ¬ ((102 : Int32) = 112) by decide), if_neg (show ¬ ((102 : Int32) = 115) by decide), if_pos (rfl : (102 : Int32) = 102), if_pos hg]
        rw [eT, eV]
        exact (Qx_Ip_charge102G hI m hw.2 hg).mono (by decide) (by decide) (fun o w1 h => ⟨Or.inr ⟨2, _, rfl, rfl, h.1⟩, u, rfl, ⟨_, h.2⟩⟩)
      · have eT : (tK_Ip_charge 102 m t) = (zup t.1 [(36, ((t.1 36).1, (vp_updL ((t.1 36).2.1) 0 (((t.1 36).2.1 0) + (m : Int32).toInt64)), (t.1 36).2.2)), (37, ((upd ((t.1 37).1) 0 (((t.1 37).1 0) + m)), (t.1 37).2.1, (t.1 37).2.2)), (38, ((t.1 38).1, lfd ((t.1 38).2.1) (fun e => chS m 2 e / 10) 4, (t.1 38).2.2)), (39, ((t.1 39).1, lfd ((t.1 39).2.1) (fun e => chS m 2 e) 4, (t.1 39).2.2)), (40, ((t.1 40).1, lfd ((t.1 40).2.1) (fun e => chS m 2 e - chS m 2 e / 10 * 10) 4, (t.1 40).2.2))], t.2) := by unfold tK_Ip_charge; rw [if_pos hw, if_neg (show ¬ ((102 : Int32) = 112) by decide), if_neg (show ¬ ((102 : Int32) = 115) by decide), if_pos (rfl : (102 : Int32) = 102), if_neg hg]
        have eV : (vK_Ip_charge ad 102 m t) = (0, (((t.1 37).1 0) + m)) := by unfold vK_Ip_charge; rw [if_pos hw, if_neg (show ¬ ((102 : Int32) = 112) by decide), if_neg (show ¬ ((102 : Int32) = 115) by decide), if_pos (rfl : (102 : Int32) = 102), if_neg hg]
        rw [eT, eV]
        exact (Qx_Ip_charge102N hI m hw.2 hg).mono (by decide) (by decide) (fun o w1 h => ⟨Or.inl ⟨rfl, h.1⟩, u, rfl, IVm.zu h.2⟩)
    · by_cases hg : 3000 < (t.1 37).1 0 + 0
      · have eT : (tK_Ip_charge 107 m t) = t := by unfold tK_Ip_charge; rw [if_pos hw, if_neg (show ¬ ((107 : Int32) = 112) by decide), if_neg (show ¬ ((107 : Int32) = 115) by decide), if_neg (show ¬ ((107 : Int32) = 102) by decide), if_pos (rfl : (107 : Int32) = 107), if_pos hg]
        have eV : (vK_Ip_charge ad 107 m t) = (3, 0) := by unfold vK_Ip_charge; rw [if_pos hw, if_neg (show ¬ ((107 : Int32) = 112) by decide), if_neg (show ¬ ((107 : Int32) = 115) by decide), if_neg (show ¬ ((107 : Int32) = 102) by decide), if_pos (rfl : (107 : Int32) = 107), if_pos hg]
        rw [eT, eV]
        exact (Qx_Ip_charge107G hI m hw.2 hg).mono (by decide) (by decide) (fun o w1 h => ⟨Or.inr ⟨2, _, rfl, rfl, h.1⟩, u, rfl, ⟨_, h.2⟩⟩)
      · have eT : (tK_Ip_charge 107 m t) = (zup t.1 [(36, ((t.1 36).1, (vp_updL ((t.1 36).2.1) 0 (((t.1 36).2.1 0) + (0 : Int32).toInt64)), (t.1 36).2.2)), (37, ((upd ((t.1 37).1) 0 (((t.1 37).1 0) + 0)), (t.1 37).2.1, (t.1 37).2.2)), (38, ((t.1 38).1, lfd ((t.1 38).2.1) (fun e => chS m 3 e / 10) 4, (t.1 38).2.2)), (39, ((t.1 39).1, lfd ((t.1 39).2.1) (fun e => chS m 3 e) 4, (t.1 39).2.2)), (40, ((t.1 40).1, lfd ((t.1 40).2.1) (fun e => chS m 3 e - chS m 3 e / 10 * 10) 4, (t.1 40).2.2))], t.2) := by unfold tK_Ip_charge; rw [if_pos hw, if_neg (show ¬ ((107 : Int32) = 112) by decide), if_neg (show ¬ ((107 : Int32) = 115) by decide), if_neg (show ¬ ((107 : Int32) = 102) by decide), if_pos (rfl : (107 : Int32) = 107), if_neg hg]
        have eV : (vK_Ip_charge ad 107 m t) = (0, (((t.1 37).1 0) + 0)) := by unfold vK_Ip_charge; rw [if_pos hw, if_neg (show ¬ ((107 : Int32) = 112) by decide), if_neg (show ¬ ((107 : Int32) = 115) by decide), if_neg (show ¬ ((107 : Int32) = 102) by decide), if_pos (rfl : (107 : Int32) = 107), if_neg hg]
        rw [eT, eV]
        exact (Qx_Ip_charge107N hI m hw.2 hg).mono (by decide) (by decide) (fun o w1 h => ⟨Or.inl ⟨rfl, h.1⟩, u, rfl, IVm.zu h.2⟩)
    · by_cases hf : (t.1 45).1 0 < m
      · have eT : (tK_Ip_charge 103 m t) = t := by unfold tK_Ip_charge; rw [if_pos hw, if_neg (show ¬ ((103 : Int32) = 112) by decide), if_neg (show ¬ ((103 : Int32) = 115) by decide), if_neg (show ¬ ((103 : Int32) = 102) by decide), if_neg (show ¬ ((103 : Int32) = 107) by decide), if_pos (rfl : (103 : Int32) = 103), if_pos hf]
        have eV : (vK_Ip_charge ad 103 m t) = (2, 0) := by unfold vK_Ip_charge; rw [if_pos hw, if_neg (show ¬ ((103 : Int32) = 112) by decide), if_neg (show ¬ ((103 : Int32) = 115) by decide), if_neg (show ¬ ((103 : Int32) = 102) by decide), if_neg (show ¬ ((103 : Int32) = 107) by decide), if_pos (rfl : (103 : Int32) = 103), if_pos hf]
        rw [eT, eV]
        exact (Qx_Ip_charge103F hI m hw.2 hf).mono (by decide) (by decide) (fun o w1 h => ⟨Or.inr ⟨1, _, rfl, rfl, h.1⟩, u, rfl, ⟨_, h.2⟩⟩)
      · by_cases hg : 3000 < (t.1 37).1 0 + m
        · have eT : (tK_Ip_charge 103 m t) = t := by unfold tK_Ip_charge; rw [if_pos hw, if_neg (show ¬ ((103 : Int32) = 112) by decide), if_neg (show ¬ ((103 : Int32) = 115) by decide), if_neg (show ¬ ((103 : Int32) = 102) by decide), if_neg (show ¬ ((103 : Int32) = 107) by decide), if_pos (rfl : (103 : Int32) = 103), if_neg hf, if_pos hg]
          have eV : (vK_Ip_charge ad 103 m t) = (3, 0) := by unfold vK_Ip_charge; rw [if_pos hw, if_neg (show ¬ ((103 : Int32) = 112) by decide), if_neg (show ¬ ((103 : Int32) = 115) by decide), if_neg (show ¬ ((103 : Int32) = 102) by decide), if_neg (show ¬ ((103 : Int32) = 107) by decide), if_pos (rfl : (103 : Int32) = 103), if_neg hf, if_pos hg]
          rw [eT, eV]
          exact (Qx_Ip_charge103G hI m hw.2 hf hg).mono (by decide) (by decide) (fun o w1 h => ⟨Or.inr ⟨2, _, rfl, rfl, h.1⟩, u, rfl, ⟨_, h.2⟩⟩)
        · have eT : (tK_Ip_charge 103 m t) = (zup t.1 [(37, ((upd ((t.1 37).1) 0 (((t.1 37).1 0) + m)), (t.1 37).2.1, (t.1 37).2.2)), (38, ((t.1 38).1, mvT ((t.1 46).2.1) m ((t.1 45).1 0) ((t.1 38).2.1) 4, (t.1 38).2.2)), (45, ((upd ((t.1 45).1) 0 (((t.1 45).1 0) - m)), (t.1 45).2.1, (t.1 45).2.2)), (46, ((t.1 46).1, mvS ((t.1 46).2.1) m ((t.1 45).1 0) 4, (t.1 46).2.2))], t.2) := by unfold tK_Ip_charge; rw [if_pos hw, if_neg (show ¬ ((103 : Int32) = 112) by decide), if_neg (show ¬ ((103 : Int32) = 115) by decide), if_neg (show ¬ ((103 : Int32) = 102) by decide), if_neg (show ¬ ((103 : Int32) = 107) by decide), if_pos (rfl : (103 : Int32) = 103), if_neg hf, if_neg hg]
          have eV : (vK_Ip_charge ad 103 m t) = (0, (((t.1 37).1 0) + m)) := by unfold vK_Ip_charge; rw [if_pos hw, if_neg (show ¬ ((103 : Int32) = 112) by decide), if_neg (show ¬ ((103 : Int32) = 115) by decide), if_neg (show ¬ ((103 : Int32) = 102) by decide), if_neg (show ¬ ((103 : Int32) = 107) by decide), if_pos (rfl : (103 : Int32) = 103), if_neg hf, if_neg hg]
          rw [eT, eV]
          exact (Qx_Ip_charge103N hI m hw.2 hf hg).mono (by decide) (by decide) (fun o w1 h => ⟨Or.inl ⟨rfl, h.1⟩, u, rfl, IVm.zu h.2⟩)
    · by_cases hf : (t.1 47).1 0 < m
      · have eT : (tK_Ip_charge 100 m t) = t := by unfold tK_Ip_charge; rw [if_pos hw, if_neg (show ¬ ((100 : Int32) = 112) by decide), if_neg (show ¬ ((100 : Int32) = 115) by decide), if_neg (show ¬ ((100 : Int32) = 102) by decide), if_neg (show ¬ ((100 : Int32) = 107) by decide), if_neg (show ¬ ((100 : Int32) = 103) by decide), if_pos hf]
        have eV : (vK_Ip_charge ad 100 m t) = (2, 0) := by unfold vK_Ip_charge; rw [if_pos hw, if_neg (show ¬ ((100 : Int32) = 112) by decide), if_neg (show ¬ ((100 : Int32) = 115) by decide), if_neg (show ¬ ((100 : Int32) = 102) by decide), if_neg (show ¬ ((100 : Int32) = 107) by decide), if_neg (show ¬ ((100 : Int32) = 103) by decide), if_pos hf]
        rw [eT, eV]
        exact (Qx_Ip_charge100F hI m hw.2 hf).mono (by decide) (by decide) (fun o w1 h => ⟨Or.inr ⟨1, _, rfl, rfl, h.1⟩, u, rfl, ⟨_, h.2⟩⟩)
      · by_cases hg : 3000 < (t.1 37).1 0 + m
        · have eT : (tK_Ip_charge 100 m t) = t := by unfold tK_Ip_charge; rw [if_pos hw, if_neg (show ¬ ((100 : Int32) = 112) by decide), if_neg (show ¬ ((100 : Int32) = 115) by decide), if_neg (show ¬ ((100 : Int32) = 102) by decide), if_neg (show ¬ ((100 : Int32) = 107) by decide), if_neg (show ¬ ((100 : Int32) = 103) by decide), if_neg hf, if_pos hg]
          have eV : (vK_Ip_charge ad 100 m t) = (3, 0) := by unfold vK_Ip_charge; rw [if_pos hw, if_neg (show ¬ ((100 : Int32) = 112) by decide), if_neg (show ¬ ((100 : Int32) = 115) by decide), if_neg (show ¬ ((100 : Int32) = 102) by decide), if_neg (show ¬ ((100 : Int32) = 107) by decide), if_neg (show ¬ ((100 : Int32) = 103) by decide), if_neg hf, if_pos hg]
          rw [eT, eV]
          exact (Qx_Ip_charge100G hI m hw.2 hf hg).mono (by decide) (by decide) (fun o w1 h => ⟨Or.inr ⟨2, _, rfl, rfl, h.1⟩, u, rfl, ⟨_, h.2⟩⟩)
        · have eT : (tK_Ip_charge 100 m t) = (zup t.1 [(37, ((upd ((t.1 37).1) 0 (((t.1 37).1 0) + m)), (t.1 37).2.1, (t.1 37).2.2)), (38, ((t.1 38).1, mvT ((t.1 48).2.1) m ((t.1 47).1 0) ((t.1 38).2.1) 4, (t.1 38).2.2)), (47, ((upd ((t.1 47).1) 0 (((t.1 47).1 0) - m)), (t.1 47).2.1, (t.1 47).2.2)), (48, ((t.1 48).1, mvS ((t.1 48).2.1) m ((t.1 47).1 0) 4, (t.1 48).2.2))], t.2) := by unfold tK_Ip_charge; rw [if_pos hw, if_neg (show ¬ ((100 : Int32) = 112) by decide), if_neg (show ¬ ((100 : Int32) = 115) by decide), if_neg (show ¬ ((100 : Int32) = 102) by decide), if_neg (show ¬ ((100 : Int32) = 107) by decide), if_neg (show ¬ ((100 : Int32) = 103) by decide), if_neg hf, if_neg hg]
          have eV : (vK_Ip_charge ad 100 m t) = (0, (((t.1 37).1 0) + m)) := by unfold vK_Ip_charge; rw [if_pos hw, if_neg (show ¬ ((100 : Int32) = 112) by decide), if_neg (show ¬ ((100 : Int32) = 115) by decide), if_neg (show ¬ ((100 : Int32) = 102) by decide), if_neg (show ¬ ((100 : Int32) = 107) by decide), if_neg (show ¬ ((100 : Int32) = 103) by decide), if_neg hf, if_neg hg]
          rw [eT, eV]
          exact (Qx_Ip_charge100N hI m hw.2 hf hg).mono (by decide) (by decide) (fun o w1 h => ⟨Or.inl ⟨rfl, h.1⟩, u, rfl, IVm.zu h.2⟩)
  · have eT : (tK_Ip_charge k m t) = t := by unfold tK_Ip_charge; rw [if_neg hw]
    have eV : (vK_Ip_charge ad k m t) = (1, 0) := by unfold vK_Ip_charge; rw [if_neg hw]
    rw [eT, eV]
    exact (Qx_Ip_chargeE hI m k hw).mono (by decide) (by decide) (fun o w1 h => ⟨Or.inr ⟨0, _, rfl, rfl, h.1⟩, u, rfl, ⟨_, h.2⟩⟩)
set_option maxHeartbeats 4000000 in
theorem Qt_Mm_charge112G9 {g : zG} {ad : Nat → Nat} {t : zTT} {u : zNN} {w : zW} (hI : IV g ad t u w) (h : Int32) (hw : (1 ≤ h ∧ h ≤ 1000)) (hg : 3000 < ((t.1 63).1) 0 + h) : zMB g M_Mm_charge [.ref (ad 52), .int 112, .int h] w (fun o w1 => o = .inl (some (.int 0)) ∧ IV g ad t u w1 ∧ TH ad 3 w1) 0 0 := by
  obtain ⟨e_m, w_m, k_m⟩ := hI.1.2 52 (by decide)
  obtain ⟨v_m_th, rfl⟩ := kd_52.mp k_m
  obtain ⟨e_mi, w_mi, k_mi⟩ := hI.1.2 63 (by decide)
  obtain rfl := kd_63.mp k_mi
  obtain ⟨e_mr, w_mr, k_mr⟩ := hI.1.2 64 (by decide)
  obtain rfl := kd_64.mp k_mr
  refine ((C_Mm_charge112G9 g (ad 52) (ad 53) (ad 54) (ad 55) (ad 56) (ad 57) (ad 58) (ad 59) (ad 60) (ad 61) (ad 62) (ad 63) (ad 64) (ad 65) (ad 66) (ad 67) (ad 68) v_m_th (nI ((t.1 52).2.2 0)) ((t.1 52).1 0) ((t.1 52).1 1) ((t.1 52).1 2) ((t.1 52).1 3) ((t.1 52).1 4) ((t.1 52).1 5) ((t.1 52).1 6) ((t.1 52).1 7) ((t.1 52).1 8) ((t.1 52).1 9) ((t.1 52).1 10) ((t.1 52).2.1 0) ((t.1 52).2.1 1) ((t.1 63).1) ((t.1 64).2.1) h hw hg).at (hI.1.I [52, 63, 64] _ rfl (by decide) (by decide) (List.forall_mem_cons.mpr ⟨w_m, (List.forall_mem_cons.mpr ⟨w_mi, (List.forall_mem_cons.mpr ⟨w_mr, (fun _ h => nomatch h)⟩)⟩)⟩))).mono (Nat.le_of_ble_eq_true rfl) (Nat.le_of_ble_eq_true rfl) (fun o w1 hp => ?_)
  obtain ⟨cs1, hp, hi9⟩ := hp
  obtain ⟨e1, e2⟩ := hp
  subst e1; subst e2
  exact ⟨rfl, hI.fix (t2 := t) (is := [52, 63, 64]) hi9 rfl ⟨kd_52.mpr ⟨_, rfl⟩, kd_63.mpr rfl, kd_64.mpr rfl, trivial⟩ (by decide) (by decide) (fun _ _ _ => rfl) (fun h => h) rfl, ⟨_, hi9.at (q0 := 0) rfl⟩⟩
set_option maxHeartbeats 4000000 in
theorem Qt_Mm_charge112N {g : zG} {ad : Nat → Nat} {t : zTT} {u : zNN} {w : zW} (hI : IV g ad t u w) (m1 : Int32) (hw : (1 ≤ m1 ∧ m1 ≤ 1000)) (hg3 : ¬ 3000 < ((t.1 63).1) 0 + m1) : zMB g M_Mm_charge [.ref (ad 52), .int 112, .int m1] w (fun o w1 => o = .inl (some (.int (((t.1 63).1) 0 + m1))) ∧ IV g ad (zup t.1 [(63, (upd ((t.1 63).1) 0 (((t.1 63).1) 0 + m1), (t.1 63).2)), (64, ((t.1 64).1, lfd ((t.1 64).2.1) (fun e => chS m1 0 e / 10) 4, (t.1 64).2.2))], t.2) u w1 ∧ TH ad 0 w1) 0 0 := by
  obtain ⟨e_m, w_m, k_m⟩ := hI.1.2 52 (by decide)
  obtain ⟨v_m_th, rfl⟩ := kd_52.mp k_m
  obtain ⟨e_mi, w_mi, k_mi⟩ := hI.1.2 63 (by decide)
  obtain rfl := kd_63.mp k_mi
  obtain ⟨e_mr, w_mr, k_mr⟩ := hI.1.2 64 (by decide)
  obtain rfl := kd_64.mp k_mr
  refine ((C_Mm_charge112N g (ad 52) (ad 53) (ad 54) (ad 55) (ad 56) (ad 57) (ad 58) (ad 59) (ad 60) (ad 61) (ad 62) (ad 63) (ad 64) (ad 65) (ad 66) (ad 67) (ad 68) v_m_th (nI ((t.1 52).2.2 0)) ((t.1 52).1 0) ((t.1 52).1 1) ((t.1 52).1 2) ((t.1 52).1 3) ((t.1 52).1 4) ((t.1 52).1 5) ((t.1 52).1 6) ((t.1 52).1 7) ((t.1 52).1 8) ((t.1 52).1 9) ((t.1 52).1 10) ((t.1 52).2.1 0) ((t.1 52).2.1 1) ((t.1 63).1) ((t.1 64).2.1) m1 hw hg3).at (hI.1.I [52, 63, 64] _ rfl (by decide) (by decide) (List.forall_mem_cons.mpr ⟨w_m, (List.forall_mem_cons.mpr ⟨w_mi, (List.forall_mem_cons.mpr ⟨w_mr, (fun _ h => nomatch h)⟩)⟩)⟩))).mono (Nat.le_of_ble_eq_true rfl) (Nat.le_of_ble_eq_true rfl) (fun o w1 hp => ?_)
  obtain ⟨cs1, hp, hi9⟩ := hp
  obtain ⟨e1, e2⟩ := hp
  subst e1; subst e2
  exact ⟨rfl, hI.fix (t2 := (zup t.1 [(63, (upd ((t.1 63).1) 0 (((t.1 63).1) 0 + m1), (t.1 63).2)), (64, ((t.1 64).1, lfd ((t.1 64).2.1) (fun e => chS m1 0 e / 10) 4, (t.1 64).2.2))], t.2)) (is := [52, 63, 64]) hi9 rfl ⟨kd_52.mpr ⟨_, rfl⟩, kd_63.mpr rfl, kd_64.mpr rfl, trivial⟩ (by decide) (by decide) (fun i hi hn => zup_out (fun q => hn ((by decide : ∀ j ∈ ([63, 64] : List Nat), j ∈ ([52, 63, 64] : List Nat)) i q))) (fun h => h) rfl, ⟨_, hi9.at (q0 := 0) rfl⟩⟩
set_option maxHeartbeats 4000000 in
theorem Qt_Mm_charge115G9 {g : zG} {ad : Nat → Nat} {t : zTT} {u : zNN} {w : zW} (hI : IV g ad t u w) (h : Int32) (hw : (1 ≤ h ∧ h ≤ 1000)) (hg : 3000 < ((t.1 63).1) 0 + h) : zMB g M_Mm_charge [.ref (ad 52), .int 115, .int h] w (fun o w1 => o = .inl (some (.int 0)) ∧ IV g ad t u w1 ∧ TH ad 3 w1) 0 0 := by
  obtain ⟨e_m, w_m, k_m⟩ := hI.1.2 52 (by decide)
  obtain ⟨v_m_th, rfl⟩ := kd_52.mp k_m
  obtain ⟨e_mi, w_mi, k_mi⟩ := hI.1.2 63 (by decide)
  obtain rfl := kd_63.mp k_mi
  obtain ⟨e_mr, w_mr, k_mr⟩ := hI.1.2 64 (by decide)
  obtain rfl := kd_64.mp k_mr
  refine ((C_Mm_charge115G9 g (ad 52) (ad 53) (ad 54) (ad 55) (ad 56) (ad 57) (ad 58) (ad 59) (ad 60) (ad 61) (ad 62) (ad 63) (ad 64) (ad 65) (ad 66) (ad 67) (ad 68) v_m_th (nI ((t.1 52).2.2 0)) ((t.1 52).1 0) ((t.1 52).1 1) ((t.1 52).1 2) ((t.1 52).1 3) ((t.1 52).1 4) ((t.1 52).1 5) ((t.1 52).1 6) ((t.1 52).1 7) ((t.1 52).1 8) ((t.1 52).1 9) ((t.1 52).1 10) ((t.1 52).2.1 0) ((t.1 52).2.1 1) ((t.1 63).1) ((t.1 64).2.1) h hw hg).at (hI.1.I [52, 63, 64] _ rfl (by decide) (by decide) (List.forall_mem_cons.mpr ⟨w_m, (List.forall_mem_cons.mpr ⟨w_mi, (List.forall_mem_cons.mpr ⟨w_mr, (fun _ h => nomatch h)⟩)⟩)⟩))).mono (Nat.le_of_ble_eq_true rfl) (Nat.le_of_ble_eq_true rfl) (fun o w1 hp => ?_)
  obtain ⟨cs1, hp, hi9⟩ := hp
  obtain ⟨e1, e2⟩ := hp
  subst e1; subst e2
  exact ⟨rfl, hI.fix (t2 := t) (is := [52, 63, 64]) hi9 rfl ⟨kd_52.mpr ⟨_, rfl⟩, kd_63.mpr rfl, kd_64.mpr rfl, trivial⟩ (by decide) (by decide) (fun _ _ _ => rfl) (fun h => h) rfl, ⟨_, hi9.at (q0 := 0) rfl⟩⟩
set_option maxHeartbeats 4000000 in
theorem Qt_Mm_charge115N {g : zG} {ad : Nat → Nat} {t : zTT} {u : zNN} {w : zW} (hI : IV g ad t u w) (m1 : Int32) (hw : (1 ≤ m1 ∧ m1 ≤ 1000)) (hg3 : ¬ 3000 < ((t.1 63).1) 0 + m1) : zMB g M_Mm_charge [.ref (ad 52), .int 115, .int m1] w (fun o w1 => o = .inl (some (.int (((t.1 63).1) 0 + m1))) ∧ IV g ad (zup t.1 [(63, (upd ((t.1 63).1) 0 (((t.1 63).1) 0 + m1), (t.1 63).2)), (64, ((t.1 64).1, lfd ((t.1 64).2.1) (fun e => chS m1 1 e / 10) 4, (t.1 64).2.2))], t.2) u w1 ∧ TH ad 0 w1) 0 0 := by
  obtain ⟨e_m, w_m, k_m⟩ := hI.1.2 52 (by decide)
  obtain ⟨v_m_th, rfl⟩ := kd_52.mp k_m
  obtain ⟨e_mi, w_mi, k_mi⟩ := hI.1.2 63 (by decide)
  obtain rfl := kd_63.mp k_mi
  obtain ⟨e_mr, w_mr, k_mr⟩ := hI.1.2 64 (by decide)
  obtain rfl := kd_64.mp k_mr
  refine ((C_Mm_charge115N g (ad 52) (ad 53) (ad 54) (ad 55) (ad 56) (ad 57) (ad 58) (ad 59) (ad 60) (ad 61) (ad 62) (ad 63) (ad 64) (ad 65) (ad 66) (ad 67) (ad 68) v_m_th (nI ((t.1 52).2.2 0)) ((t.1 52).1 0) ((t.1 52).1 1) ((t.1 52).1 2) ((t.1 52).1 3) ((t.1 52).1 4) ((t.1 52).1 5) ((t.1 52).1 6) ((t.1 52).1 7) ((t.1 52).1 8) ((t.1 52).1 9) ((t.1 52).1 10) ((t.1 52).2.1 0) ((t.1 52).2.1 1) ((t.1 63).1) ((t.1 64).2.1) m1 hw hg3).at (hI.1.I [52, 63, 64] _ rfl (by decide) (by decide) (List.forall_mem_cons.mpr ⟨w_m, (List.forall_mem_cons.mpr ⟨w_mi, (List.forall_mem_cons.mpr ⟨w_mr, (fun _ h => nomatch h)⟩)⟩)⟩))).mono (Nat.le_of_ble_eq_true rfl) (Nat.le_of_ble_eq_true rfl) (fun o w1 hp => ?_)
  obtain ⟨cs1, hp, hi9⟩ := hp
  obtain ⟨e1, e2⟩ := hp
  subst e1; subst e2
  exact ⟨rfl, hI.fix (t2 := (zup t.1 [(63, (upd ((t.1 63).1) 0 (((t.1 63).1) 0 + m1), (t.1 63).2)), (64, ((t.1 64).1, lfd ((t.1 64).2.1) (fun e => chS m1 1 e / 10) 4, (t.1 64).2.2))], t.2)) (is := [52, 63, 64]) hi9 rfl ⟨kd_52.mpr ⟨_, rfl⟩, kd_63.mpr rfl, kd_64.mpr rfl, trivial⟩ (by decide) (by decide) (fun i hi hn => zup_out (fun q => hn ((by decide : ∀ j ∈ ([63, 64] : List Nat), j ∈ ([52, 63, 64] : List Nat)) i q))) (fun h => h) rfl, ⟨_, hi9.at (q0 := 0) rfl⟩⟩
set_option maxHeartbeats 4000000 in
theorem Qt_Mm_charge102G9 {g : zG} {ad : Nat → Nat} {t : zTT} {u : zNN} {w : zW} (hI : IV g ad t u w) (h : Int32) (hw : (1 ≤ h ∧ h ≤ 1000)) (hg : 3000 < ((t.1 63).1) 0 + h) : zMB g M_Mm_charge [.ref (ad 52), .int 102, .int h] w (fun o w1 => o = .inl (some (.int 0)) ∧ IV g ad t u w1 ∧ TH ad 3 w1) 0 0 := by
  obtain ⟨e_m, w_m, k_m⟩ := hI.1.2 52 (by decide)
  obtain ⟨v_m_th, rfl⟩ := kd_52.mp k_m
  obtain ⟨e_mi, w_mi, k_mi⟩ := hI.1.2 63 (by decide)
  obtain rfl := kd_63.mp k_mi
  obtain ⟨e_mr, w_mr, k_mr⟩ := hI.1.2 64 (by decide)
  obtain rfl := kd_64.mp k_mr
  refine ((C_Mm_charge102G9 g (ad 52) (ad 53) (ad 54) (ad 55) (ad 56) (ad 57) (ad 58) (ad 59) (ad 60) (ad 61) (ad 62) (ad 63) (ad 64) (ad 65) (ad 66) (ad 67) (ad 68) v_m_th (nI ((t.1 52).2.2 0)) ((t.1 52).1 0) ((t.1 52).1 1) ((t.1 52).1 2) ((t.1 52).1 3) ((t.1 52).1 4) ((t.1 52).1 5) ((t.1 52).1 6) ((t.1 52).1 7) ((t.1 52).1 8) ((t.1 52).1 9) ((t.1 52).1 10) ((t.1 52).2.1 0) ((t.1 52).2.1 1) ((t.1 63).1) ((t.1 64).2.1) h hw hg).at (hI.1.I [52, 63, 64] _ rfl (by decide) (by decide) (List.forall_mem_cons.mpr ⟨w_m, (List.forall_mem_cons.mpr ⟨w_mi, (List.forall_mem_cons.mpr ⟨w_mr, (fun _ h => nomatch h)⟩)⟩)⟩))).mono (Nat.le_of_ble_eq_true rfl) (Nat.le_of_ble_eq_true rfl) (fun o w1 hp => ?_)
  obtain ⟨cs1, hp, hi9⟩ := hp
  obtain ⟨e1, e2⟩ := hp
  subst e1; subst e2
  exact ⟨rfl, hI.fix (t2 := t) (is := [52, 63, 64]) hi9 rfl ⟨kd_52.mpr ⟨_, rfl⟩, kd_63.mpr rfl, kd_64.mpr rfl, trivial⟩ (by decide) (by decide) (fun _ _ _ => rfl) (fun h => h) rfl, ⟨_, hi9.at (q0 := 0) rfl⟩⟩
set_option maxHeartbeats 4000000 in
theorem Qt_Mm_charge102N {g : zG} {ad : Nat → Nat} {t : zTT} {u : zNN} {w : zW} (hI : IV g ad t u w) (m1 : Int32) (hw : (1 ≤ m1 ∧ m1 ≤ 1000)) (hg3 : ¬ 3000 < ((t.1 63).1) 0 + m1) : zMB g M_Mm_charge [.ref (ad 52), .int 102, .int m1] w (fun o w1 => o = .inl (some (.int (((t.1 63).1) 0 + m1))) ∧ IV g ad (zup t.1 [(63, (upd ((t.1 63).1) 0 (((t.1 63).1) 0 + m1), (t.1 63).2)), (64, ((t.1 64).1, lfd ((t.1 64).2.1) (fun e => chS m1 2 e / 10) 4, (t.1 64).2.2))], t.2) u w1 ∧ TH ad 0 w1) 0 0 := by
  obtain ⟨e_m, w_m, k_m⟩ := hI.1.2 52 (by decide)
  obtain ⟨v_m_th, rfl⟩ := kd_52.mp k_m
  obtain ⟨e_mi, w_mi, k_mi⟩ := hI.1.2 63 (by decide)
  obtain rfl := kd_63.mp k_mi
  obtain ⟨e_mr, w_mr, k_mr⟩ := hI.1.2 64 (by decide)
  obtain rfl := kd_64.mp k_mr
  refine ((C_Mm_charge102N g (ad 52) (ad 53) (ad 54) (ad 55) (ad 56) (ad 57) (ad 58) (ad 59) (ad 60) (ad 61) (ad 62) (ad 63) (ad 64) (ad 65) (ad 66) (ad 67) (ad 68) v_m_th (nI ((t.1 52).2.2 0)) ((t.1 52).1 0) ((t.1 52).1 1) ((t.1 52).1 2) ((t.1 52).1 3) ((t.1 52).1 4) ((t.1 52).1 5) ((t.1 52).1 6) ((t.1 52).1 7) ((t.1 52).1 8) ((t.1 52).1 9) ((t.1 52).1 10) ((t.1 52).2.1 0) ((t.1 52).2.1 1) ((t.1 63).1) ((t.1 64).2.1) m1 hw hg3).at (hI.1.I [52, 63, 64] _ rfl (by decide) (by decide) (List.forall_mem_cons.mpr ⟨w_m, (List.forall_mem_cons.mpr ⟨w_mi, (List.forall_mem_cons.mpr ⟨w_mr, (fun _ h => nomatch h)⟩)⟩)⟩))).mono (Nat.le_of_ble_eq_true rfl) (Nat.le_of_ble_eq_true rfl) (fun o w1 hp => ?_)
  obtain ⟨cs1, hp, hi9⟩ := hp
  obtain ⟨e1, e2⟩ := hp
  subst e1; subst e2
  exact ⟨rfl, hI.fix (t2 := (zup t.1 [(63, (upd ((t.1 63).1) 0 (((t.1 63).1) 0 + m1), (t.1 63).2)), (64, ((t.1 64).1, lfd ((t.1 64).2.1) (fun e => chS m1 2 e / 10) 4, (t.1 64).2.2))], t.2)) (is := [52, 63, 64]) hi9 rfl ⟨kd_52.mpr ⟨_, rfl⟩, kd_63.mpr rfl, kd_64.mpr rfl, trivial⟩ (by decide) (by decide) (fun i hi hn => zup_out (fun q => hn ((by decide : ∀ j ∈ ([63, 64] : List Nat), j ∈ ([52, 63, 64] : List Nat)) i q))) (fun h => h) rfl, ⟨_, hi9.at (q0 := 0) rfl⟩⟩
set_option maxHeartbeats 4000000 in
theorem Qt_Mm_charge107N {g : zG} {ad : Nat → Nat} {t : zTT} {u : zNN} {w : zW} (hI : IV g ad t u w) (m1 : Int32) (hw : (1 ≤ m1 ∧ m1 ≤ 1000)) : zMB g M_Mm_charge [.ref (ad 52), .int 107, .int m1] w (fun o w1 => o = .inl (some (.int (((t.1 63).1) 0 + 0))) ∧ IV g ad (zup t.1 [(63, (upd ((t.1 63).1) 0 (((t.1 63).1) 0 + 0), (t.1 63).2)), (64, ((t.1 64).1, lfd ((t.1 64).2.1) (fun e => chS m1 3 e / 10) 4, (t.1 64).2.2))], t.2) u w1 ∧ TH ad 0 w1) 0 0 := by
  obtain ⟨e_m, w_m, k_m⟩ := hI.1.2 52 (by decide)
  obtain ⟨v_m_th, rfl⟩ := kd_52.mp k_m
  obtain ⟨e_mi, w_mi, k_mi⟩ := hI.1.2 63 (by decide)
  obtain rfl := kd_63.mp k_mi
  obtain ⟨e_mr, w_mr, k_mr⟩ := hI.1.2 64 (by decide)
  obtain rfl := kd_64.mp k_mr
  refine ((C_Mm_charge107N g (ad 52) (ad 53) (ad 54) (ad 55) (ad 56) (ad 57) (ad 58) (ad 59) (ad 60) (ad 61) (ad 62) (ad 63) (ad 64) (ad 65) (ad 66) (ad 67) (ad 68) v_m_th (nI ((t.1 52).2.2 0)) ((t.1 52).1 0) ((t.1 52).1 1) ((t.1 52).1 2) ((t.1 52).1 3) ((t.1 52).1 4) ((t.1 52).1 5) ((t.1 52).1 6) ((t.1 52).1 7) ((t.1 52).1 8) ((t.1 52).1 9) ((t.1 52).1 10) ((t.1 52).2.1 0) ((t.1 52).2.1 1) ((t.1 63).1) ((t.1 64).2.1) m1 hw).at (hI.1.I [52, 63, 64] _ rfl (by decide) (by decide) (List.forall_mem_cons.mpr ⟨w_m, (List.forall_mem_cons.mpr ⟨w_mi, (List.forall_mem_cons.mpr ⟨w_mr, (fun _ h => nomatch h)⟩)⟩)⟩))).mono (Nat.le_of_ble_eq_true rfl) (Nat.le_of_ble_eq_true rfl) (fun o w1 hp => ?_)
  obtain ⟨cs1, hp, hi9⟩ := hp
  obtain ⟨e1, e2⟩ := hp
  subst e1; subst e2
  exact ⟨rfl, hI.fix (t2 := (zup t.1 [(63, (upd ((t.1 63).1) 0 (((t.1 63).1) 0 + 0), (t.1 63).2)), (64, ((t.1 64).1, lfd ((t.1 64).2.1) (fun e => chS m1 3 e / 10) 4, (t.1 64).2.2))], t.2)) (is := [52, 63, 64]) hi9 rfl ⟨kd_52.mpr ⟨_, rfl⟩, kd_63.mpr rfl, kd_64.mpr rfl, trivial⟩ (by decide) (by decide) (fun i hi hn => zup_out (fun q => hn ((by decide : ∀ j ∈ ([63, 64] : List Nat), j ∈ ([52, 63, 64] : List Nat)) i q))) (fun h => h) rfl, ⟨_, hi9.at (q0 := 0) rfl⟩⟩
set_option maxHeartbeats 4000000 in
theorem Qt_Mm_charge103F {g : zG} {ad : Nat → Nat} {t : zTT} {u : zNN} {w : zW} (hI : IV g ad t u w) (m1 : Int32) (hw : (1 ≤ m1 ∧ m1 ≤ 1000)) (hf : ((t.1 63).1) 2 < m1) : zMB g M_Mm_charge [.ref (ad 52), .int 103, .int m1] w (fun o w1 => o = .inl (some (.int 0)) ∧ IV g ad t u w1 ∧ TH ad 2 w1) 0 0 := by
  obtain ⟨e_m, w_m, k_m⟩ := hI.1.2 52 (by decide)
  obtain ⟨v_m_th, rfl⟩ := kd_52.mp k_m
  obtain ⟨e_mi, w_mi, k_mi⟩ := hI.1.2 63 (by decide)
  obtain rfl := kd_63.mp k_mi
  refine ((C_Mm_charge103F g (ad 52) (ad 53) (ad 54) (ad 55) (ad 56) (ad 57) (ad 58) (ad 59) (ad 60) (ad 61) (ad 62) (ad 63) (ad 64) (ad 65) (ad 66) (ad 67) (ad 68) v_m_th (nI ((t.1 52).2.2 0)) ((t.1 52).1 0) ((t.1 52).1 1) ((t.1 52).1 2) ((t.1 52).1 3) ((t.1 52).1 4) ((t.1 52).1 5) ((t.1 52).1 6) ((t.1 52).1 7) ((t.1 52).1 8) ((t.1 52).1 9) ((t.1 52).1 10) ((t.1 52).2.1 0) ((t.1 52).2.1 1) ((t.1 63).1) m1 hw hf).at (hI.1.I [52, 63] _ rfl (by decide) (by decide) (List.forall_mem_cons.mpr ⟨w_m, (List.forall_mem_cons.mpr ⟨w_mi, (fun _ h => nomatch h)⟩)⟩))).mono (Nat.le_of_ble_eq_true rfl) (Nat.le_of_ble_eq_true rfl) (fun o w1 hp => ?_)
  obtain ⟨cs1, hp, hi9⟩ := hp
  obtain ⟨e1, e2⟩ := hp
  subst e1; subst e2
  exact ⟨rfl, hI.fix (t2 := t) (is := [52, 63]) hi9 rfl ⟨kd_52.mpr ⟨_, rfl⟩, kd_63.mpr rfl, trivial⟩ (by decide) (by decide) (fun _ _ _ => rfl) (fun h => h) rfl, ⟨_, hi9.at (q0 := 0) rfl⟩⟩
set_option maxHeartbeats 4000000 in
theorem Qt_Mm_charge103G9 {g : zG} {ad : Nat → Nat} {t : zTT} {u : zNN} {w : zW} (hI : IV g ad t u w) (h : Int32) (hw : (1 ≤ h ∧ h ≤ 1000)) (hf : ¬ ((t.1 63).1) 2 < h) (hg : 3000 < ((t.1 63).1) 0 + h) : zMB g M_Mm_charge [.ref (ad 52), .int 103, .int h] w (fun o w1 => o = .inl (some (.int 0)) ∧ IV g ad t u w1 ∧ TH ad 3 w1) 0 0 := by
  obtain ⟨e_m, w_m, k_m⟩ := hI.1.2 52 (by decide)
  obtain ⟨v_m_th, rfl⟩ := kd_52.mp k_m
  obtain ⟨e_mi, w_mi, k_mi⟩ := hI.1.2 63 (by decide)
  obtain rfl := kd_63.mp k_mi
  obtain ⟨e_mr, w_mr, k_mr⟩ := hI.1.2 64 (by decide)
  obtain rfl := kd_64.mp k_mr
  refine ((C_Mm_charge103G9 g (ad 52) (ad 53) (ad 54) (ad 55) (ad 56) (ad 57) (ad 58) (ad 59) (ad 60) (ad 61) (ad 62) (ad 63) (ad 64) (ad 65) (ad 66) (ad 67) (ad 68) v_m_th (nI ((t.1 52).2.2 0)) ((t.1 52).1 0) ((t.1 52).1 1) ((t.1 52).1 2) ((t.1 52).1 3) ((t.1 52).1 4) ((t.1 52).1 5) ((t.1 52).1 6) ((t.1 52).1 7) ((t.1 52).1 8) ((t.1 52).1 9) ((t.1 52).1 10) ((t.1 52).2.1 0) ((t.1 52).2.1 1) ((t.1 63).1) ((t.1 64).2.1) h hw hf hg).at (hI.1.I [52, 63, 64] _ rfl (by decide) (by decide) (List.forall_mem_cons.mpr ⟨w_m, (List.forall_mem_cons.mpr ⟨w_mi, (List.forall_mem_cons.mpr ⟨w_mr, (fun _ h => nomatch h)⟩)⟩)⟩))).mono (Nat.le_of_ble_eq_true rfl) (Nat.le_of_ble_eq_true rfl) (fun o w1 hp => ?_)
  obtain ⟨cs1, hp, hi9⟩ := hp
  obtain ⟨e1, e2⟩ := hp
  subst e1; subst e2
  exact ⟨rfl, hI.fix (t2 := t) (is := [52, 63, 64]) hi9 rfl ⟨kd_52.mpr ⟨_, rfl⟩, kd_63.mpr rfl, kd_64.mpr rfl, trivial⟩ (by decide) (by decide) (fun _ _ _ => rfl) (fun h => h) rfl, ⟨_, hi9.at (q0 := 0) rfl⟩⟩
set_option maxHeartbeats 4000000 in
theorem Qt_Mm_charge103N9 {g : zG} {ad : Nat → Nat} {t : zTT} {u : zNN} {w : zW} (hI : IV g ad t u w) (h : Int32) (hw : (1 ≤ h ∧ h ≤ 1000)) (hf : ¬ ((t.1 63).1) 2 < h) (hg : ¬ 3000 < ((t.1 63).1) 0 + h) : zMB g M_Mm_charge [.ref (ad 52), .int 103, .int h] w (fun o w1 => o = .inl (some (.int (mvN ((t.1 63).1) 2 0 h 0))) ∧ IV g ad (zup t.1 [(63, (mvN ((t.1 63).1) 2 0 h, (t.1 63).2)), (64, ((t.1 64).1, mvR ((t.1 64).2.1) 2 0 h (((t.1 63).1) 2) 4, (t.1 64).2.2))], t.2) u w1 ∧ TH ad 0 w1) 0 0 := by
  obtain ⟨e_m, w_m, k_m⟩ := hI.1.2 52 (by decide)
  obtain ⟨v_m_th, rfl⟩ := kd_52.mp k_m
  obtain ⟨e_mi, w_mi, k_mi⟩ := hI.1.2 63 (by decide)
  obtain rfl := kd_63.mp k_mi
  obtain ⟨e_mr, w_mr, k_mr⟩ := hI.1.2 64 (by decide)
  obtain rfl := kd_64.mp k_mr
  refine ((C_Mm_charge103N9 g (ad 52) (ad 53) (ad 54) (ad 55) (ad 56) (ad 57) (ad 58) (ad 59) (ad 60) (ad 61) (ad 62) (ad 63) (ad 64) (ad 65) (ad 66) (ad 67) (ad 68) v_m_th (nI ((t.1 52).2.2 0)) ((t.1 52).1 0) ((t.1 52).1 1) ((t.1 52).1 2) ((t.1 52).1 3) ((t.1 52).1 4) ((t.1 52).1 5) ((t.1 52).1 6) ((t.1 52).1 7) ((t.1 52).1 8) ((t.1 52).1 9) ((t.1 52).1 10) ((t.1 52).2.1 0) ((t.1 52).2.1 1) ((t.1 63).1) ((t.1 64).2.1) h hw hf hg).at (hI.1.I [52, 63, 64] _ rfl (by decide) (by decide) (List.forall_mem_cons.mpr ⟨w_m, (List.forall_mem_cons.mpr ⟨w_mi, (List.forall_mem_cons.mpr ⟨w_mr, (fun _ h => nomatch h)⟩)⟩)⟩))).mono (Nat.le_of_ble_eq_true rfl) (Nat.le_of_ble_eq_true rfl) (fun o w1 hp => ?_)
  obtain ⟨cs1, hp, hi9⟩ := hp
  obtain ⟨e1, e2⟩ := hp
  subst e1; subst e2
  exact ⟨rfl, hI.fix (t2 := (zup t.1 [(63, (mvN ((t.1 63).1) 2 0 h, (t.1 63).2)), (64, ((t.1 64).1, mvR ((t.1 64).2.1) 2 0 h (((t.1 63).1) 2) 4, (t.1 64).2.2))], t.2)) (is := [52, 63, 64]) hi9 rfl ⟨kd_52.mpr ⟨_, rfl⟩, kd_63.mpr rfl, kd_64.mpr rfl, trivial⟩ (by decide) (by decide) (fun i hi hn => zup_out (fun q => hn ((by decide : ∀ j ∈ ([63, 64] : List Nat), j ∈ ([52, 63, 64] : List Nat)) i q))) (fun h => h) rfl, ⟨_, hi9.at (q0 := 0) rfl⟩⟩
set_option maxHeartbeats 4000000 in
theorem Qt_Mm_charge100F {g : zG} {ad : Nat → Nat} {t : zTT} {u : zNN} {w : zW} (hI : IV g ad t u w) (m1 : Int32) (hw : (1 ≤ m1 ∧ m1 ≤ 1000)) (hf : ((t.1 63).1) 3 < m1) : zMB g M_Mm_charge [.ref (ad 52), .int 100, .int m1] w (fun o w1 => o = .inl (some (.int 0)) ∧ IV g ad t u w1 ∧ TH ad 2 w1) 0 0 := by
  obtain ⟨e_m, w_m, k_m⟩ := hI.1.2 52 (by decide)
  obtain ⟨v_m_th, rfl⟩ := kd_52.mp k_m
  obtain ⟨e_mi, w_mi, k_mi⟩ := hI.1.2 63 (by decide)
  obtain rfl := kd_63.mp k_mi
  refine ((C_Mm_charge100F g (ad 52) (ad 53) (ad 54) (ad 55) (ad 56) (ad 57) (ad 58) (ad 59) (ad 60) (ad 61) (ad 62) (ad 63) (ad 64) (ad 65) (ad 66) (ad 67) (ad 68) v_m_th (nI ((t.1 52).2.2 0)) ((t.1 52).1 0) ((t.1 52).1 1) ((t.1 52).1 2) ((t.1 52).1 3) ((t.1 52).1 4) ((t.1 52).1 5) ((t.1 52).1 6) ((t.1 52).1 7) ((t.1 52).1 8) ((t.1 52).1 9) ((t.1 52).1 10) ((t.1 52).2.1 0) ((t.1 52).2.1 1) ((t.1 63).1) m1 hw hf).at (hI.1.I [52, 63] _ rfl (by decide) (by decide) (List.forall_mem_cons.mpr ⟨w_m, (List.forall_mem_cons.mpr ⟨w_mi, (fun _ h => nomatch h)⟩)⟩))).mono (Nat.le_of_ble_eq_true rfl) (Nat.le_of_ble_eq_true rfl) (fun o w1 hp => ?_)
  obtain ⟨cs1, hp, hi9⟩ := hp
  obtain ⟨e1, e2⟩ := hp
  subst e1; subst e2
  exact ⟨rfl, hI.fix (t2 := t) (is := [52, 63]) hi9 rfl ⟨kd_52.mpr ⟨_, rfl⟩, kd_63.mpr rfl, trivial⟩ (by decide) (by decide) (fun _ _ _ => rfl) (fun h => h) rfl, ⟨_, hi9.at (q0 := 0) rfl⟩⟩
set_option maxHeartbeats 4000000 in
theorem Qt_Mm_charge100G9 {g : zG} {ad : Nat → Nat} {t : zTT} {u : zNN} {w : zW} (hI : IV g ad t u w) (h : Int32) (hw : (1 ≤ h ∧ h ≤ 1000)) (hf : ¬ ((t.1 63).1) 3 < h) (hg : 3000 < ((t.1 63).1) 0 + h) : zMB g M_Mm_charge [.ref (ad 52), .int 100, .int h] w (fun o w1 => o = .inl (some (.int 0)) ∧ IV g ad t u w1 ∧ TH ad 3 w1) 0 0 := by
  obtain ⟨e_m, w_m, k_m⟩ := hI.1.2 52 (by decide)
  obtain ⟨v_m_th, rfl⟩ := kd_52.mp k_m
  obtain ⟨e_mi, w_mi, k_mi⟩ := hI.1.2 63 (by decide)
  obtain rfl := kd_63.mp k_mi
  obtain ⟨e_mr, w_mr, k_mr⟩ := hI.1.2 64 (by decide)
  obtain rfl := kd_64.mp k_mr
  refine ((C_Mm_charge100G9 g (ad 52) (ad 53) (ad 54) (ad 55) (ad 56) (ad 57) (ad 58) (ad 59) (ad 60) (ad 61) (ad 62) (ad 63) (ad 64) (ad 65) (ad 66) (ad 67) (ad 68) v_m_th (nI ((t.1 52).2.2 0)) ((t.1 52).1 0) ((t.1 52).1 1) ((t.1 52).1 2) ((t.1 52).1 3) ((t.1 52).1 4) ((t.1 52).1 5) ((t.1 52).1 6) ((t.1 52).1 7) ((t.1 52).1 8) ((t.1 52).1 9) ((t.1 52).1 10) ((t.1 52).2.1 0) ((t.1 52).2.1 1) ((t.1 63).1) ((t.1 64).2.1) h hw hf hg).at (hI.1.I [52, 63, 64] _ rfl (by decide) (by decide) (List.forall_mem_cons.mpr ⟨w_m, (List.forall_mem_cons.mpr ⟨w_mi, (List.forall_mem_cons.mpr ⟨w_mr, (fun _ h => nomatch h)⟩)⟩)⟩))).mono (Nat.le_of_ble_eq_true rfl) (Nat.le_of_ble_eq_true rfl) (fun o w1 hp => ?_)
  obtain ⟨cs1, hp, hi9⟩ := hp
  obtain ⟨e1, e2⟩ := hp
  subst e1; subst e2
  exact ⟨rfl, hI.fix (t2 := t) (is := [52, 63, 64]) hi9 rfl ⟨kd_52.mpr ⟨_, rfl⟩, kd_63.mpr rfl, kd_64.mpr rfl, trivial⟩ (by decide) (by decide) (fun _ _ _ => rfl) (fun h => h) rfl, ⟨_, hi9.at (q0 := 0) rfl⟩⟩
set_option maxHeartbeats 4000000 in
theorem Qt_Mm_charge100N9 {g : zG} {ad : Nat → Nat} {t : zTT} {u : zNN} {w : zW} (hI : IV g ad t u w) (h : Int32) (hw : (1 ≤ h ∧ h ≤ 1000)) (hf : ¬ ((t.1 63).1) 3 < h) (hg : ¬ 3000 < ((t.1 63).1) 0 + h) : zMB g M_Mm_charge [.ref (ad 52), .int 100, .int h] w (fun o w1 => o = .inl (some (.int (mvN ((t.1 63).1) 3 0 h 0))) ∧ IV g ad (zup t.1 [(63, (mvN ((t.1 63).1) 3 0 h, (t.1 63).2)), (64, ((t.1 64).1, mvR ((t.1 64).2.1) 3 0 h (((t.1 63).1) 3) 4, (t.1 64).2.2))], t.2) u w1 ∧ TH ad 0 w1) 0 0 := by
  obtain ⟨e_m, w_m, k_m⟩ := hI.1.2 52 (by decide)
  obtain ⟨v_m_th, rfl⟩ := kd_52.mp k_m
  obtain ⟨e_mi, w_mi, k_mi⟩ := hI.1.2 63 (by decide)
  obtain rfl := kd_63.mp k_mi
  obtain ⟨e_mr, w_mr, k_mr⟩ := hI.1.2 64 (by decide)
  obtain rfl := kd_64.mp k_mr
  refine ((C_Mm_charge100N9 g (ad 52) (ad 53) (ad 54) (ad 55) (ad 56) (ad 57) (ad 58) (ad 59) (ad 60) (ad 61) (ad 62) (ad 63) (ad 64) (ad 65) (ad 66) (ad 67) (ad 68) v_m_th (nI ((t.1 52).2.2 0)) ((t.1 52).1 0) ((t.1 52).1 1) ((t.1 52).1 2) ((t.1 52).1 3) ((t.1 52).1 4) ((t.1 52).1 5) ((t.1 52).1 6) ((t.1 52).1 7) ((t.1 52).1 8) ((t.1 52).1 9) ((t.1 52).1 10) ((t.1 52).2.1 0) ((t.1 52).2.1 1) ((t.1 63).1) ((t.1 64).2.1) h hw hf hg).at (hI.1.I [52, 63, 64] _ rfl (by decide) (by decide) (List.forall_mem_cons.mpr ⟨w_m, (List.forall_mem_cons.mpr ⟨w_mi, (List.forall_mem_cons.mpr ⟨w_mr, (fun _ h => nomatch h)⟩)⟩)⟩))).mono (Nat.le_of_ble_eq_true rfl) (Nat.le_of_ble_eq_true rfl) (fun o w1 hp => ?_)
  obtain ⟨cs1, hp, hi9⟩ := hp
  obtain ⟨e1, e2⟩ := hp
  subst e1; subst e2
  exact ⟨rfl, hI.fix (t2 := (zup t.1 [(63, (mvN ((t.1 63).1) 3 0 h, (t.1 63).2)), (64, ((t.1 64).1, mvR ((t.1 64).2.1) 3 0 h (((t.1 63).1) 3) 4, (t.1 64).2.2))], t.2)) (is := [52, 63, 64]) hi9 rfl ⟨kd_52.mpr ⟨_, rfl⟩, kd_63.mpr rfl, kd_64.mpr rfl, trivial⟩ (by decide) (by decide) (fun i hi hn => zup_out (fun q => hn ((by decide : ∀ j ∈ ([63, 64] : List Nat), j ∈ ([52, 63, 64] : List Nat)) i q))) (fun h => h) rfl, ⟨_, hi9.at (q0 := 0) rfl⟩⟩
set_option maxHeartbeats 4000000 in
theorem Qt_Mm_chargeE {g : zG} {ad : Nat → Nat} {t : zTT} {u : zNN} {w : zW} (hI : IV g ad t u w) (k : Int32) (m1 : Int32) (hw : ¬ (0 ≤ z_ix 1 k ∧ (1 ≤ m1 ∧ m1 ≤ 1000))) : zMB g M_Mm_charge [.ref (ad 52), .int k, .int m1] w (fun o w1 => o = .inl (some (.int 0)) ∧ IV g ad t u w1 ∧ TH ad 1 w1) 0 0 := by
  obtain ⟨e_m, w_m, k_m⟩ := hI.1.2 52 (by decide)
  obtain ⟨v_m_th, rfl⟩ := kd_52.mp k_m
  refine ((C_Mm_chargeE g (ad 52) (ad 53) (ad 54) (ad 55) (ad 56) (ad 57) (ad 58) (ad 59) (ad 60) (ad 61) (ad 62) (ad 63) (ad 64) (ad 65) (ad 66) (ad 67) (ad 68) v_m_th (nI ((t.1 52).2.2 0)) ((t.1 52).1 0) ((t.1 52).1 1) ((t.1 52).1 2) ((t.1 52).1 3) ((t.1 52).1 4) ((t.1 52).1 5) ((t.1 52).1 6) ((t.1 52).1 7) ((t.1 52).1 8) ((t.1 52).1 9) ((t.1 52).1 10) ((t.1 52).2.1 0) ((t.1 52).2.1 1) k m1 hw).at (hI.1.I [52] _ rfl (by decide) (by decide) (List.forall_mem_cons.mpr ⟨w_m, (fun _ h => nomatch h)⟩))).mono (Nat.le_of_ble_eq_true rfl) (Nat.le_of_ble_eq_true rfl) (fun o w1 hp => ?_)
  obtain ⟨cs1, hp, hi9⟩ := hp
  obtain ⟨e1, e2⟩ := hp
  subst e1; subst e2
  exact ⟨rfl, hI.fix (t2 := t) (is := [52]) hi9 rfl ⟨kd_52.mpr ⟨_, rfl⟩, trivial⟩ (by decide) (by decide) (fun _ _ _ => rfl) (fun h => h) rfl, ⟨_, hi9.at (q0 := 0) rfl⟩⟩
noncomputable def vK_Mm_charge (ad : Nat → Nat) (k m : Int32) (t : zTT) : Int32 × Int32 := (if 0 ≤ z_ix 1 k ∧ (1 ≤ m ∧ m ≤ 1000) then (if k = 112 then (if 3000 < (t.1 63).1 0 + m then (3, 0) else (0, (((t.1 63).1) 0 + m))) else (if k = 115 then (if 3000 < (t.1 63).1 0 + m then (3, 0) else (0, (((t.1 63).1) 0 + m))) else (if k = 102 then (if 3000 < (t.1 63).1 0 + m then (3, 0) else (0, (((t.1 63).1) 0 + m))) else (if k = 107 then (0, (((t.1 63).1) 0 + 0)) else (if k = 103 then (if (t.1 63).1 2 < m then (2, 0) else (if 3000 < (t.1 63).1 0 + m then (3, 0) else (0, (mvN ((t.1 63).1) 2 0 m 0)))) else (if (t.1 63).1 3 < m then (2, 0) else (if 3000 < (t.1 63).1 0 + m then (3, 0) else (0, (mvN ((t.1 63).1) 3 0 m 0))))))))) else (1, 0))
theorem KE_Mm_charge {g : zG} {ad : Nat → Nat} {t : zTT} {u : zNN} {w : zW} {vo : Int64} (hI : IVo g ad vo t u w) (k m : Int32) : zMB g M_Mm_charge [.ref (ad 52), .int k, .int m] w (fun o w1 => o = .inl (some (.int (vK_Mm_charge ad k m t).2)) ∧ TH ad (vK_Mm_charge ad k m t).1 w1 ∧ ∃ u2 : zNN, u2.1 = u.1 ∧ IVo g ad vo (tK_Mm_charge k m t) u2 w1) 10 300 := by
  obtain ⟨s, hv, hI⟩ := hI
  by_cases hw : 0 ≤ z_ix 1 k ∧ (1 ≤ m ∧ m ≤ 1000)
  · rcases z_ix1 hw.1 with rfl | rfl | rfl | rfl | rfl | rfl
    · by_cases hg : 3000 < (t.1 63).1 0 + m
      · have eT : (tK_Mm_charge 112 m t) = t := by unfold tK_Mm_charge; rw [if_pos hw, if_pos (rfl : (112 : Int32) = 112), if_pos hg]
        have eV : (vK_Mm_charge ad 112 m t) = (3, 0) := by unfold vK_Mm_charge; rw [if_pos hw, if_pos (rfl : (112 : Int32) = 112), if_pos hg]
        rw [eT, eV]
        exact (Qt_Mm_charge112G9 hI m hw.2 hg).mono (by decide) (by decide) (fun o w1 h => ⟨h.1, h.2.2, u, rfl, ⟨s, hv, h.2.1⟩⟩)
      · have eT : (tK_Mm_charge 112 m t) = (zup t.1 [(63, (upd ((t.1 63).1) 0 (((t.1 63).1) 0 + m), (t.1 63).2)), (64, ((t.1 64).1, lfd ((t.1 64).2.1) (fun e => chS m 0 e / 10) 4, (t.1 64).2.2))], t.2) := by unfold tK_Mm_charge; rw [if_pos hw, if_pos (rfl : (112 : Int32) = 112), if_neg hg]
        have eV : (vK_Mm_charge ad 112 m t) = (0, (((t.1 63).1) 0 + m)) := by unfold vK_Mm_charge; rw [if_pos hw, if_pos (rfl : (112 : Int32) = 112), if_neg hg]
        rw [eT, eV]
        exact (Qt_Mm_charge112N hI m hw.2 hg).mono (by decide) (by decide) (fun o w1 h => ⟨h.1, h.2.2, u, rfl, IVo.zu h.2.1 hv⟩)
    · by_cases hg : 3000 < (t.1 63).1 0 + m
      · have eT : (tK_Mm_charge 115 m t) = t := by unfold tK_Mm_charge; rw [if_pos hw, if_neg (show ¬ ((115 : Int32) = 112) by decide), if_pos (rfl : (115 : Int32) = 115), if_pos hg]
        have eV : (vK_Mm_charge ad 115 m t) = (3, 0) := by unfold vK_Mm_charge; rw [if_pos hw, if_neg (show ¬ ((115 : Int32) = 112) by decide), if_pos (rfl : (115 : Int32) = 115), if_pos hg]
        rw [eT, eV]
        exact (Qt_Mm_charge115G9 hI m hw.2 hg).mono (by decide) (by decide) (fun o w1 h => ⟨h.1, h.2.2, u, rfl, ⟨s, hv, h.2.1⟩⟩)
      · have eT : (tK_Mm_charge 115 m t) = (zup t.1 [(63, (upd ((t.1 63).1) 0 (((t.1 63).1) 0 + m), (t.1 63).2)), (64, ((t.1 64).1, lfd ((t.1 64).2.1) (fun e => chS m 1 e / 10) 4, (t.1 64).2.2))], t.2) := by unfold tK_Mm_charge; rw [if_pos hw, if_neg (show ¬ ((115 : Int32) = 112) by decide), if_pos (rfl : (115 : Int32) = 115), if_neg hg]
        have eV : (vK_Mm_charge ad 115 m t) = (0, (((t.1 63).1) 0 + m)) := by unfold vK_Mm_charge; rw [if_pos hw, if_neg (show ¬ ((115 : Int32) = 112) by decide), if_pos (rfl : (115 : Int32) = 115), if_neg hg]
        rw [eT, eV]
        exact (Qt_Mm_charge115N hI m hw.2 hg).mono (by decide) (by decide) (fun o w1 h => ⟨h.1, h.2.2, u, rfl, IVo.zu h.2.1 hv⟩)
    · by_cases hg : 3000 < (t.1 63).1 0 + m
      · have eT : (tK_Mm_charge 102 m t) = t := by unfold tK_Mm_charge; rw [if_pos hw, if_neg (show ¬ ((102 : Int32) = 112) by decide), if_neg (show ¬ ((102 : Int32) = 115) by decide), if_pos (rfl : (102 : Int32) = 102), if_pos hg]
        have eV : (vK_Mm_charge ad 102 m t) = (3, 0) := by unfold vK_Mm_charge; rw [if_pos hw, if_neg (show ¬ ((102 : Int32) = 112) by decide), if_neg (show ¬ ((102 : Int32) = 115) by decide), if_pos (rfl : (102 : Int32) = 102), if_pos hg]
        rw [eT, eV]
        exact (Qt_Mm_charge102G9 hI m hw.2 hg).mono (by decide) (by decide) (fun o w1 h => ⟨h.1, h.2.2, u, rfl, ⟨s, hv, h.2.1⟩⟩)
      · have eT : (tK_Mm_charge 102 m t) = (zup t.1 [(63, (upd ((t.1 63).1) 0 (((t.1 63).1) 0 + m), (t.1 63).2)), (64, ((t.1 64).1, lfd ((t.1 64).2.1) (fun e => chS m 2 e / 10) 4, (t.1 64).2.2))], t.2) := by unfold tK_Mm_charge; rw [if_pos hw, if_neg (show ¬ ((102 : Int32) = 112) by decide), if_neg (show ¬ ((102 : Int32) = 115) by decide), if_pos (rfl : (102 : Int32) = 102), if_neg hg]
        have eV : (vK_Mm_charge ad 102 m t) = (0, (((t.1 63).1) 0 + m)) := by unfold vK_Mm_charge; rw [if_pos hw, if_neg (show ¬ ((102 : Int32) = 112) by decide), if_neg (show ¬ ((102 : Int32) = 115) by decide), if_pos (rfl : (102 : Int32) = 102), if_neg hg]
        rw [eT, eV]
        exact (Qt_Mm_charge102N hI m hw.2 hg).mono (by decide) (by decide) (fun o w1 h => ⟨h.1, h.2.2, u, rfl, IVo.zu h.2.1 hv⟩)
    · have eT : (tK_Mm_charge 107 m t) = (zup t.1 [(63, (upd ((t.1 63).1) 0 (((t.1 63).1) 0 + 0), (t.1 63).2)), (64, ((t.1 64).1, lfd ((t.1 64).2.1) (fun e => chS m 3 e / 10) 4, (t.1 64).2.2))], t.2) := by unfold tK_Mm_charge; rw [if_pos hw, if_neg (show ¬ ((107 : Int32) = 112) by decide), if_neg (show ¬ ((107 : Int32) = 115) by decide), if_neg (show ¬ ((107 : Int32) = 102) by decide), if_pos (rfl : (107 : Int32) = 107)]
      have eV : (vK_Mm_charge ad 107 m t) = (0, (((t.1 63).1) 0 + 0)) := by unfold vK_Mm_charge; rw [if_pos hw, if_neg (show ¬ ((107 : Int32) = 112) by decide), if_neg (show ¬ ((107 : Int32) = 115) by decide), if_neg (show ¬ ((107 : Int32) = 102) by decide), if_pos (rfl : (107 : Int32) = 107)]
      rw [eT, eV]
      exact (Qt_Mm_charge107N hI m hw.2).mono (by decide) (by decide) (fun o w1 h => ⟨h.1, h.2.2, u, rfl, IVo.zu h.2.1 hv⟩)
    · by_cases hf : (t.1 63).1 2 < m
      · have eT : (tK_Mm_charge 103 m t) = t := by unfold tK_Mm_charge; rw [if_pos hw, if_neg (show ¬ ((103 : Int32) = 112) by decide), if_neg (show ¬ ((103 : Int32) = 115) by decide), if_neg (show ¬ ((103 : Int32) = 102) by decide), if_neg (show ¬ ((103 : Int32) = 107) by decide), if_pos (rfl : (103 : Int32) = 103), if_pos hf]
        have eV : (vK_Mm_charge ad 103 m t) = (2, 0) := by unfold vK_Mm_charge; rw [if_pos hw, if_neg (show ¬ ((103 : Int32) = 112) by decide), if_neg (show ¬ ((103 : Int32) = 115) by decide), if_neg (show ¬ ((103 : Int32) = 102) by decide), if_neg (show ¬ ((103 : Int32) = 107) by decide), if_pos (rfl : (103 : Int32) = 103), if_pos hf]
        rw [eT, eV]
        exact (Qt_Mm_charge103F hI m hw.2 hf).mono (by decide) (by decide) (fun o w1 h => ⟨h.1, h.2.2, u, rfl, ⟨s, hv, h.2.1⟩⟩)
      · by_cases hg : 3000 < (t.1 63).1 0 + m
        · have eT : (tK_Mm_charge 103 m t) = t := by unfold tK_Mm_charge; rw [if_pos hw, if_neg (show ¬ ((103 : Int32) = 112) by decide), if_neg (show ¬ ((103 : Int32) = 115) by decide), if_neg (show ¬ ((103 : Int32) = 102) by decide), if_neg (show ¬ ((103 : Int32) = 107) by decide), if_pos (rfl : (103 : Int32) = 103), if_neg hf, if_pos hg]
          have eV : (vK_Mm_charge ad 103 m t) = (3, 0) := by unfold vK_Mm_charge; rw [if_pos hw, if_neg (show ¬ ((103 : Int32) = 112) by decide), if_neg (show ¬ ((103 : Int32) = 115) by decide), if_neg (show ¬ ((103 : Int32) = 102) by decide), if_neg (show ¬ ((103 : Int32) = 107) by decide), if_pos (rfl : (103 : Int32) = 103), if_neg hf, if_pos hg]
          rw [eT, eV]
          exact (Qt_Mm_charge103G9 hI m hw.2 hf hg).mono (by decide) (by decide) (fun o w1 h => ⟨h.1, h.2.2, u, rfl, ⟨s, hv, h.2.1⟩⟩)
        · have eT : (tK_Mm_charge 103 m t) = (zup t.1 [(63, (mvN ((t.1 63).1) 2 0 m, (t.1 63).2)), (64, ((t.1 64).1, mvR ((t.1 64).2.1) 2 0 m (((t.1 63).1) 2) 4, (t.1 64).2.2))], t.2) := by unfold tK_Mm_charge; rw [if_pos hw, if_neg (show ¬ ((103 : Int32) = 112) by decide), if_neg (show ¬ ((103 : Int32) = 115) by decide), if_neg (show ¬ ((103 : Int32) = 102) by decide), if_neg (show ¬ ((103 : Int32) = 107) by decide), if_pos (rfl : (103 : Int32) = 103), if_neg hf, if_neg hg]
          have eV : (vK_Mm_charge ad 103 m t) = (0, (mvN ((t.1 63).1) 2 0 m 0)) := by unfold vK_Mm_charge; rw [if_pos hw, if_neg (show ¬ ((103 : Int32) = 112) by decide), if_neg (show ¬ ((103 : Int32) = 115) by decide), if_neg (show ¬ ((103 : Int32) = 102) by decide), if_neg (show ¬ ((103 : Int32) = 107) by decide), if_pos (rfl : (103 : Int32) = 103), if_neg hf, if_neg hg]
          rw [eT, eV]
          exact (Qt_Mm_charge103N9 hI m hw.2 hf hg).mono (by decide) (by decide) (fun o w1 h => ⟨h.1, h.2.2, u, rfl, IVo.zu h.2.1 hv⟩)
    · by_cases hf : (t.1 63).1 3 < m
      · have eT : (tK_Mm_charge 100 m t) = t := by unfold tK_Mm_charge; rw [if_pos hw, if_neg (show ¬ ((100 : Int32) = 112) by decide), if_neg (show ¬ ((100 : Int32) = 115) by decide), if_neg (show ¬ ((100 : Int32) = 102) by decide), if_neg (show ¬ ((100 : Int32) = 107) by decide), if_neg (show ¬ ((100 : Int32) = 103) by decide), if_pos hf]
        have eV : (vK_Mm_charge ad 100 m t) = (2, 0) := by unfold vK_Mm_charge; rw [if_pos hw, if_neg (show ¬ ((100 : Int32) = 112) by decide), if_neg (show ¬ ((100 : Int32) = 115) by decide), if_neg (show ¬ ((100 : Int32) = 102) by decide), if_neg (show ¬ ((100 : Int32) = 107) by decide), if_neg (show ¬ ((100 : Int32) = 103) by decide), if_pos hf]
        rw [eT, eV]
        exact (Qt_Mm_charge100F hI m hw.2 hf).mono (by decide) (by decide) (fun o w1 h => ⟨h.1, h.2.2, u, rfl, ⟨s, hv, h.2.1⟩⟩)
      · by_cases hg : 3000 < (t.1 63).1 0 + m
        · have eT : (tK_Mm_charge 100 m t) = t := by unfold tK_Mm_charge; rw [if_pos hw, if_neg (show ¬ ((100 : Int32) = 112) by decide), if_neg (show ¬ ((100 : Int32) = 115) by decide), if_neg (show ¬ ((100 : Int32) = 102) by decide), if_neg (show ¬ ((100 : Int32) = 107) by decide), if_neg (show ¬ ((100 : Int32) = 103) by decide), if_neg hf, if_pos hg]
          have eV : (vK_Mm_charge ad 100 m t) = (3, 0) := by unfold vK_Mm_charge; rw [if_pos hw, if_neg (show ¬ ((100 : Int32) = 112) by decide), if_neg (show ¬ ((100 : Int32) = 115) by decide), if_neg (show ¬ ((100 : Int32) = 102) by decide), if_neg (show ¬ ((100 : Int32) = 107) by decide), if_neg (show ¬ ((100 : Int32) = 103) by decide), if_neg hf, if_pos hg]
          rw [eT, eV]
          exact (Qt_Mm_charge100G9 hI m hw.2 hf hg).mono (by decide) (by decide) (fun o w1 h => ⟨h.1, h.2.2, u, rfl, ⟨s, hv, h.2.1⟩⟩)
        · have eT : (tK_Mm_charge 100 m t) = (zup t.1 [(63, (mvN ((t.1 63).1) 3 0 m, (t.1 63).2)), (64, ((t.1 64).1, mvR ((t.1 64).2.1) 3 0 m (((t.1 63).1) 3) 4, (t.1 64).2.2))], t.2) := by unfold tK_Mm_charge; rw [if_pos hw, if_neg (show ¬ ((100 : Int32) = 112) by decide), if_neg (show ¬ ((100 : Int32) = 115) by decide), if_neg (show ¬ ((100 : Int32) = 102) by decide), if_neg (show ¬ ((100 : Int32) = 107) by decide), if_neg (show ¬ ((100 : Int32) = 103) by decide), if_neg hf, if_neg hg]
          have eV : (vK_Mm_charge ad 100 m t) = (0, (mvN ((t.1 63).1) 3 0 m 0)) := by unfold vK_Mm_charge; rw [if_pos hw, if_neg (show ¬ ((100 : Int32) = 112) by decide), if_neg (show ¬ ((100 : Int32) = 115) by decide), if_neg (show ¬ ((100 : Int32) = 102) by decide), if_neg (show ¬ ((100 : Int32) = 107) by decide), if_neg (show ¬ ((100 : Int32) = 103) by decide), if_neg hf, if_neg hg]
          rw [eT, eV]
          exact (Qt_Mm_charge100N9 hI m hw.2 hf hg).mono (by decide) (by decide) (fun o w1 h => ⟨h.1, h.2.2, u, rfl, IVo.zu h.2.1 hv⟩)
  · have eT : (tK_Mm_charge k m t) = t := by unfold tK_Mm_charge; rw [if_neg hw]
    have eV : (vK_Mm_charge ad k m t) = (1, 0) := by unfold vK_Mm_charge; rw [if_neg hw]
    rw [eT, eV]
    exact (Qt_Mm_chargeE hI k m hw).mono (by decide) (by decide) (fun o w1 h => ⟨h.1, h.2.2, u, rfl, ⟨s, hv, h.2.1⟩⟩)
theorem tI_charge_63 {t : zTT} (k m : Int32) : (tK_Ip_charge k m t).1 63 = t.1 63 := by
  unfold tK_Ip_charge
  repeat' split
  all_goals rfl
theorem V_charge {ad : Nat → Nat} {t : zTT} {n : Nat → Nat} {b : Nat} (k m : Int32) (h : REL t n b) : (vK_Ip_charge ad k m t).1 = (vK_Mm_charge ad k m (tK_Ip_charge k m t)).1 ∧ ((vK_Ip_charge ad k m t).1 = 0 → (vK_Ip_charge ad k m t).2 = (vK_Mm_charge ad k m (tK_Ip_charge k m t)).2) := by
  unfold vK_Ip_charge vK_Mm_charge
  rw [tI_charge_63, mvN_to (fr := 2) (by decide), mvN_to (fr := 3) (by decide), ← h.ir.1.1, ← h.ir.1.2.2.1, ← h.ir.1.2.2.2, if_neg (fb_no h.fb h.ir.1.1)]
  exact ⟨rfl, fun _ => rfl⟩
