theorem IV.ti {g : zG} {ad : Nat → Nat} {t : zTT} {u : zNN} {w : zW} (hI : IV g ad t u w) : TIX (XTt t) (t.1 2).1 := hI.2.2.2.2.2.2
theorem flT_fi {X : zTr} : (flT X).1.2.1 = flP X.1.1 X.1.2.1 X.1.2.2.1 := by simp only [flT]
theorem TIX_fi {X : zTr} {P : Nat → Int32} (h : TIX X P) {c : Nat} (hc : c < 108) : (flT X).1.2.1 c = fiO P c := by
  rw [flT_fi]
  exact TIX_f2 h c hc
theorem TIX_fz {X : zTr} {P : Nat → Int32} {hh : Int32} (h : TIX X P) (h0 : ¬ hh = 0) {c : Nat} (hc : c < 108) : (frT hh X).2.1.1.1.2.2.1 c = frO P hh c := (TIX_at h h0).2.2.1 c hc
theorem TIX_fd {X : zTr} {P : Nat → Int32} {hh : Int32} (h : TIX X P) (h0 : ¬ hh = 0) {c : Nat} (hc : c < 108) : (frT hh X).2.2.1 c = fdO P hh c := (TIX_at h h0).2.2.2 c hc
theorem TIX_01 {X : zTr} {P : Nat → Int32} {hh : Int32} (h : TIX X P) (h0 : ¬ hh = 0) {c : Nat} (hc : c < 108) : (frT hh X).2.2.1 c = 0 ∨ (frT hh X).2.2.1 c = 1 := by
  rw [TIX_fd h h0 hc]
  exact (fdO_ok P hh).1 c hc
theorem TIX_sh {X : zTr} {P : Nat → Int32} {hh : Int32} (h : TIX X P) (h0 : ¬ hh = 0) : shN (frT hh X) = shO P hh := by
  obtain ⟨a, b, c, d⟩ := TIX_at h h0
  unfold shN
  exact sc_sh a b d
theorem TIX_an {X : zTr} {P : Nat → Int32} {hh : Int32} (h : TIX X P) (h0 : ¬ hh = 0) : (cwX (frT hh X)).2.2 = anO P hh := by
  obtain ⟨a, b, c, d⟩ := TIX_at h h0
  unfold cwX
  exact cw_an a b c rfl
theorem h_n0 {h : Int32} (hh : 1200 ≤ h ∧ h ≤ 1500) : ¬ h = 0 := fun e => by
  rw [e] at hh
  exact absurd hh.1 (by decide)
def Wd (g : zG) (ad : Nat → Nat) (t0 : zTT) (u : zNN) (f : Nat → Int32) (p : Nat) (w : zW) : Prop := ∃ t, IV g ad t u w ∧ (t.1 2).1 = f ∧ (t.1 1).2.2 0 = p ∧ (∀ i, 31 ≤ i → t.1 i = t0.1 i) ∧ t.2 = t0.2
theorem zup_ho {f : Nat → zP2} {l : List (Nat × zP2)} (hl : (l.map Prod.fst).all (fun i => decide (3 ≤ i ∧ i < 31)) = true) (i : Nat) (hi : i < 3 ∨ 31 ≤ i) : zup f l i = f i := zup_out (fun q => by
  have h := of_decide_eq_true (List.all_eq_true.mp hl i q)
  omega)
theorem Wd.z {g : zG} {ad : Nat → Nat} {t t0 : zTT} {u : zNN} {w1 : zW} {l : List (Nat × zP2)} (hI : IV g ad (zup t.1 l, t.2) u w1) (e3 : ∀ i, 31 ≤ i → t.1 i = t0.1 i) (e4 : t.2 = t0.2) (hl : (l.map Prod.fst).all (fun i => decide (3 ≤ i ∧ i < 31)) = true) : Wd g ad t0 u (t.1 2).1 ((t.1 1).2.2 0) w1 :=
  ⟨_, hI, by show (zup t.1 l 2).1 = _; rw [zup_ho hl 2 (Or.inl (by decide))], by show (zup t.1 l 1).2.2 0 = _; rw [zup_ho hl 1 (Or.inl (by decide))], fun i hi => by show zup t.1 l i = t0.1 i; rw [zup_ho hl i (Or.inr hi)]; exact e3 i hi, e4⟩
theorem Wd.d {g : zG} {ad : Nat → Nat} {t t0 : zTT} {u : zNN} {w1 : zW} {l : List (Nat × zP2)} {a : zP2} (hI : IV g ad (zup t.1 ((2, a) :: l), t.2) u w1) (e3 : ∀ i, 31 ≤ i → t.1 i = t0.1 i) (e4 : t.2 = t0.2) (hl : (l.map Prod.fst).all (fun i => decide (3 ≤ i ∧ i < 31)) = true) : Wd g ad t0 u a.1 ((t.1 1).2.2 0) w1 :=
  ⟨_, hI, rfl, by show (zup t.1 l 1).2.2 0 = _; rw [zup_ho hl 1 (Or.inl (by decide))], fun i hi => by show (if i = 2 then a else zup t.1 l i) = t0.1 i; rw [if_neg (by omega), zup_ho hl i (Or.inr hi)]; exact e3 i hi, e4⟩
theorem Wd.ra {g : zG} {ad : Nat → Nat} {t0 : zTT} {u : zNN} {f : Nat → Int32} {p : Nat} {w : zW} (h : Wd g ad t0 u f p w) : ∃ fs : List Value, w (ad 0) = some (.inr (11, fs)) := by
  obtain ⟨t, hI, -⟩ := h
  obtain ⟨e, h1, k⟩ := hI.1.2 0 (by decide)
  obtain rfl := kd_0.mp k
  exact ⟨_, h1⟩
theorem Wd.ch {g : zG} {ad : Nat → Nat} {t0 : zTT} {u : zNN} {f : Nat → Int32} {p : Nat} {w : zW} (h : Wd g ad t0 u f p w) : z_ch f := by
  obtain ⟨t, hI, rfl, -⟩ := h
  exact hI.2.2.1
theorem Wd.pt {g : zG} {ad : Nat → Nat} {t0 : zTT} {u : zNN} {f : Nat → Int32} {p : Nat} {w : zW} (h : Wd g ad t0 u f p w) : 1 ≤ p ∧ p < 9 := by
  obtain ⟨t, hI, -, rfl, -⟩ := h
  exact hI.2.2.2.2.1
section
variable {g : zG} {ad : Nat → Nat} {t0 : zTT} {u : zNN} {f : Nat → Int32} {p : Nat} {w : zW} (hW : Wd g ad t0 u f p w)
theorem G_cell {x y : Nat} (hW : Wd g ad t0 u f p w) (hx : x < 12) (hy : y < 9) : zMB g M_Ip_cell [.ref (ad 0), .int (nI x), .int (nI y)] w (fun o w1 => o = .inl (some (.int (f (12 * y + x)))) ∧ w1 = w) 1 6 := by
  obtain ⟨t, hI, rfl, rfl, e3, e4⟩ := hW
  exact Qx_Ip_cellN hI (nI x) (nI y) (12 * y + x) (cl_in hx hy)
theorem G_filledIn {x y : Nat} (hW : Wd g ad t0 u f p w) (hx : x < 12) (hy : y < 9) : zMB g M_Ip_filledIn [.ref (ad 0), .int (nI x), .int (nI y)] w (fun o w1 => o = .inl (some (.int (fiO f (12 * y + x)))) ∧ Wd g ad t0 u f p w1 ∧ z_kf ad w w1) 1 6 := by
  obtain ⟨t, hI, rfl, rfl, e3, e4⟩ := hW
  refine (Qx_Ip_filledInN hI (nI x) (nI y) (12 * y + x) (cl_in hx hy)).mono (Nat.le_refl _) (Nat.le_refl _) (fun o w1 h => ?_)
  obtain ⟨h1, h2, h3⟩ := h
  exact ⟨h1.trans (congrArg (fun z : Int32 => (.inl (some (.int z)) : zO)) (TIX_fi hI.ti (by omega))), Wd.z (t := t) h2 e3 e4 rfl, h3⟩
theorem G_frozenIn {x y : Nat} {h : Int32} (hW : Wd g ad t0 u f p w) (hx : x < 12) (hy : y < 9) (hh : 1200 ≤ h ∧ h ≤ 1500) : zMB g M_Ip_frozenIn [.ref (ad 0), .int (nI x), .int (nI y), .int h] w (fun o w1 => o = .inl (some (.int (frO f h (12 * y + x)))) ∧ Wd g ad t0 u f p w1 ∧ z_kf ad w w1) 2 12 := by
  obtain ⟨t, hI, rfl, rfl, e3, e4⟩ := hW
  refine (Qx_Ip_frozenInN hI (nI x) (nI y) h (12 * y + x) (cl_in hx hy) hh).mono (by decide) (by decide) (fun o w1 k => ?_)
  obtain ⟨h1, h2, h3⟩ := k
  exact ⟨h1.trans (congrArg (fun z : Int32 => (.inl (some (.int z)) : zO)) (TIX_fz hI.ti (h_n0 hh) (by omega))), Wd.z (t := t) h2 e3 e4 rfl, h3⟩
theorem G_isFed {x y : Nat} {h : Int32} (hW : Wd g ad t0 u f p w) (hx : x < 12) (hy : y < 9) (hh : 1200 ≤ h ∧ h ≤ 1500) : zMB g M_Ip_isFed [.ref (ad 0), .int (nI x), .int (nI y), .int h] w (fun o w1 => o = .inl (some (.int (fdO f h (12 * y + x)))) ∧ Wd g ad t0 u f p w1 ∧ z_kf ad w w1) 2 12 := by
  obtain ⟨t, hI, rfl, rfl, e3, e4⟩ := hW
  refine (Qx_Ip_isFedN hI (nI x) (nI y) h (12 * y + x) (cl_in hx hy) hh (TIX_01 hI.ti (h_n0 hh) (by omega))).mono (by decide) (by decide) (fun o w1 k => ?_)
  obtain ⟨h1, h2, h3⟩ := k
  exact ⟨h1.trans (congrArg (fun z : Int32 => (.inl (some (.int z)) : zO)) (TIX_fd hI.ti (h_n0 hh) (by omega))), Wd.z (t := t) h2 e3 e4 rfl, h3⟩
theorem G_shrunk {h : Int32} (hW : Wd g ad t0 u f p w) (hh : 1200 ≤ h ∧ h ≤ 1500) : zMB g M_Ip_shrunk [.ref (ad 0), .int h] w (fun o w1 => o = .inl (some (.int (nI (shO f h)))) ∧ Wd g ad t0 u f p w1 ∧ z_kf ad w w1) 1 6 := by
  obtain ⟨t, hI, rfl, rfl, e3, e4⟩ := hW
  refine (Qx_Ip_shrunkN hI h hh).mono (by decide) (by decide) (fun o w1 k => ?_)
  obtain ⟨h1, h2, h3⟩ := k
  exact ⟨h1.trans (congrArg (fun z : Nat => (.inl (some (.int (nI z))) : zO)) (TIX_sh hI.ti (h_n0 hh))), Wd.z (t := t) h2 e3 e4 rfl, h3⟩
theorem G_shrunkAnew {h : Int32} (hW : Wd g ad t0 u f p w) (hh : 1200 ≤ h ∧ h ≤ 1500) : zMB g M_Ip_shrunkAnew [.ref (ad 0), .int h] w (fun o w1 => o = .inl (some (.int (nI (anO f h)))) ∧ Wd g ad t0 u f p w1 ∧ z_kf ad w w1) 1 6 := by
  obtain ⟨t, hI, rfl, rfl, e3, e4⟩ := hW
  refine (Qx_Ip_shrunkAnewN hI h hh).mono (by decide) (by decide) (fun o w1 k => ?_)
  obtain ⟨h1, h2, h3⟩ := k
  exact ⟨h1.trans (congrArg (fun z : Nat => (.inl (some (.int (nI z))) : zO)) (TIX_an hI.ti (h_n0 hh))), Wd.z (t := t) h2 e3 e4 rfl, h3⟩
theorem G_undercut (hW : Wd g ad t0 u f p w) : zMB g M_Ip_undercut [.ref (ad 0)] w (fun o w1 => o = .inl (some (.int (nI (ucT f p 12)))) ∧ Wd g ad t0 u f p w1) 0 0 := by
  obtain ⟨t, hI, rfl, rfl, e3, e4⟩ := hW
  exact (Qx_Ip_undercut hI).mono (Nat.le_refl _) (Nat.le_refl _) (fun o w1 k => ⟨k.1, t, k.2.1, rfl, rfl, e3, e4⟩)
theorem G_loose (hW : Wd g ad t0 u f p w) : zMB g M_Ip_loose [.ref (ad 0)] w (fun o w1 => o = .inl (some (.int (nI (loN f)))) ∧ Wd g ad t0 u f p w1) 0 0 := by
  obtain ⟨t, hI, rfl, rfl, e3, e4⟩ := hW
  exact (Qx_Ip_loose hI).mono (Nat.le_refl _) (Nat.le_refl _) (fun o w1 k => ⟨k.1, t, k.2.1, rfl, rfl, e3, e4⟩)
theorem G_cores (hW : Wd g ad t0 u f p w) : zMB g M_Ip_cores [.ref (ad 0)] w (fun o w1 => o = .inl (some (.int (nI (coN f)))) ∧ Wd g ad t0 u f p w1) 0 0 := by
  obtain ⟨t, hI, rfl, rfl, e3, e4⟩ := hW
  exact (Qx_Ip_cores hI).mono (Nat.le_refl _) (Nat.le_refl _) (fun o w1 k => ⟨k.1, t, k.2.1, rfl, rfl, e3, e4⟩)
theorem G_part {r : Nat} (hW : Wd g ad t0 u f p w) (h1 : 1 ≤ r) (h2 : r < 9) : zMB g M_Ip_part [.ref (ad 0), .int (nI r)] w (fun o w1 => (∃ i : Int32, o = .inl (some (.int i))) ∧ Wd g ad t0 u f r w1) 1 6 := by
  obtain ⟨t, hI, rfl, rfl, e3, e4⟩ := hW
  exact (Qx_Ip_partN hI r h1 h2 (fun q => q.elim (fun q1 => absurd q1 (nI_nlt (a := r) (b := 1) h1 (by omega))) (fun q1 => absurd ((nI_leI (a := 9) (b := r) (by decide) (by omega)).mp q1) (by omega)))).mono (by decide) (by decide) (fun o w1 k => ⟨⟨_, k.1⟩, _, k.2.1, rfl, rfl, fun i hi => (if_neg (show ¬ i = 1 by omega)).trans (e3 i hi), e4⟩)
theorem pr_11 {k : Int32} {f : Nat → Int32} {x y : Nat} (h : ¬ f (12 * y + x) = k) : prect k x y 1 (f, 0) 1 = (upd f (12 * y + x) k, 1) := by
  show pc1 k (f, 0) (12 * y + x) = _
  unfold pc1
  exact if_neg h
theorem G_draw1 {k : Int32} {x y : Nat} (hW : Wd g ad t0 u f p w) (hk : z_kind k) (hki : 0 ≤ z_ix 0 k) (hx : x < 12) (hy : y < 9) (hne : ¬ f (12 * y + x) = k) : zMB g M_Ip_draw [.ref (ad 0), .int k, .int (nI x), .int (nI y), .int 1, .int 1] w (fun o w1 => o = .inl (some (.int 1)) ∧ Wd g ad t0 u (upd f (12 * y + x) k) p w1) 1 6 := by
  obtain ⟨t, hI, rfl, rfl, e3, e4⟩ := hW
  have ep := pr_11 (k := k) (x := x) (y := y) hne
  refine (Qx_Ip_drawN hI k hk hki x y 1 1 (by omega) (by omega) (Nat.le_refl _) (Nat.le_refl _) (by rw [ep]; exact Nat.one_ne_zero)).mono (by decide) (by decide) (fun o w1 q => ?_)
  obtain ⟨h1, h2, -⟩ := q
  refine ⟨h1.trans (congrArg (fun z : Nat => (.inl (some (.int (nI z))) : zO)) (congrArg Prod.snd ep)), ?_⟩
  have h3 := Wd.d (t := t) (t0 := t0) h2 e3 e4 rfl
  have e9 : (prect k x y 1 ((t.1 2).1, 0) 1).1 = upd (t.1 2).1 (12 * y + x) k := congrArg Prod.fst ep
  rw [← e9]
  exact h3
theorem G_draw (hW : Wd g ad t0 u f p w) (k x y v q : Int32) : zMB g M_Ip_draw [.ref (ad 0), .int k, .int x, .int y, .int v, .int q] w (fun o w1 => ((∃ i : Int32, o = .inl (some (.int i))) ∨ o = .inr "java/lang/IllegalArgumentException") ∧ ∃ f2, Wd g ad t0 u f2 p w1) 1 6 := by
  obtain ⟨t, hI, rfl, rfl, e3, e4⟩ := hW
  by_cases hd : 0 ≤ z_ix 0 k ∧ (0 ≤ x ∧ x < 12 ∧ 0 ≤ y ∧ y < 9) ∧ 1 ≤ v ∧ v ≤ 12 - x ∧ 1 ≤ q ∧ q ≤ 9 - y
  · obtain ⟨a9, b9, c9, d9, h1, h2, -, -, rfl, rfl, rfl, rfl, hk, -⟩ := z_dr_in hd
    have hp : 1 ≤ c9 := z_1n hd.2.2.1 (by omega)
    have hq : 1 ≤ d9 := z_1n hd.2.2.2.2.1 (by omega)
    by_cases hz : (prect k a9 b9 c9 ((t.1 2).1, 0) d9).2 = 0
    · exact (Qx_Ip_drawZ hI k hk hd.1 a9 b9 c9 d9 h1 h2 hp hq hz).mono (by decide) (by decide) (fun o w1 z => ⟨Or.inl ⟨_, z.1⟩, _, Wd.d (t := t) z.2.1 e3 e4 rfl⟩)
    · exact (Qx_Ip_drawN hI k hk hd.1 a9 b9 c9 d9 h1 h2 hp hq hz).mono (by decide) (by decide) (fun o w1 z => ⟨Or.inl ⟨_, z.1⟩, _, Wd.d (t := t) z.2.1 e3 e4 rfl⟩)
  · exact (Qx_Ip_drawE hI k x y v q hd).mono (by decide) (by decide) (fun o w1 z => by
      obtain ⟨z1, z2⟩ := z
      subst z2
      exact ⟨Or.inr z1, _, t, hI, rfl, rfl, e3, e4⟩)
end
