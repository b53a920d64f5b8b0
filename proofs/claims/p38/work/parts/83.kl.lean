section
def zX0 : zTr := ((fun _ => 0, fun _ => 0, 0, 0), (((fun _ => 0, fun _ => 0, fun _ => 0, 0), fun _ => 0), fun _ => 0, fun _ => 0), (fun _ => 0, fun _ => 0, fun _ => 0))
abbrev zSC : Type := (Nat → Int32) × (Nat → Int32) × (Nat → Int32) × (Nat → Int32) × (Nat → Int32) × (Nat → Int32) × (Nat → Nat)
def zS0 : zSC := (fun _ => 0, fun _ => 0, fun _ => 0, fun _ => 0, fun _ => 0, fun _ => 0, fun _ => 0)
def pShS (t : zTT) (S : zSC) : Int32 := pSh t S.1 S.2.1 S.2.2.1 S.2.2.2.1 S.2.2.2.2.1 S.2.2.2.2.2.1 S.2.2.2.2.2.2
def pFbS (t : zTT) (S : zSC) : Int32 := pFb t S.1 S.2.1 S.2.2.1 S.2.2.2.1 S.2.2.2.2.1 S.2.2.2.2.2.1 S.2.2.2.2.2.2
set_option maxHeartbeats 4000000 in
theorem Qx_Ip_mouldE {g : zG} {ad : Nat → Nat} {t : zTT} {u : zNN} {w : zW} (hI : IV g ad t u w) (hE : fa_cnt (fun k => decide (((t.1 2).1) k = 103)) 12 = 0 ∨ anB (fun k => decide (((t.1 2).1) k = 99)) 108 = false) : zMB g M_Ip_mould [.ref (ad 0)] w (fun o w1 => o = .inr "java/util/NoSuchElementException" ∧ IV g ad t u w1) 1 6 := by
  obtain ⟨e_a, w_a, k_a⟩ := hI.1.2 0 (by decide)
  obtain rfl := kd_0.mp k_a
  obtain ⟨e_pa, w_pa, k_pa⟩ := hI.1.2 1 (by decide)
  obtain rfl := kd_1.mp k_pa
  obtain ⟨e_pa1, w_pa1, k_pa1⟩ := hI.1.2 2 (by decide)
  obtain rfl := kd_2.mp k_pa1
  obtain ⟨e_pa2, w_pa2, k_pa2⟩ := hI.1.2 3 (by decide)
  obtain ⟨v_pa2_f, rfl⟩ := kd_3.mp k_pa2
  obtain ⟨e_pa3, w_pa3, k_pa3⟩ := hI.1.2 4 (by decide)
  obtain ⟨v_pa3_h, rfl⟩ := kd_4.mp k_pa3
  refine ((C_Ip_mouldE g (ad 0) (ad 1) (ad 5) (ad 18) (ad 31) (ad 32) (ad 36) (ad 42) (ad 45) (ad 47) (ad 49) (ad 50) (ad 51) (ad 2) (ad 3) (ad 4) ((t.1 2).1) v_pa2_f v_pa3_h ((t.1 1).2.2 0) hE).at (hI.1.I [0, 1, 2, 3, 4] _ rfl (by decide) (by decide) (List.forall_mem_cons.mpr ⟨w_a, (List.forall_mem_cons.mpr ⟨w_pa, (List.forall_mem_cons.mpr ⟨w_pa1, (List.forall_mem_cons.mpr ⟨w_pa2, (List.forall_mem_cons.mpr ⟨w_pa3, (fun _ h => nomatch h)⟩)⟩)⟩)⟩)⟩))).mono (Nat.le_of_ble_eq_true rfl) (Nat.le_of_ble_eq_true rfl) (fun o w1 hp => ?_)
  obtain ⟨cs1, hp, hi9⟩ := hp
  obtain ⟨e1, e2⟩ := hp
  subst e1; subst e2
  exact ⟨rfl, hI.fix (t2 := t) (is := [0, 1, 2, 3, 4]) hi9 rfl ⟨kd_0.mpr rfl, kd_1.mpr rfl, kd_2.mpr rfl, kd_3.mpr ⟨_, rfl⟩, kd_4.mpr ⟨_, rfl⟩, trivial⟩ (by decide) (by decide) (fun _ _ _ => rfl) (fun h => h) rfl⟩
theorem K_Ip_alloy {g : zG} {ad : Nat → Nat} {t : zTT} {u : zNN} {w : zW} (hI : IVm g ad t u w) (x : Int32) : zMB g M_Ip_alloy [.ref (ad 0), .int x] w (fun o w1 => CKx g ad t u.1 ["java/lang/IndexOutOfBoundsException"] o w1) 10 300 := by
  obtain ⟨s, hI⟩ := hI
  by_cases hx : x.toNatClampNeg < u.1 1 ∧ x = nI x.toNatClampNeg
  · obtain ⟨k, hk, rfl⟩ : ∃ k, k < u.1 1 ∧ x = nI k := ⟨_, hx⟩
    have h33 := hI.n5 1 (by decide)
    have ek : (nI k).toNatClampNeg = k := nI_clamp (by omega)
    exact (Q_Ip_alloyN hI k hk).mono (by decide) (by decide) (fun o w1 h => ⟨h.1.sub (by simp), u, rfl, ⟨_, h.2⟩⟩)
  · have hx9 : ¬ ∃ k, k < u.1 1 ∧ x = nI k := fun ⟨k, hk, e⟩ => hx (by have h33 := hI.n5 1 (by decide); subst e; rw [nI_clamp (by omega)]; exact ⟨hk, rfl⟩)
    exact (Q_Ip_alloyE hI x hx9).mono (by decide) (by decide) (fun o w1 h => ⟨h.1.sub (by simp), u, rfl, ⟨_, h.2⟩⟩)
theorem K_Ip_faults {g : zG} {ad : Nat → Nat} {t : zTT} {u : zNN} {w : zW} (hI : IVm g ad t u w) (x : Int32) : zMB g M_Ip_faults [.ref (ad 0), .int x] w (fun o w1 => CKx g ad t u.1 ["java/lang/IndexOutOfBoundsException"] o w1) 10 300 := by
  obtain ⟨s, hI⟩ := hI
  by_cases hx : x.toNatClampNeg < u.1 1 ∧ x = nI x.toNatClampNeg
  · obtain ⟨k, hk, rfl⟩ : ∃ k, k < u.1 1 ∧ x = nI k := ⟨_, hx⟩
    have h33 := hI.n5 1 (by decide)
    have ek : (nI k).toNatClampNeg = k := nI_clamp (by omega)
    exact (Q_Ip_faultsN hI k hk).mono (by decide) (by decide) (fun o w1 h => ⟨h.1.sub (by simp), u, rfl, ⟨_, h.2⟩⟩)
  · have hx9 : ¬ ∃ k, k < u.1 1 ∧ x = nI k := fun ⟨k, hk, e⟩ => hx (by have h33 := hI.n5 1 (by decide); subst e; rw [nI_clamp (by omega)]; exact ⟨hk, rfl⟩)
    exact (Q_Ip_faultsE hI x hx9).mono (by decide) (by decide) (fun o w1 h => ⟨h.1.sub (by simp), u, rfl, ⟨_, h.2⟩⟩)
theorem K_Ip_shrunkIn {g : zG} {ad : Nat → Nat} {t : zTT} {u : zNN} {w : zW} (hI : IVm g ad t u w) (x : Int32) : zMB g M_Ip_shrunkIn [.ref (ad 0), .int x] w (fun o w1 => CKx g ad t u.1 ["java/lang/IndexOutOfBoundsException"] o w1) 10 300 := by
  obtain ⟨s, hI⟩ := hI
  by_cases hx : x.toNatClampNeg < u.1 1 ∧ x = nI x.toNatClampNeg
  · obtain ⟨k, hk, rfl⟩ : ∃ k, k < u.1 1 ∧ x = nI k := ⟨_, hx⟩
    have h33 := hI.n5 1 (by decide)
    have ek : (nI k).toNatClampNeg = k := nI_clamp (by omega)
    exact (Q_Ip_shrunkInN hI k hk).mono (by decide) (by decide) (fun o w1 h => ⟨h.1.sub (by simp), u, rfl, ⟨_, h.2⟩⟩)
  · have hx9 : ¬ ∃ k, k < u.1 1 ∧ x = nI k := fun ⟨k, hk, e⟩ => hx (by have h33 := hI.n5 1 (by decide); subst e; rw [nI_clamp (by omega)]; exact ⟨hk, rfl⟩)
    exact (Q_Ip_shrunkInE hI x hx9).mono (by decide) (by decide) (fun o w1 h => ⟨h.1.sub (by simp), u, rfl, ⟨_, h.2⟩⟩)
theorem K_Ip_bar {g : zG} {ad : Nat → Nat} {t : zTT} {u : zNN} {w : zW} (hI : IVm g ad t u w) (x : Int32) : zMB g M_Ip_bar [.ref (ad 0), .int x] w (fun o w1 => CKx g ad t u.1 ["java/lang/IndexOutOfBoundsException"] o w1) 10 300 := by
  obtain ⟨s, hI⟩ := hI
  by_cases hx : x.toNatClampNeg < u.1 1 ∧ x = nI x.toNatClampNeg
  · obtain ⟨k, hk, rfl⟩ : ∃ k, k < u.1 1 ∧ x = nI k := ⟨_, hx⟩
    have h33 := hI.n5 1 (by decide)
    have ek : (nI k).toNatClampNeg = k := nI_clamp (by omega)
    exact (Q_Ip_barN hI k hk).mono (by decide) (by decide) (fun o w1 h => ⟨h.1.sub (by simp), u, rfl, ⟨_, h.2⟩⟩)
  · have hx9 : ¬ ∃ k, k < u.1 1 ∧ x = nI k := fun ⟨k, hk, e⟩ => hx (by have h33 := hI.n5 1 (by decide); subst e; rw [nI_clamp (by omega)]; exact ⟨hk, rfl⟩)
    exact (Q_Ip_barE hI x hx9).mono (by decide) (by decide) (fun o w1 h => ⟨h.1.sub (by simp), u, rfl, ⟨_, h.2⟩⟩)
theorem K_Ip_has {g : zG} {ad : Nat → Nat} {t : zTT} {u : zNN} {w : zW} (hI : IVm g ad t u w) (x c : Int32) : zMB g M_Ip_has [.ref (ad 0), .int x, .int c] w (fun o w1 => CKx g ad t u.1 ["java/lang/IndexOutOfBoundsException", "java/lang/IllegalArgumentException"] o w1) 10 300 := by
  obtain ⟨s, hI⟩ := hI
  by_cases hx : x.toNatClampNeg < u.1 1 ∧ x = nI x.toNatClampNeg
  · obtain ⟨k, hk, rfl⟩ : ∃ k, k < u.1 1 ∧ x = nI k := ⟨_, hx⟩
    have h33 := hI.n5 1 (by decide)
    have ek : (nI k).toNatClampNeg = k := nI_clamp (by omega)
    by_cases h2 : z_ix 2 c < 0
    · exact (Q_Ip_hasF hI k hk c h2).mono (by decide) (by decide) (fun o w1 h => ⟨h.1.sub (by simp), u, rfl, ⟨_, h.2⟩⟩)
    · obtain ⟨e9, he9, h3⟩ := z_ix2 h2
      exact (Q_Ip_hasN hI k hk c e9 he9 h3).mono (by decide) (by decide) (fun o w1 h => ⟨h.1.sub (by simp), u, rfl, ⟨_, h.2⟩⟩)
  · have hx9 : ¬ ∃ k, k < u.1 1 ∧ x = nI k := fun ⟨k, hk, e⟩ => hx (by have h33 := hI.n5 1 (by decide); subst e; rw [nI_clamp (by omega)]; exact ⟨hk, rfl⟩)
    exact (Q_Ip_hasE hI x hx9 c).mono (by decide) (by decide) (fun o w1 h => ⟨h.1.sub (by simp), u, rfl, ⟨_, h.2⟩⟩)
theorem K_Ip_waiting {g : zG} {ad : Nat → Nat} {t : zTT} {u : zNN} {w : zW} (hI : IVm g ad t u w) (x : Int32) : zMB g M_Ip_waiting [.ref (ad 0), .int x] w (fun o w1 => CKx g ad t u.1 ["java/util/NoSuchElementException"] o w1) 10 300 := by
  obtain ⟨s, hI⟩ := hI
  by_cases hx : x.toNatClampNeg < u.1 0 ∧ x = nI x.toNatClampNeg
  · obtain ⟨k, hk, rfl⟩ : ∃ k, k < u.1 0 ∧ x = nI k := ⟨_, hx⟩
    have h33 := hI.n5 0 (by decide)
    have ek : (nI k).toNatClampNeg = k := nI_clamp (by omega)
    exact (Q_Ip_waitingN hI k hk).mono (by decide) (by decide) (fun o w1 h => ⟨h.1.sub (by simp), u, rfl, ⟨_, h.2⟩⟩)
  · have hx9 : ¬ ∃ k, k < u.1 0 ∧ x = nI k := fun ⟨k, hk, e⟩ => hx (by have h33 := hI.n5 0 (by decide); subst e; rw [nI_clamp (by omega)]; exact ⟨hk, rfl⟩)
    exact (Q_Ip_waitingE hI x hx9).mono (by decide) (by decide) (fun o w1 h => ⟨h.1.sub (by simp), u, rfl, ⟨_, h.2⟩⟩)
theorem K_Ip_worst {g : zG} {ad : Nat → Nat} {t : zTT} {u : zNN} {w : zW} (hI : IVm g ad t u w) : zMB g M_Ip_worst [.ref (ad 0)] w (fun o w1 => CKx g ad t u.1 ["java/util/NoSuchElementException"] o w1) 10 300 := by
  obtain ⟨s, hI⟩ := hI
  exact (Q_Ip_worst hI).mono (by decide) (by decide) (fun o w1 h => ⟨h.1.sub (by simp), u, rfl, ⟨_, h.2⟩⟩)
theorem K_Ip_isSound {g : zG} {ad : Nat → Nat} {t : zTT} {u : zNN} {w : zW} (hI : IVm g ad t u w) : zMB g M_Ip_isSound [.ref (ad 0)] w (fun o w1 => CKx g ad t u.1 [] o w1) 10 300 := by
  obtain ⟨s, hI⟩ := hI
  exact (Qx_Ip_isSound hI).mono (by decide) (by decide) (fun o w1 h => ⟨h.1.sub (by simp), u, rfl, IVm.mm h.2⟩)
theorem K_Ip_bestFeeder {g : zG} {ad : Nat → Nat} {t : zTT} {u : zNN} {w : zW} (hI : IVm g ad t u w) (h : Int32) : zMB g M_Ip_bestFeeder [.ref (ad 0), .int h] w (fun o w1 => CKx g ad t u.1 ["java/lang/IllegalArgumentException", "java/util/NoSuchElementException"] o w1) 10 300 := by
  obtain ⟨s, hI⟩ := hI
  by_cases hh : 1200 ≤ h ∧ h ≤ 1500
  · exact (Qx_Ip_bestFeederN hI h hh).mono (by decide) (by decide) (fun o w1 h => ⟨h.1.sub (by simp), u, rfl, IVm.mm h.2⟩)
  · exact (Q_Ip_bestFeederE hI h hh).mono (by decide) (by decide) (fun o w1 h => ⟨h.1.sub (by simp), u, rfl, ⟨_, h.2⟩⟩)
theorem K_Mm_alloy {g : zG} {ad : Nat → Nat} {t : zTT} {u : zNN} {w : zW} (hI : IVm g ad t u w) (x : Int32) : zMB g M_Mm_alloy [.ref (ad 52), .int x] w (fun o w1 => MKx g ad t u.1 o w1) 10 300 := by
  obtain ⟨s, hI⟩ := hI
  by_cases hx : x.toNatClampNeg < u.1 5 ∧ x = nI x.toNatClampNeg
  · obtain ⟨k, hk, rfl⟩ : ∃ k, k < u.1 5 ∧ x = nI k := ⟨_, hx⟩
    have h33 := hI.n5 5 (by decide)
    have ek : (nI k).toNatClampNeg = k := nI_clamp (by omega)
    exact (Q_Mm_alloyN hI k hk).mono (by decide) (by decide) (fun o w1 h => ⟨h.1, u, rfl, ⟨_, h.2⟩⟩)
  · have hx9 : ¬ ∃ k, k < u.1 5 ∧ x = nI k := fun ⟨k, hk, e⟩ => hx (by have h33 := hI.n5 5 (by decide); subst e; rw [nI_clamp (by omega)]; exact ⟨hk, rfl⟩)
    exact (Q_Mm_alloyE hI x hx9).mono (by decide) (by decide) (fun o w1 h => ⟨h.1, u, rfl, ⟨_, h.2⟩⟩)
theorem K_Mm_faults {g : zG} {ad : Nat → Nat} {t : zTT} {u : zNN} {w : zW} (hI : IVm g ad t u w) (x : Int32) : zMB g M_Mm_faults [.ref (ad 52), .int x] w (fun o w1 => MKx g ad t u.1 o w1) 10 300 := by
  obtain ⟨s, hI⟩ := hI
  by_cases hx : x.toNatClampNeg < u.1 5 ∧ x = nI x.toNatClampNeg
  · obtain ⟨k, hk, rfl⟩ : ∃ k, k < u.1 5 ∧ x = nI k := ⟨_, hx⟩
    have h33 := hI.n5 5 (by decide)
    have ek : (nI k).toNatClampNeg = k := nI_clamp (by omega)
    exact (Q_Mm_faultsN hI k hk).mono (by decide) (by decide) (fun o w1 h => ⟨h.1, u, rfl, ⟨_, h.2⟩⟩)
  · have hx9 : ¬ ∃ k, k < u.1 5 ∧ x = nI k := fun ⟨k, hk, e⟩ => hx (by have h33 := hI.n5 5 (by decide); subst e; rw [nI_clamp (by omega)]; exact ⟨hk, rfl⟩)
    exact (Q_Mm_faultsE hI x hx9).mono (by decide) (by decide) (fun o w1 h => ⟨h.1, u, rfl, ⟨_, h.2⟩⟩)
theorem K_Mm_shrunkIn {g : zG} {ad : Nat → Nat} {t : zTT} {u : zNN} {w : zW} (hI : IVm g ad t u w) (x : Int32) : zMB g M_Mm_shrunkIn [.ref (ad 52), .int x] w (fun o w1 => MKx g ad t u.1 o w1) 10 300 := by
  obtain ⟨s, hI⟩ := hI
  by_cases hx : x.toNatClampNeg < u.1 5 ∧ x = nI x.toNatClampNeg
  · obtain ⟨k, hk, rfl⟩ : ∃ k, k < u.1 5 ∧ x = nI k := ⟨_, hx⟩
    have h33 := hI.n5 5 (by decide)
    have ek : (nI k).toNatClampNeg = k := nI_clamp (by omega)
    exact (Q_Mm_shrunkInN hI k hk).mono (by decide) (by decide) (fun o w1 h => ⟨h.1, u, rfl, ⟨_, h.2⟩⟩)
  · have hx9 : ¬ ∃ k, k < u.1 5 ∧ x = nI k := fun ⟨k, hk, e⟩ => hx (by have h33 := hI.n5 5 (by decide); subst e; rw [nI_clamp (by omega)]; exact ⟨hk, rfl⟩)
    exact (Q_Mm_shrunkInE hI x hx9).mono (by decide) (by decide) (fun o w1 h => ⟨h.1, u, rfl, ⟨_, h.2⟩⟩)
theorem K_Mm_bar {g : zG} {ad : Nat → Nat} {t : zTT} {u : zNN} {w : zW} (hI : IVm g ad t u w) (x : Int32) : zMB g M_Mm_bar [.ref (ad 52), .int x] w (fun o w1 => MKx g ad t u.1 o w1) 10 300 := by
  obtain ⟨s, hI⟩ := hI
  by_cases hx : x.toNatClampNeg < u.1 5 ∧ x = nI x.toNatClampNeg
  · obtain ⟨k, hk, rfl⟩ : ∃ k, k < u.1 5 ∧ x = nI k := ⟨_, hx⟩
    have h33 := hI.n5 5 (by decide)
    have ek : (nI k).toNatClampNeg = k := nI_clamp (by omega)
    exact (Q_Mm_barN hI k hk).mono (by decide) (by decide) (fun o w1 h => ⟨h.1, u, rfl, ⟨_, h.2⟩⟩)
  · have hx9 : ¬ ∃ k, k < u.1 5 ∧ x = nI k := fun ⟨k, hk, e⟩ => hx (by have h33 := hI.n5 5 (by decide); subst e; rw [nI_clamp (by omega)]; exact ⟨hk, rfl⟩)
    exact (Q_Mm_barE hI x hx9).mono (by decide) (by decide) (fun o w1 h => ⟨h.1, u, rfl, ⟨_, h.2⟩⟩)
theorem K_Mm_has {g : zG} {ad : Nat → Nat} {t : zTT} {u : zNN} {w : zW} (hI : IVm g ad t u w) (x c : Int32) : zMB g M_Mm_has_1 [.ref (ad 52), .int x, .int c] w (fun o w1 => MKx g ad t u.1 o w1) 10 300 := by
  obtain ⟨s, hI⟩ := hI
  by_cases hx : x.toNatClampNeg < u.1 5 ∧ x = nI x.toNatClampNeg
  · obtain ⟨k, hk, rfl⟩ : ∃ k, k < u.1 5 ∧ x = nI k := ⟨_, hx⟩
    have h33 := hI.n5 5 (by decide)
    have ek : (nI k).toNatClampNeg = k := nI_clamp (by omega)
    exact (Q_Mm_hasN hI k hk c).mono (by decide) (by decide) (fun o w1 h => ⟨h.1, u, rfl, ⟨_, h.2⟩⟩)
  · have hx9 : ¬ ∃ k, k < u.1 5 ∧ x = nI k := fun ⟨k, hk, e⟩ => hx (by have h33 := hI.n5 5 (by decide); subst e; rw [nI_clamp (by omega)]; exact ⟨hk, rfl⟩)
    exact (Q_Mm_hasE hI x hx9 c).mono (by decide) (by decide) (fun o w1 h => ⟨h.1, u, rfl, ⟨_, h.2⟩⟩)
theorem K_Mm_waiting {g : zG} {ad : Nat → Nat} {t : zTT} {u : zNN} {w : zW} (hI : IVm g ad t u w) (x : Int32) : zMB g M_Mm_waiting [.ref (ad 52), .int x] w (fun o w1 => MKx g ad t u.1 o w1) 10 300 := by
  obtain ⟨s, hI⟩ := hI
  by_cases hx : x.toNatClampNeg < u.1 3 ∧ x = nI x.toNatClampNeg
  · obtain ⟨k, hk, rfl⟩ : ∃ k, k < u.1 3 ∧ x = nI k := ⟨_, hx⟩
    have h33 := hI.n5 3 (by decide)
    have ek : (nI k).toNatClampNeg = k := nI_clamp (by omega)
    exact (Q_Mm_waitingN hI k hk).mono (by decide) (by decide) (fun o w1 h => ⟨h.1, u, rfl, ⟨_, h.2⟩⟩)
  · have hx9 : ¬ ∃ k, k < u.1 3 ∧ x = nI k := fun ⟨k, hk, e⟩ => hx (by have h33 := hI.n5 3 (by decide); subst e; rw [nI_clamp (by omega)]; exact ⟨hk, rfl⟩)
    exact (Q_Mm_waitingE hI x hx9).mono (by decide) (by decide) (fun o w1 h => ⟨h.1, u, rfl, ⟨_, h.2⟩⟩)
theorem K_Mm_goodCores {g : zG} {ad : Nat → Nat} {t : zTT} {u : zNN} {w : zW} (hI : IVm g ad t u w) : zMB g M_Mm_goodCores [.ref (ad 52)] w (fun o w1 => MKx g ad t u.1 o w1) 10 300 := by
  obtain ⟨s, hI⟩ := hI
  exact (Q_Mm_goodCores hI).mono (by decide) (by decide) (fun o w1 h => ⟨h.1, u, rfl, ⟨_, h.2⟩⟩)
theorem K_Mm_worst {g : zG} {ad : Nat → Nat} {t : zTT} {u : zNN} {w : zW} (hI : IVm g ad t u w) : zMB g M_Mm_worst [.ref (ad 52)] w (fun o w1 => MKx g ad t u.1 o w1) 10 300 := by
  obtain ⟨s, hI⟩ := hI
  exact (Q_Mm_worst hI).mono (by decide) (by decide) (fun o w1 h => ⟨h.1, u, rfl, ⟨_, h.2⟩⟩)
noncomputable def tK_Ip_weld (x : Int32) (t : zTT) (n : Nat → Nat) : zTT := if x.toNatClampNeg < n 1 ∧ x = nI x.toNatClampNeg then (if (t.2 1 x.toNatClampNeg).1 0 < 20 ∧ (t.2 1 x.toNatClampNeg).1 2 &&& 32 = 0 then (if (t.2 1 x.toNatClampNeg).1 3 = 0 ∧ (t.2 1 x.toNatClampNeg).1 4 = 0 then (t.1, vup t.2 1 x.toNatClampNeg (upd ((t.2 1 x.toNatClampNeg).1) 2 ((t.2 1 x.toNatClampNeg).1 2 &&& (-5)), (t.2 1 x.toNatClampNeg).2)) else t) else t) else t
theorem K_Ip_weld {g : zG} {ad : Nat → Nat} {t : zTT} {u : zNN} {w : zW} (hI : IVm g ad t u w) (x : Int32) : zMB g M_Ip_weld [.ref (ad 0), .int x] w (fun o w1 => CKx g ad (tK_Ip_weld x t u.1) u.1 ["java/lang/IndexOutOfBoundsException", "java/lang/UnsupportedOperationException", "java/lang/IllegalStateException"] o w1) 10 300 := by
  obtain ⟨s, hI⟩ := hI
  by_cases hx : x.toNatClampNeg < u.1 1 ∧ x = nI x.toNatClampNeg
  · obtain ⟨k, hk, rfl⟩ : ∃ k, k < u.1 1 ∧ x = nI k := ⟨_, hx⟩
    have h33 := hI.n5 1 (by decide)
    have ek : (nI k).toNatClampNeg = k := nI_clamp (by omega)
    by_cases h12 : (t.2 1 k).1 0 < 20 ∧ (t.2 1 k).1 2 &&& 32 = 0
    · by_cases h34 : (t.2 1 k).1 3 = 0 ∧ (t.2 1 k).1 4 = 0
      · have eT : tK_Ip_weld (nI k) t u.1 = (t.1, vup t.2 1 k (upd ((t.2 1 k).1) 2 ((t.2 1 k).1 2 &&& (-5)), (t.2 1 k).2)) := by
          unfold tK_Ip_weld
          rw [if_pos hx, ek, if_pos h12, if_pos h34]
        rw [eT]
        exact (Qx_Ip_weldN hI k hk h12.1 h12.2 h34.1 h34.2).mono (by decide) (by decide) (fun o w1 h => ⟨zri.vl h.1, u, rfl, IVm.of h.2 (fun i hi => if_neg hi) rfl⟩)
      · have eT : tK_Ip_weld (nI k) t u.1 = t := by
          unfold tK_Ip_weld
          rw [if_pos hx, ek, if_pos h12, if_neg h34]
        rw [eT]
        exact (Qx_Ip_weldS hI k hk h12.1 h12.2 h34).mono (by decide) (by decide) (fun o w1 h => ⟨zri.th h.1 (by simp), u, rfl, ⟨_, h.2⟩⟩)
    · have eT : tK_Ip_weld (nI k) t u.1 = t := by
        unfold tK_Ip_weld
        rw [if_pos hx, ek, if_neg h12]
      rw [eT]
      exact (Qx_Ip_weldU hI k hk h12).mono (by decide) (by decide) (fun o w1 h => ⟨zri.th h.1 (by simp), u, rfl, ⟨_, h.2⟩⟩)
  · have hx9 : ¬ ∃ k, k < u.1 1 ∧ x = nI k := fun ⟨k, hk, e⟩ => hx (by have h33 := hI.n5 1 (by decide); subst e; rw [nI_clamp (by omega)]; exact ⟨hk, rfl⟩)
    have eT : tK_Ip_weld x t u.1 = t := by
      unfold tK_Ip_weld
      rw [if_neg hx]
    rw [eT]
    exact (Q_Ip_weldE hI x hx9).mono (by decide) (by decide) (fun o w1 h => ⟨h.1.sub (by simp), u, rfl, ⟨_, h.2⟩⟩)
noncomputable def tK_Ip_deliver (x : Int32) (t : zTT) (n : Nat → Nat) : zTT := if x.toNatClampNeg < n 1 ∧ x = nI x.toNatClampNeg then (if (t.2 1 x.toNatClampNeg).1 3 = 0 ∧ (t.2 1 x.toNatClampNeg).1 4 = 0 then (if (t.2 1 x.toNatClampNeg).1 2 = 0 then (t.1, vup t.2 1 x.toNatClampNeg (upd ((t.2 1 x.toNatClampNeg).1) 3 (1), (t.2 1 x.toNatClampNeg).2)) else (t.1, vup t.2 1 x.toNatClampNeg (upd ((t.2 1 x.toNatClampNeg).1) 3 (0), (t.2 1 x.toNatClampNeg).2))) else t) else t
theorem K_Ip_deliver {g : zG} {ad : Nat → Nat} {t : zTT} {u : zNN} {w : zW} (hI : IVm g ad t u w) (x : Int32) : zMB g M_Ip_deliver [.ref (ad 0), .int x] w (fun o w1 => CKx g ad (tK_Ip_deliver x t u.1) u.1 ["java/lang/IndexOutOfBoundsException", "java/lang/IllegalStateException"] o w1) 10 300 := by
  obtain ⟨s, hI⟩ := hI
  by_cases hx : x.toNatClampNeg < u.1 1 ∧ x = nI x.toNatClampNeg
  · obtain ⟨k, hk, rfl⟩ : ∃ k, k < u.1 1 ∧ x = nI k := ⟨_, hx⟩
    have h33 := hI.n5 1 (by decide)
    have ek : (nI k).toNatClampNeg = k := nI_clamp (by omega)
    by_cases h34 : (t.2 1 k).1 3 = 0 ∧ (t.2 1 k).1 4 = 0
    · by_cases h5 : (t.2 1 k).1 2 = 0
      · have eT : tK_Ip_deliver (nI k) t u.1 = (t.1, vup t.2 1 k (upd ((t.2 1 k).1) 3 (1), (t.2 1 k).2)) := by
          unfold tK_Ip_deliver
          rw [if_pos hx, ek, if_pos h34, if_pos h5]
        rw [eT]
        exact (Qx_Ip_deliverY hI k hk h34.1 h34.2 h5).mono (by decide) (by decide) (fun o w1 h => ⟨zri.vl h.1, u, rfl, IVm.of h.2 (fun i hi => if_neg hi) rfl⟩)
      · have eT : tK_Ip_deliver (nI k) t u.1 = (t.1, vup t.2 1 k (upd ((t.2 1 k).1) 3 (0), (t.2 1 k).2)) := by
          unfold tK_Ip_deliver
          rw [if_pos hx, ek, if_pos h34, if_neg h5]
        rw [eT]
        exact (Qx_Ip_deliverN hI k hk h34.1 h34.2 h5).mono (by decide) (by decide) (fun o w1 h => ⟨zri.vl h.1, u, rfl, IVm.of h.2 (fun i hi => if_neg hi) rfl⟩)
    · have eT : tK_Ip_deliver (nI k) t u.1 = t := by
        unfold tK_Ip_deliver
        rw [if_pos hx, ek, if_neg h34]
      rw [eT]
      exact (Qx_Ip_deliverS hI k hk h34).mono (by decide) (by decide) (fun o w1 h => ⟨zri.th h.1 (by simp), u, rfl, ⟨_, h.2⟩⟩)
  · have hx9 : ¬ ∃ k, k < u.1 1 ∧ x = nI k := fun ⟨k, hk, e⟩ => hx (by have h33 := hI.n5 1 (by decide); subst e; rw [nI_clamp (by omega)]; exact ⟨hk, rfl⟩)
    have eT : tK_Ip_deliver x t u.1 = t := by
      unfold tK_Ip_deliver
      rw [if_neg hx]
    rw [eT]
    exact (Q_Ip_deliverE hI x hx9).mono (by decide) (by decide) (fun o w1 h => ⟨h.1.sub (by simp), u, rfl, ⟨_, h.2⟩⟩)
noncomputable def tK_Ip_breakUp (x : Int32) (t : zTT) (n : Nat → Nat) : zTT := if x.toNatClampNeg < n 1 ∧ x = nI x.toNatClampNeg then (if (t.2 1 x.toNatClampNeg).1 3 = 0 ∧ (t.2 1 x.toNatClampNeg).1 4 = 0 then (if (t.2 1 x.toNatClampNeg).1 0 < 20 then (zup t.1 [(45, (upd ((t.1 45).1) 0 ((t.1 45).1 0 + (t.2 1 x.toNatClampNeg).1 5), (t.1 45).2.1, (t.1 45).2.2)), (46, ((t.1 46).1, lfd ((t.1 46).2.1) ((t.2 1 x.toNatClampNeg).2.2.1) 4, (t.1 46).2.2))], vup t.2 1 x.toNatClampNeg (upd ((t.2 1 x.toNatClampNeg).1) 4 (1), (t.2 1 x.toNatClampNeg).2)) else (zup t.1 [(47, (upd ((t.1 47).1) 0 ((t.1 47).1 0 + (t.2 1 x.toNatClampNeg).1 5), (t.1 47).2.1, (t.1 47).2.2)), (48, ((t.1 48).1, lfd ((t.1 48).2.1) ((t.2 1 x.toNatClampNeg).2.2.1) 4, (t.1 48).2.2))], vup t.2 1 x.toNatClampNeg (upd ((t.2 1 x.toNatClampNeg).1) 4 (1), (t.2 1 x.toNatClampNeg).2))) else t) else t
theorem K_Ip_breakUp {g : zG} {ad : Nat → Nat} {t : zTT} {u : zNN} {w : zW} (hI : IVm g ad t u w) (x : Int32) : zMB g M_Ip_breakUp [.ref (ad 0), .int x] w (fun o w1 => CKx g ad (tK_Ip_breakUp x t u.1) u.1 ["java/lang/IndexOutOfBoundsException", "java/lang/IllegalStateException"] o w1) 10 300 := by
  obtain ⟨s, hI⟩ := hI
  by_cases hx : x.toNatClampNeg < u.1 1 ∧ x = nI x.toNatClampNeg
  · obtain ⟨k, hk, rfl⟩ : ∃ k, k < u.1 1 ∧ x = nI k := ⟨_, hx⟩
    have h33 := hI.n5 1 (by decide)
    have ek : (nI k).toNatClampNeg = k := nI_clamp (by omega)
    by_cases h34 : (t.2 1 k).1 3 = 0 ∧ (t.2 1 k).1 4 = 0
    · by_cases h5 : (t.2 1 k).1 0 < 20
      · have eT : tK_Ip_breakUp (nI k) t u.1 = (zup t.1 [(45, (upd ((t.1 45).1) 0 ((t.1 45).1 0 + (t.2 1 k).1 5), (t.1 45).2.1, (t.1 45).2.2)), (46, ((t.1 46).1, lfd ((t.1 46).2.1) ((t.2 1 k).2.2.1) 4, (t.1 46).2.2))], vup t.2 1 k (upd ((t.2 1 k).1) 4 (1), (t.2 1 k).2)) := by
          unfold tK_Ip_breakUp
          rw [if_pos hx, ek, if_pos h34, if_pos h5]
        rw [eT]
        exact (Qx_Ip_breakUpG hI k hk h34.1 h34.2 h5).mono (by decide) (by decide) (fun o w1 h => ⟨zri.vl h.1, u, rfl, IVm.of h.2 (fun i hi => zup_cg (P := fun i => ¬ tx i) (fun i hi => if_neg hi) _ i hi) rfl⟩)
      · have eT : tK_Ip_breakUp (nI k) t u.1 = (zup t.1 [(47, (upd ((t.1 47).1) 0 ((t.1 47).1 0 + (t.2 1 k).1 5), (t.1 47).2.1, (t.1 47).2.2)), (48, ((t.1 48).1, lfd ((t.1 48).2.1) ((t.2 1 k).2.2.1) 4, (t.1 48).2.2))], vup t.2 1 k (upd ((t.2 1 k).1) 4 (1), (t.2 1 k).2)) := by
          unfold tK_Ip_breakUp
          rw [if_pos hx, ek, if_pos h34, if_neg h5]
        rw [eT]
        exact (Qx_Ip_breakUpD hI k hk h34.1 h34.2 h5).mono (by decide) (by decide) (fun o w1 h => ⟨zri.vl h.1, u, rfl, IVm.of h.2 (fun i hi => zup_cg (P := fun i => ¬ tx i) (fun i hi => if_neg hi) _ i hi) rfl⟩)
    · have eT : tK_Ip_breakUp (nI k) t u.1 = t := by
        unfold tK_Ip_breakUp
        rw [if_pos hx, ek, if_neg h34]
      rw [eT]
      exact (Qx_Ip_breakUpS hI k hk h34).mono (by decide) (by decide) (fun o w1 h => ⟨zri.th h.1 (by simp), u, rfl, ⟨_, h.2⟩⟩)
  · have hx9 : ¬ ∃ k, k < u.1 1 ∧ x = nI k := fun ⟨k, hk, e⟩ => hx (by have h33 := hI.n5 1 (by decide); subst e; rw [nI_clamp (by omega)]; exact ⟨hk, rfl⟩)
    have eT : tK_Ip_breakUp x t u.1 = t := by
      unfold tK_Ip_breakUp
      rw [if_neg hx]
    rw [eT]
    exact (Q_Ip_breakUpE hI x hx9).mono (by decide) (by decide) (fun o w1 h => ⟨h.1.sub (by simp), u, rfl, ⟨_, h.2⟩⟩)
noncomputable def tK_Mm_weld (x : Int32) (t : zTT) (n : Nat → Nat) : zTT := if x.toNatClampNeg < n 5 ∧ x = nI x.toNatClampNeg then (if ¬ (t.2 5 x.toNatClampNeg).2.1 4 = 1 ∧ (t.2 5 x.toNatClampNeg).2.1 2 &&& 32 = 0 then (if (t.2 5 x.toNatClampNeg).2.1 5 = 0 then (t.1, vup t.2 5 x.toNatClampNeg ((t.2 5 x.toNatClampNeg).1, upd ((t.2 5 x.toNatClampNeg).2.1) 2 ((t.2 5 x.toNatClampNeg).2.1 2 &&& (-5)), (t.2 5 x.toNatClampNeg).2.2)) else t) else t) else t
theorem K_Mm_weld {g : zG} {ad : Nat → Nat} {t : zTT} {u : zNN} {w : zW} (hI : IVm g ad t u w) (x : Int32) : zMB g M_Mm_weld [.ref (ad 52), .int x] w (fun o w1 => MKx g ad (tK_Mm_weld x t u.1) u.1 o w1) 10 300 := by
  obtain ⟨s, hI⟩ := hI
  by_cases hx : x.toNatClampNeg < u.1 5 ∧ x = nI x.toNatClampNeg
  · obtain ⟨k, hk, rfl⟩ : ∃ k, k < u.1 5 ∧ x = nI k := ⟨_, hx⟩
    have h33 := hI.n5 5 (by decide)
    have ek : (nI k).toNatClampNeg = k := nI_clamp (by omega)
    by_cases h12 : ¬ (t.2 5 k).2.1 4 = 1 ∧ (t.2 5 k).2.1 2 &&& 32 = 0
    · by_cases h3 : (t.2 5 k).2.1 5 = 0
      · have eT : tK_Mm_weld (nI k) t u.1 = (t.1, vup t.2 5 k ((t.2 5 k).1, upd ((t.2 5 k).2.1) 2 ((t.2 5 k).2.1 2 &&& (-5)), (t.2 5 k).2.2)) := by
          unfold tK_Mm_weld
          rw [if_pos hx, ek, if_pos h12, if_pos h3]
        rw [eT]
        exact (Qx_Mm_weldN hI k hk h12.1 h12.2 h3).mono (by decide) (by decide) (fun o w1 h => ⟨⟨_, h.1⟩, u, rfl, IVm.of h.2 (fun i hi => if_neg hi) rfl⟩)
      · have eT : tK_Mm_weld (nI k) t u.1 = t := by
          unfold tK_Mm_weld
          rw [if_pos hx, ek, if_pos h12, if_neg h3]
        rw [eT]
        exact (Qx_Mm_weldS hI k hk h12.1 h12.2 h3).mono (by decide) (by decide) (fun o w1 h => ⟨⟨_, h.1⟩, u, rfl, ⟨_, h.2⟩⟩)
    · have eT : tK_Mm_weld (nI k) t u.1 = t := by
        unfold tK_Mm_weld
        rw [if_pos hx, ek, if_neg h12]
      rw [eT]
      exact (Qx_Mm_weldU hI k hk h12).mono (by decide) (by decide) (fun o w1 h => ⟨⟨_, h.1⟩, u, rfl, ⟨_, h.2⟩⟩)
  · have hx9 : ¬ ∃ k, k < u.1 5 ∧ x = nI k := fun ⟨k, hk, e⟩ => hx (by have h33 := hI.n5 5 (by decide); subst e; rw [nI_clamp (by omega)]; exact ⟨hk, rfl⟩)
    have eT : tK_Mm_weld x t u.1 = t := by
      unfold tK_Mm_weld
      rw [if_neg hx]
    rw [eT]
    exact (Q_Mm_weldE hI x hx9).mono (by decide) (by decide) (fun o w1 h => ⟨h.1, u, rfl, ⟨_, h.2⟩⟩)
noncomputable def tK_Mm_deliver (x : Int32) (t : zTT) (n : Nat → Nat) : zTT := if x.toNatClampNeg < n 5 ∧ x = nI x.toNatClampNeg then (if (t.2 5 x.toNatClampNeg).2.1 5 = 0 then (if (t.2 5 x.toNatClampNeg).2.1 2 = 0 then (zup t.1 [(52, ((t.1 52).1, (vp_updL ((t.1 52).2.1) 1 ((t.1 52).2.1 1 + ((t.2 5 x.toNatClampNeg).2.1 0).toInt64)), (t.1 52).2.2))], vup t.2 5 x.toNatClampNeg ((t.2 5 x.toNatClampNeg).1, upd ((t.2 5 x.toNatClampNeg).2.1) 5 (1), (t.2 5 x.toNatClampNeg).2.2)) else t) else t) else t
theorem K_Mm_deliver {g : zG} {ad : Nat → Nat} {t : zTT} {u : zNN} {w : zW} (hI : IVm g ad t u w) (x : Int32) : zMB g M_Mm_deliver [.ref (ad 52), .int x] w (fun o w1 => MKx g ad (tK_Mm_deliver x t u.1) u.1 o w1) 10 300 := by
  obtain ⟨s, hI⟩ := hI
  by_cases hx : x.toNatClampNeg < u.1 5 ∧ x = nI x.toNatClampNeg
  · obtain ⟨k, hk, rfl⟩ : ∃ k, k < u.1 5 ∧ x = nI k := ⟨_, hx⟩
    have h33 := hI.n5 5 (by decide)
    have ek : (nI k).toNatClampNeg = k := nI_clamp (by omega)
    by_cases h3 : (t.2 5 k).2.1 5 = 0
    · by_cases h2 : (t.2 5 k).2.1 2 = 0
      · have eT : tK_Mm_deliver (nI k) t u.1 = (zup t.1 [(52, ((t.1 52).1, (vp_updL ((t.1 52).2.1) 1 ((t.1 52).2.1 1 + ((t.2 5 k).2.1 0).toInt64)), (t.1 52).2.2))], vup t.2 5 k ((t.2 5 k).1, upd ((t.2 5 k).2.1) 5 (1), (t.2 5 k).2.2)) := by
          unfold tK_Mm_deliver
          rw [if_pos hx, ek, if_pos h3, if_pos h2]
        rw [eT]
        exact (Qx_Mm_deliverY hI k hk h3 h2).mono (by decide) (by decide) (fun o w1 h => ⟨⟨_, h.1⟩, u, rfl, IVm.of h.2 (fun i hi => zup_cg (P := fun i => ¬ tx i) (fun i hi => if_neg hi) _ i hi) rfl⟩)
      · have eT : tK_Mm_deliver (nI k) t u.1 = t := by
          unfold tK_Mm_deliver
          rw [if_pos hx, ek, if_pos h3, if_neg h2]
        rw [eT]
        exact (Qx_Mm_deliverN hI k hk h3 h2).mono (by decide) (by decide) (fun o w1 h => ⟨⟨_, h.1⟩, u, rfl, ⟨_, h.2⟩⟩)
    · have eT : tK_Mm_deliver (nI k) t u.1 = t := by
        unfold tK_Mm_deliver
        rw [if_pos hx, ek, if_neg h3]
      rw [eT]
      exact (Qx_Mm_deliverS hI k hk h3).mono (by decide) (by decide) (fun o w1 h => ⟨⟨_, h.1⟩, u, rfl, ⟨_, h.2⟩⟩)
  · have hx9 : ¬ ∃ k, k < u.1 5 ∧ x = nI k := fun ⟨k, hk, e⟩ => hx (by have h33 := hI.n5 5 (by decide); subst e; rw [nI_clamp (by omega)]; exact ⟨hk, rfl⟩)
    have eT : tK_Mm_deliver x t u.1 = t := by
      unfold tK_Mm_deliver
      rw [if_neg hx]
    rw [eT]
    exact (Q_Mm_deliverE hI x hx9).mono (by decide) (by decide) (fun o w1 h => ⟨h.1, u, rfl, ⟨_, h.2⟩⟩)
noncomputable def tK_Mm_breakUp (x : Int32) (t : zTT) (n : Nat → Nat) : zTT := if x.toNatClampNeg < n 5 ∧ x = nI x.toNatClampNeg then (if (t.2 5 x.toNatClampNeg).2.1 5 = 0 then (if (t.2 5 x.toNatClampNeg).2.1 4 = 1 then buT t x.toNatClampNeg 3 4 else buT t x.toNatClampNeg 2 4) else t) else t
theorem K_Mm_breakUp {g : zG} {ad : Nat → Nat} {t : zTT} {u : zNN} {w : zW} (hI : IVm g ad t u w) (x : Int32) : zMB g M_Mm_breakUp [.ref (ad 52), .int x] w (fun o w1 => MKx g ad (tK_Mm_breakUp x t u.1) u.1 o w1) 10 300 := by
  obtain ⟨s, hI⟩ := hI
  by_cases hx : x.toNatClampNeg < u.1 5 ∧ x = nI x.toNatClampNeg
  · obtain ⟨k, hk, rfl⟩ : ∃ k, k < u.1 5 ∧ x = nI k := ⟨_, hx⟩
    have h33 := hI.n5 5 (by decide)
    have ek : (nI k).toNatClampNeg = k := nI_clamp (by omega)
    by_cases h3 : (t.2 5 k).2.1 5 = 0
    · by_cases h4 : (t.2 5 k).2.1 4 = 1
      · have eT : tK_Mm_breakUp (nI k) t u.1 = buT t k 3 4 := by
          unfold tK_Mm_breakUp
          rw [if_pos hx, ek, if_pos h3, if_pos h4]
        rw [eT]
        exact (Qx_Mm_breakUpD hI k hk h3 h4).mono (by decide) (by decide) (fun o w1 h => ⟨⟨_, h.1⟩, u, rfl, IVm.of h.2 (fun i hi => zup_cg (P := fun i => ¬ tx i) (fun i hi => if_neg hi) _ i hi) rfl⟩)
      · have eT : tK_Mm_breakUp (nI k) t u.1 = buT t k 2 4 := by
          unfold tK_Mm_breakUp
          rw [if_pos hx, ek, if_pos h3, if_neg h4]
        rw [eT]
        exact (Qx_Mm_breakUpG hI k hk h3 h4).mono (by decide) (by decide) (fun o w1 h => ⟨⟨_, h.1⟩, u, rfl, IVm.of h.2 (fun i hi => zup_cg (P := fun i => ¬ tx i) (fun i hi => if_neg hi) _ i hi) rfl⟩)
    · have eT : tK_Mm_breakUp (nI k) t u.1 = t := by
        unfold tK_Mm_breakUp
        rw [if_pos hx, ek, if_neg h3]
      rw [eT]
      exact (Qx_Mm_breakUpS hI k hk h3).mono (by decide) (by decide) (fun o w1 h => ⟨⟨_, h.1⟩, u, rfl, ⟨_, h.2⟩⟩)
  · have hx9 : ¬ ∃ k, k < u.1 5 ∧ x = nI k := fun ⟨k, hk, e⟩ => hx (by have h33 := hI.n5 5 (by decide); subst e; rw [nI_clamp (by omega)]; exact ⟨hk, rfl⟩)
    have eT : tK_Mm_breakUp x t u.1 = t := by
      unfold tK_Mm_breakUp
      rw [if_neg hx]
    rw [eT]
    exact (Q_Mm_breakUpE hI x hx9).mono (by decide) (by decide) (fun o w1 h => ⟨h.1, u, rfl, ⟨_, h.2⟩⟩)
noncomputable def tK_Ip_minutes (x : Int32) (t : zTT) (n : Nat → Nat) : zTT := if 1 ≤ x ∧ x ≤ 60 then elT 0 (wtV9 x) (fdT t x.toNatClampNeg) (n 0) else t
theorem K_Ip_minutes {g : zG} {ad : Nat → Nat} {t : zTT} {u : zNN} {w : zW} (hI : IVm g ad t u w) (x : Int32) : zMB g M_Ip_minutes [.ref (ad 0), .int x] w (fun o w1 => CKx g ad (tK_Ip_minutes x t u.1) u.1 ["java/lang/IllegalArgumentException"] o w1) 10 300 := by
  obtain ⟨s, hI⟩ := hI
  by_cases hw : 1 ≤ x ∧ x ≤ 60
  · obtain ⟨a9, ha9, e9⟩ := z_in20 (b := 60) (by decide) ⟨Int32.le_trans (by decide) hw.1, hw.2⟩
    subst e9
    have ek : (nI a9).toNatClampNeg = a9 := nI_clamp (by omega)
    have eT : tK_Ip_minutes (nI a9) t u.1 = elT 0 (wtV9 (nI a9)) (fdT t a9) (u.1 0) := by
      unfold tK_Ip_minutes
      rw [if_pos hw, ek]
    rw [eT]
    exact (Qx_Ip_minutesN hI a9 ha9 hw).mono (by decide) (by decide) (fun o w1 h => ⟨zri.vl h.1, u, rfl, IVm.of h.2 (fun i hi => zup_cg (P := fun i => ¬ tx i) (fun i hi => if_neg hi) _ i hi) rfl⟩)
  · have eT : tK_Ip_minutes x t u.1 = t := by
      unfold tK_Ip_minutes
      rw [if_neg hw]
    rw [eT]
    exact (Q_Ip_minutesE hI x hw).mono (by decide) (by decide) (fun o w1 h => ⟨h.1.sub (by simp), u, rfl, ⟨_, h.2⟩⟩)
noncomputable def tK_Mm_minutes (x : Int32) (t : zTT) (n : Nat → Nat) : zTT := if 1 ≤ x ∧ x ≤ 60 then elT 4 (nuV9 x) (if (t.1 63).1 1 ≤ 0 then t else fmT t x.toNatClampNeg) (n 4) else t
theorem K_Mm_minutes {g : zG} {ad : Nat → Nat} {t : zTT} {u : zNN} {w : zW} (hI : IVm g ad t u w) (x : Int32) : zMB g M_Mm_minutes [.ref (ad 52), .int x] w (fun o w1 => MKx g ad (tK_Mm_minutes x t u.1) u.1 o w1) 10 300 := by
  obtain ⟨s, hI⟩ := hI
  by_cases hw : 1 ≤ x ∧ x ≤ 60
  · obtain ⟨a9, ha9, e9⟩ := z_in20 (b := 60) (by decide) ⟨Int32.le_trans (by decide) hw.1, hw.2⟩
    subst e9
    have ek : (nI a9).toNatClampNeg = a9 := nI_clamp (by omega)
    by_cases h1 : (t.1 63).1 1 ≤ 0
    · have eT : tK_Mm_minutes (nI a9) t u.1 = elT 4 (nuV9 (nI a9)) t (u.1 4) := by
        unfold tK_Mm_minutes
        rw [if_pos hw, if_pos h1]
      rw [eT]
      exact (Qx_Mm_minutesA hI a9 ha9 hw h1).mono (by decide) (by decide) (fun o w1 h => ⟨⟨_, h.1⟩, u, rfl, IVm.of h.2 (fun i hi => if_neg hi) rfl⟩)
    · have eT : tK_Mm_minutes (nI a9) t u.1 = elT 4 (nuV9 (nI a9)) (fmT t a9) (u.1 4) := by
        unfold tK_Mm_minutes
        rw [if_pos hw, if_neg h1, ek]
      rw [eT]
      exact (Qx_Mm_minutesB hI a9 ha9 hw h1).mono (by decide) (by decide) (fun o w1 h => ⟨⟨_, h.1⟩, u, rfl, IVm.of h.2 (fun i hi => zup_cg (P := fun i => ¬ tx i) (fun i hi => if_neg hi) _ i hi) rfl⟩)
  · have eT : tK_Mm_minutes x t u.1 = t := by
      unfold tK_Mm_minutes
      rw [if_neg hw]
    rw [eT]
    exact (Q_Mm_minutesE hI x hw).mono (by decide) (by decide) (fun o w1 h => ⟨h.1, u, rfl, ⟨_, h.2⟩⟩)
noncomputable def tK_Ip_mould (t : zTT) (n : Nat → Nat) : zTT := (if ¬ fa_cnt (fun k => decide (((t.1 2).1) k = 103)) 12 = 0 ∧ anB (fun k => decide (((t.1 2).1) k = 99)) 108 = true then (if nI (coN ((t.1 2).1)) ≤ gdN t then (if n 0 < 10 then mdT t (n 0) else t) else t) else t)
noncomputable def nK_Ip_mould (t : zTT) (n : Nat → Nat) : Nat → Nat := (if ¬ fa_cnt (fun k => decide (((t.1 2).1) k = 103)) 12 = 0 ∧ anB (fun k => decide (((t.1 2).1) k = 99)) 108 = true then (if nI (coN ((t.1 2).1)) ≤ gdN t then (if n 0 < 10 then z_upL n 0 (n 0 + 1) else n) else n) else n)
theorem K_Ip_mould {g : zG} {ad : Nat → Nat} {t : zTT} {u : zNN} {w : zW} (hI : IVm g ad t u w) : zMB g M_Ip_mould [.ref (ad 0)] w (fun o w1 => CKx g ad (tK_Ip_mould t u.1) (nK_Ip_mould t u.1) ["java/util/NoSuchElementException", "java/lang/UnsupportedOperationException", "java/lang/IllegalStateException"] o w1) 10 300 := by
  obtain ⟨s, hI⟩ := hI
  by_cases hgc : ¬ fa_cnt (fun k => decide (((t.1 2).1) k = 103)) 12 = 0 ∧ anB (fun k => decide (((t.1 2).1) k = 99)) 108 = true
  · by_cases hn : nI (coN ((t.1 2).1)) ≤ gdN t
    · by_cases hs : u.1 0 < 10
      · have eT : tK_Ip_mould t u.1 = mdT t (u.1 0) := by
          unfold tK_Ip_mould
          rw [if_pos hgc, if_pos hn, if_pos hs]
        have eN : nK_Ip_mould t u.1 = z_upL u.1 0 (u.1 0 + 1) := by
          unfold nK_Ip_mould
          rw [if_pos hgc, if_pos hn, if_pos hs]
        rw [eT, eN]
        exact (Qx_Ip_mouldN hI hgc.1 hgc.2 hn hs u.1 rfl).mono (by decide) (by decide) (fun o w1 h => by obtain ⟨h1, u2, h2, h3⟩ := h; exact ⟨zri.vl h1, u2, h2, IVm.of h3 (fun i hi => zup_cg (P := fun i => ¬ tx i) (fun i hi => zup_cg (P := fun i => ¬ tx i) (fun i hi => if_neg hi) _ i hi) _ i hi) rfl⟩)
      · have eT : tK_Ip_mould t u.1 = t := by
          unfold tK_Ip_mould
          rw [if_pos hgc, if_pos hn, if_neg hs]
        have eN : nK_Ip_mould t u.1 = u.1 := by
          unfold nK_Ip_mould
          rw [if_pos hgc, if_pos hn, if_neg hs]
        rw [eT, eN]
        exact (Qx_Ip_mouldC hI hgc.1 hgc.2 hn hs).mono (by decide) (by decide) (fun o w1 h => ⟨zri.th h.1 (by simp), u, rfl, ⟨_, h.2⟩⟩)
    · have eT : tK_Ip_mould t u.1 = t := by
        unfold tK_Ip_mould
        rw [if_pos hgc, if_neg hn]
      have eN : nK_Ip_mould t u.1 = u.1 := by
        unfold nK_Ip_mould
        rw [if_pos hgc, if_neg hn]
      rw [eT, eN]
      exact (Qx_Ip_mouldB hI hgc.1 hgc.2 hn).mono (by decide) (by decide) (fun o w1 h => ⟨zri.th h.1 (by simp), u, rfl, ⟨_, h.2⟩⟩)
  · have eT : tK_Ip_mould t u.1 = t := by
      unfold tK_Ip_mould
      rw [if_neg hgc]
    have eN : nK_Ip_mould t u.1 = u.1 := by
      unfold nK_Ip_mould
      rw [if_neg hgc]
    rw [eT, eN]
    exact (Qx_Ip_mouldE hI ((Classical.not_and_iff_not_or_not.mp hgc).imp Classical.not_not.mp (fun e => Bool.eq_false_iff.mpr e))).mono (by decide) (by decide) (fun o w1 h => ⟨zri.th h.1 (by simp), u, rfl, ⟨_, h.2⟩⟩)
noncomputable def tK_Ip_pour (X9 : zTr) (t : zTT) (n : Nat → Nat) : zTT := (if ¬ n 0 = 0 then (if ¬ (t.1 43).1 0 = 0 ∧ 1250 ≤ (t.1 42).1 0 then (if n 1 < 30 then poT t X9 (n 1) else t) else t) else t)
noncomputable def nK_Ip_pour (t : zTT) (n : Nat → Nat) : Nat → Nat := (if ¬ n 0 = 0 then (if ¬ (t.1 43).1 0 = 0 ∧ 1250 ≤ (t.1 42).1 0 then (if n 1 < 30 then z_upL (z_upL n 0 (n 0 - 1)) 1 (n 1 + 1) else n) else n) else n)
theorem K_Ip_pour {g : zG} {ad : Nat → Nat} {t : zTT} {u : zNN} {w : zW} (hI : IVm g ad t u w) : zMB g M_Ip_pour [.ref (ad 0)] w (fun o w1 => ∃ (X9 : zTr), CKx g ad (tK_Ip_pour X9 t u.1) (nK_Ip_pour t u.1) ["java/util/NoSuchElementException", "java/lang/IllegalStateException", "java/lang/UnsupportedOperationException"] o w1) 10 300 := by
  obtain ⟨s, hI⟩ := hI
  by_cases h0 : ¬ u.1 0 = 0
  · by_cases h12 : ¬ (t.1 43).1 0 = 0 ∧ 1250 ≤ (t.1 42).1 0
    · by_cases h3 : u.1 1 < 30
      · refine (Qx_Ip_pourN hI h0 h12.1 h12.2 h3 u.1 rfl).mono (by decide) (by decide) (fun o w1 h => ?_)
        obtain ⟨X9, h1, u2, h2, h4⟩ := h
        have eT : tK_Ip_pour X9 t u.1 = poT t X9 (u.1 1) := by
          unfold tK_Ip_pour
          rw [if_pos h0, if_pos h12, if_pos h3]
        have eN : nK_Ip_pour t u.1 = z_upL (z_upL u.1 0 (u.1 0 - 1)) 1 (u.1 1 + 1) := by
          unfold nK_Ip_pour
          rw [if_pos h0, if_pos h12, if_pos h3]
        refine ⟨X9, ?_⟩
        rw [eT, eN]
        exact ⟨zri.vl h1, u2, h2, IVm.of h4 (fun i hi => zup_cg (P := fun i => ¬ tx i) (fun i hi => if_neg hi) _ i hi) rfl⟩
      · refine (Qx_Ip_pourG hI h0 h12.1 h12.2 h3).mono (by decide) (by decide) (fun o w1 h => ⟨zX0, ?_⟩)
        have eT : tK_Ip_pour zX0 t u.1 = t := by
          unfold tK_Ip_pour
          rw [if_pos h0, if_pos h12, if_neg h3]
        have eN : nK_Ip_pour t u.1 = u.1 := by
          unfold nK_Ip_pour
          rw [if_pos h0, if_pos h12, if_neg h3]
        rw [eT, eN]
        exact ⟨zri.th h.1 (by simp), u, rfl, ⟨_, h.2⟩⟩
    · refine (Qx_Ip_pourF hI h0 h12).mono (by decide) (by decide) (fun o w1 h => ⟨zX0, ?_⟩)
      have eT : tK_Ip_pour zX0 t u.1 = t := by
        unfold tK_Ip_pour
        rw [if_pos h0, if_neg h12]
      have eN : nK_Ip_pour t u.1 = u.1 := by
        unfold nK_Ip_pour
        rw [if_pos h0, if_neg h12]
      rw [eT, eN]
      exact ⟨zri.th h.1 (by simp), u, rfl, ⟨_, h.2⟩⟩
  · refine (Qx_Ip_pourE hI (Classical.not_not.mp h0)).mono (by decide) (by decide) (fun o w1 h => ⟨zX0, ?_⟩)
    have eT : tK_Ip_pour zX0 t u.1 = t := by
      unfold tK_Ip_pour
      rw [if_neg h0]
    have eN : nK_Ip_pour t u.1 = u.1 := by
      unfold nK_Ip_pour
      rw [if_neg h0]
    rw [eT, eN]
    exact ⟨zri.th h.1 (by simp), u, rfl, ⟨_, h.2⟩⟩
noncomputable def tK_Mm_hours (x : Int32) (t : zTT) (n : Nat → Nat) : zTT := if 1 ≤ x ∧ x ≤ 48 then tls (hrT t x) 2 (hrF t x (n 2)).2.1 else t
noncomputable def nK_Mm_hours (x : Int32) (t : zTT) (n : Nat → Nat) : Nat → Nat := if 1 ≤ x ∧ x ≤ 48 then z_upL n 2 (hrF t x (n 2)).1 else n
theorem K_Mm_hours {g : zG} {ad : Nat → Nat} {t : zTT} {u : zNN} {w : zW} (hI : IVm g ad t u w) (x : Int32) : zMB g M_Mm_hours [.ref (ad 52), .int x] w (fun o w1 => MKx g ad (tK_Mm_hours x t u.1) (nK_Mm_hours x t u.1) o w1) 10 300 := by
  obtain ⟨s, hI⟩ := hI
  by_cases hw : 1 ≤ x ∧ x ≤ 48
  · have eT : tK_Mm_hours x t u.1 = tls (hrT t x) 2 (hrF t x (u.1 2)).2.1 := by
      unfold tK_Mm_hours
      rw [if_pos hw]
    have eN : nK_Mm_hours x t u.1 = z_upL u.1 2 (hrF t x (u.1 2)).1 := by
      unfold nK_Mm_hours
      rw [if_pos hw]
    rw [eT, eN]
    exact (Qx_Mm_hoursN hI x hw u.1 rfl).mono (by decide) (by decide) (fun o w1 h => by obtain ⟨h1, u2, h2, h3⟩ := h; exact ⟨⟨_, h1⟩, u2, h2, IVm.of h3 (fun i hi => zup_cg (P := fun i => ¬ tx i) (fun i hi => if_neg hi) _ i hi) rfl⟩)
  · have eT : tK_Mm_hours x t u.1 = t := by
      unfold tK_Mm_hours
      rw [if_neg hw]
    have eN : nK_Mm_hours x t u.1 = u.1 := by
      unfold nK_Mm_hours
      rw [if_neg hw]
    rw [eT, eN]
    exact (Qx_Mm_hoursE hI x hw).mono (by decide) (by decide) (fun o w1 h => ⟨⟨_, h.1⟩, u, rfl, ⟨_, h.2⟩⟩)
noncomputable def tK_Mm_makeCores (c k : Int32) (t : zTT) (n : Nat → Nat) : zTT := (if (1 ≤ c ∧ c ≤ 10) ∧ (1 ≤ k ∧ k ≤ 24) then (if ¬ n 2 = 20 then tls t 2 (z_apV (t.2 2) (n 2) (mkV c ((t.1 52).1 5 + k))) else t) else t)
noncomputable def nK_Mm_makeCores (c k : Int32) (t : zTT) (n : Nat → Nat) : Nat → Nat := (if (1 ≤ c ∧ c ≤ 10) ∧ (1 ≤ k ∧ k ≤ 24) then (if ¬ n 2 = 20 then z_upL n 2 (n 2 + 1) else n) else n)
theorem K_Mm_makeCores {g : zG} {ad : Nat → Nat} {t : zTT} {u : zNN} {w : zW} (hI : IVm g ad t u w) (c k : Int32) : zMB g M_Mm_makeCores [.ref (ad 52), .int c, .int k] w (fun o w1 => MKx g ad (tK_Mm_makeCores c k t u.1) (nK_Mm_makeCores c k t u.1) o w1) 10 300 := by
  obtain ⟨s, hI⟩ := hI
  by_cases hw : (1 ≤ c ∧ c ≤ 10) ∧ (1 ≤ k ∧ k ≤ 24)
  · by_cases hf : ¬ u.1 2 = 20
    · have eT : tK_Mm_makeCores c k t u.1 = tls t 2 (z_apV (t.2 2) (u.1 2) (mkV c ((t.1 52).1 5 + k))) := by
        unfold tK_Mm_makeCores
        rw [if_pos hw, if_pos hf]
      have eN : nK_Mm_makeCores c k t u.1 = z_upL u.1 2 (u.1 2 + 1) := by
        unfold nK_Mm_makeCores
        rw [if_pos hw, if_pos hf]
      rw [eT, eN]
      exact (Qx_Mm_makeCoresN hI c k hw hf u.1 rfl).mono (by decide) (by decide) (fun o w1 h => by obtain ⟨h1, u2, h2, h3⟩ := h; exact ⟨h1, u2, h2, IVm.of h3 (fun i hi => if_neg hi) rfl⟩)
    · have eT : tK_Mm_makeCores c k t u.1 = t := by
        unfold tK_Mm_makeCores
        rw [if_pos hw, if_neg hf]
      have eN : nK_Mm_makeCores c k t u.1 = u.1 := by
        unfold nK_Mm_makeCores
        rw [if_pos hw, if_neg hf]
      rw [eT, eN]
      exact (Qx_Mm_makeCoresF hI c k hw (Classical.not_not.mp hf)).mono (by decide) (by decide) (fun o w1 h => ⟨⟨_, h.1⟩, u, rfl, ⟨_, h.2⟩⟩)
  · have eT : tK_Mm_makeCores c k t u.1 = t := by
      unfold tK_Mm_makeCores
      rw [if_neg hw]
    have eN : nK_Mm_makeCores c k t u.1 = u.1 := by
      unfold nK_Mm_makeCores
      rw [if_neg hw]
    rw [eT, eN]
    exact (Qx_Mm_makeCoresE hI c k hw).mono (by decide) (by decide) (fun o w1 h => ⟨⟨_, h.1⟩, u, rfl, ⟨_, h.2⟩⟩)
noncomputable def tK_Mm_mould (t : zTT) (n : Nat → Nat) : zTT := (if ¬ fa_cnt (fun k => decide (((t.1 53).1) k = 103)) 12 = 0 ∧ anB (fun k => decide (((t.1 53).1) k = 99)) 108 = true then (if nI (coN ((t.1 53).1)) ≤ gdS ((t.1 52).1 5) (t.2 2) (n 2) then (if ¬ n 3 = 10 then mmT t n else t) else t) else t)
noncomputable def nK_Mm_mould (t : zTT) (n : Nat → Nat) : Nat → Nat := (if ¬ fa_cnt (fun k => decide (((t.1 53).1) k = 103)) 12 = 0 ∧ anB (fun k => decide (((t.1 53).1) k = 99)) 108 = true then (if nI (coN ((t.1 53).1)) ≤ gdS ((t.1 52).1 5) (t.2 2) (n 2) then (if ¬ n 3 = 10 then z_upL (z_upL (z_upL n 3 (n 3 + 1)) 4 (n 4 + 1)) 2 (mmF t n).1 else n) else n) else n)
theorem K_Mm_mould {g : zG} {ad : Nat → Nat} {t : zTT} {u : zNN} {w : zW} (hI : IVm g ad t u w) : zMB g M_Mm_mould [.ref (ad 52)] w (fun o w1 => MKx g ad (tK_Mm_mould t u.1) (nK_Mm_mould t u.1) o w1) 10 300 := by
  obtain ⟨s, hI⟩ := hI
  by_cases hgc : ¬ fa_cnt (fun k => decide (((t.1 53).1) k = 103)) 12 = 0 ∧ anB (fun k => decide (((t.1 53).1) k = 99)) 108 = true
  · by_cases hn : nI (coN ((t.1 53).1)) ≤ gdS ((t.1 52).1 5) (t.2 2) (u.1 2)
    · by_cases hs : ¬ u.1 3 = 10
      · have eT : tK_Mm_mould t u.1 = mmT t u.1 := by
          unfold tK_Mm_mould
          rw [if_pos hgc, if_pos hn, if_pos hs]
        have eN : nK_Mm_mould t u.1 = z_upL (z_upL (z_upL u.1 3 (u.1 3 + 1)) 4 (u.1 4 + 1)) 2 (mmF t u.1).1 := by
          unfold nK_Mm_mould
          rw [if_pos hgc, if_pos hn, if_pos hs]
        rw [eT, eN]
        exact (Qx_Mm_mouldN hI hgc.1 hgc.2 hn hs u.1 rfl).mono (by decide) (by decide) (fun o w1 h => by obtain ⟨h1, u2, h2, h3⟩ := h; exact ⟨⟨_, h1⟩, u2, h2, IVm.of h3 (fun i hi => zup_cg (P := fun i => ¬ tx i) (fun i hi => if_neg hi) _ i hi) rfl⟩)
      · have eT : tK_Mm_mould t u.1 = t := by
          unfold tK_Mm_mould
          rw [if_pos hgc, if_pos hn, if_neg hs]
        have eN : nK_Mm_mould t u.1 = u.1 := by
          unfold nK_Mm_mould
          rw [if_pos hgc, if_pos hn, if_neg hs]
        rw [eT, eN]
        exact (Qx_Mm_mouldC hI hgc.1 hgc.2 hn (Classical.not_not.mp hs)).mono (by decide) (by decide) (fun o w1 h => ⟨⟨_, h.1⟩, u, rfl, ⟨_, h.2⟩⟩)
    · have eT : tK_Mm_mould t u.1 = t := by
        unfold tK_Mm_mould
        rw [if_pos hgc, if_neg hn]
      have eN : nK_Mm_mould t u.1 = u.1 := by
        unfold nK_Mm_mould
        rw [if_pos hgc, if_neg hn]
      rw [eT, eN]
      exact (Qx_Mm_mouldB hI hgc.1 hgc.2 hn).mono (by decide) (by decide) (fun o w1 h => ⟨⟨_, h.1⟩, u, rfl, ⟨_, h.2⟩⟩)
  · have eT : tK_Mm_mould t u.1 = t := by
      unfold tK_Mm_mould
      rw [if_neg hgc]
    have eN : nK_Mm_mould t u.1 = u.1 := by
      unfold nK_Mm_mould
      rw [if_neg hgc]
    rw [eT, eN]
    exact (Qx_Mm_mouldA hI hgc).mono (by decide) (by decide) (fun o w1 h => ⟨⟨_, h.1⟩, u, rfl, ⟨_, h.2⟩⟩)
noncomputable def tK_Mm_pour (S9 : zSC) (t : zTT) (n : Nat → Nat) : zTT := (if ¬ n 3 = 0 then (if ¬ (t.1 63).1 1 = 0 ∧ 1250 ≤ (t.1 52).1 6 then (if ¬ n 5 = 30 then pmT t (n 5) (n 6) (pShS t S9) (pFbS t S9) else t) else t) else t)
noncomputable def nK_Mm_pour (t : zTT) (n : Nat → Nat) : Nat → Nat := (if ¬ n 3 = 0 then (if ¬ (t.1 63).1 1 = 0 ∧ 1250 ≤ (t.1 52).1 6 then (if ¬ n 5 = 30 then z_upL (z_upL (z_upL (z_upL n 3 (n 3 - 1)) 4 (n 4 - 1)) 5 (n 5 + 1)) 6 (n 6 + 1) else n) else n) else n)
theorem K_Mm_pour {g : zG} {ad : Nat → Nat} {t : zTT} {u : zNN} {w : zW} (hI : IVm g ad t u w) : zMB g M_Mm_pour [.ref (ad 52)] w (fun o w1 => ∃ (S9 : zSC), MKx g ad (tK_Mm_pour S9 t u.1) (nK_Mm_pour t u.1) o w1) 10 300 := by
  obtain ⟨s, hI⟩ := hI
  by_cases h0 : ¬ u.1 3 = 0
  · by_cases h12 : ¬ (t.1 63).1 1 = 0 ∧ 1250 ≤ (t.1 52).1 6
    · by_cases h3 : ¬ u.1 5 = 30
      · refine (Qx_Mm_pourN hI h0 h12.1 h12.2 h3 u.1 rfl).mono (by decide) (by decide) (fun o w1 h => ?_)
        obtain ⟨a1, a2, a3, a4, a5, a6, a7, h1, u2, h2, h4⟩ := h
        have eT : tK_Mm_pour (a1, a2, a3, a4, a5, a6, a7) t u.1 = pmT t (u.1 5) (u.1 6) (pShS t (a1, a2, a3, a4, a5, a6, a7)) (pFbS t (a1, a2, a3, a4, a5, a6, a7)) := by
          unfold tK_Mm_pour
          rw [if_pos h0, if_pos h12, if_pos h3]
        have eN : nK_Mm_pour t u.1 = z_upL (z_upL (z_upL (z_upL u.1 3 (u.1 3 - 1)) 4 (u.1 4 - 1)) 5 (u.1 5 + 1)) 6 (u.1 6 + 1) := by
          unfold nK_Mm_pour
          rw [if_pos h0, if_pos h12, if_pos h3]
        refine ⟨(a1, a2, a3, a4, a5, a6, a7), ?_⟩
        rw [eT, eN]
        exact ⟨⟨_, h1⟩, u2, h2, IVm.of h4 (fun i hi => zup_cg (P := fun i => ¬ tx i) (fun i hi => if_neg hi) _ i hi) rfl⟩
      · refine (Qx_Mm_pourG hI h0 h12.1 h12.2 (Classical.not_not.mp h3)).mono (by decide) (by decide) (fun o w1 h => ⟨zS0, ?_⟩)
        have eT : tK_Mm_pour zS0 t u.1 = t := by
          unfold tK_Mm_pour
          rw [if_pos h0, if_pos h12, if_neg h3]
        have eN : nK_Mm_pour t u.1 = u.1 := by
          unfold nK_Mm_pour
          rw [if_pos h0, if_pos h12, if_neg h3]
        rw [eT, eN]
        exact ⟨⟨_, h.1⟩, u, rfl, ⟨_, h.2⟩⟩
    · refine (Qx_Mm_pourF hI h0 h12).mono (by decide) (by decide) (fun o w1 h => ⟨zS0, ?_⟩)
      have eT : tK_Mm_pour zS0 t u.1 = t := by
        unfold tK_Mm_pour
        rw [if_pos h0, if_neg h12]
      have eN : nK_Mm_pour t u.1 = u.1 := by
        unfold nK_Mm_pour
        rw [if_pos h0, if_neg h12]
      rw [eT, eN]
      exact ⟨⟨_, h.1⟩, u, rfl, ⟨_, h.2⟩⟩
  · refine (Qx_Mm_pourE hI (Classical.not_not.mp h0)).mono (by decide) (by decide) (fun o w1 h => ⟨zS0, ?_⟩)
    have eT : tK_Mm_pour zS0 t u.1 = t := by
      unfold tK_Mm_pour
      rw [if_neg h0]
    have eN : nK_Mm_pour t u.1 = u.1 := by
      unfold nK_Mm_pour
      rw [if_neg h0]
    rw [eT, eN]
    exact ⟨⟨_, h.1⟩, u, rfl, ⟨_, h.2⟩⟩
set_option maxHeartbeats 4000000 in
theorem Qx_Mm_delivered {g : zG} {ad : Nat → Nat} {t : zTT} {u : zNN} {w : zW} (hI : IV g ad t u w) : zMB g M_Mm_delivered [.ref (ad 52)] w (fun o w1 => o = .inl (some (.long ((t.1 52).2.1 1))) ∧ IV g ad t u w1) 0 0 := by
  obtain ⟨e_m, w_m, k_m⟩ := hI.1.2 52 (by decide)
  obtain ⟨v_m_th, rfl⟩ := kd_52.mp k_m
  refine ((C_Mm_delivered g (ad 52) (ad 53) (ad 54) (ad 55) (ad 56) (ad 57) (ad 58) (ad 59) (ad 60) (ad 61) (ad 62) (ad 63) (ad 64) (ad 65) (ad 66) (ad 67) (ad 68) v_m_th (nI ((t.1 52).2.2 0)) ((t.1 52).1 0) ((t.1 52).1 1) ((t.1 52).1 2) ((t.1 52).1 3) ((t.1 52).1 4) ((t.1 52).1 5) ((t.1 52).1 6) ((t.1 52).1 7) ((t.1 52).1 8) ((t.1 52).1 9) ((t.1 52).1 10) ((t.1 52).2.1 0) ((t.1 52).2.1 1)).at (hI.1.I [52] _ rfl (by decide) (by decide) (List.forall_mem_cons.mpr ⟨w_m, (fun _ h => nomatch h)⟩))).mono (Nat.le_of_ble_eq_true rfl) (Nat.le_of_ble_eq_true rfl) (fun o w1 hp => ?_)
  obtain ⟨cs1, hp, hi9⟩ := hp
  obtain ⟨e1, e2⟩ := hp
  subst e1; subst e2
  exact ⟨rfl, hI.fix (t2 := t) (is := [52]) hi9 rfl ⟨kd_52.mpr ⟨_, rfl⟩, trivial⟩ (by decide) (by decide) (fun _ _ _ => rfl) (fun h => h) rfl⟩
theorem K_Mm_delivered {g : zG} {ad : Nat → Nat} {t : zTT} {u : zNN} {w : zW} (hI : IVm g ad t u w) : zMB g M_Mm_delivered [.ref (ad 52)] w (fun o w1 => (∃ v : Int64, o = .inl (some (.long v))) ∧ IVm g ad t u w1) 10 300 := by
  obtain ⟨s, hI⟩ := hI
  exact (Qx_Mm_delivered hI).mono (by decide) (by decide) (fun o w1 h => ⟨⟨_, h.1⟩, ⟨_, h.2⟩⟩)
theorem K_Ip_delivered {g : zG} {ad : Nat → Nat} {t : zTT} {u : zNN} {w : zW} (hI : IVm g ad t u w) : zMB g M_Ip_delivered [.ref (ad 0)] w (fun o w1 => (∃ v : Int64, o = .inl (some (.long v))) ∧ IVm g ad t u w1) 10 300 := by
  obtain ⟨s, hI⟩ := hI
  exact (Q_delivered hI).mono (by decide) (by decide) (fun o w1 h => ⟨h.1, ⟨_, h.2 ▸ hI⟩⟩)
theorem K_Mm_goodShare {g : zG} {ad : Nat → Nat} {t : zTT} {u : zNN} {w : zW} (hI : IVm g ad t u w) : zMB g M_Mm_goodShare [.ref (ad 52)] w (fun o w1 => (∃ v : UInt32, o = .inl (some (.float v))) ∧ IVm g ad t u w1) 10 300 := by
  obtain ⟨s, hI⟩ := hI
  exact (Q_Mm_goodShare hI).mono (by decide) (by decide) (fun o w1 h => ⟨h.1, ⟨_, h.2⟩⟩)
theorem K_Mm_meanBar {g : zG} {ad : Nat → Nat} {t : zTT} {u : zNN} {w : zW} (hI : IVm g ad t u w) : zMB g M_Mm_meanBar [.ref (ad 52)] w (fun o w1 => (∃ v : UInt64, o = .inl (some (.double v))) ∧ IVm g ad t u w1) 10 300 := by
  obtain ⟨s, hI⟩ := hI
  by_cases h0 : u.1 5 = 0
  · exact (Q_Mm_meanBarE hI h0).mono (by decide) (by decide) (fun o w1 h => ⟨h.1, ⟨_, h.2⟩⟩)
  · exact (Q_Mm_meanBarN hI h0).mono (by decide) (by decide) (fun o w1 h => ⟨h.1, ⟨_, h.2⟩⟩)
end
section
def RELs (f m : Nat → Int32) : Prop := ∀ i, i < 5 → f i = m i ∧ 0 ≤ (f i).toInt ∧ (f i).toInt ≤ 300
def RELk (t : zTT) (n : Nat → Nat) (b : Nat) : Prop := (t.1 32).2.2 0 = n 2 ∧ (0 ≤ ((t.1 52).1 5).toInt ∧ ((t.1 52).1 5).toInt ≤ b) ∧ ∀ i, i < n 2 → (t.1 33).1 i = (t.2 2 i).2.1 0 ∧ (1 ≤ ((t.1 33).1 i).toInt ∧ ((t.1 33).1 i).toInt ≤ 10) ∧ (1 ≤ ((t.1 34).1 i).toInt ∧ ((t.1 34).1 i).toInt ≤ 24) ∧ (0 ≤ ((t.1 35).1 i).toInt ∧ ((t.1 35).1 i).toInt ≤ ((t.1 34).1 i).toInt + 72) ∧ ((t.2 2 i).2.1 1).toInt = ((t.1 52).1 5).toInt - ((t.1 35).1 i).toInt + ((t.1 34).1 i).toInt
def RELg (f G : Nat → Int64) (p : Nat) : Prop := ∀ e, e < 4 → f e = G (4 * p + e)
def RELI (a b c d : Int32) (A B C D : Nat → Int64) (mi : Nat → Int32) (G : Nat → Int64) : Prop := (a = mi 0 ∧ b = mi 1 ∧ c = mi 2 ∧ d = mi 3) ∧ RELg A G 0 ∧ RELg B G 1 ∧ RELg C G 2 ∧ RELg D G 3
def RELi (t : zTT) : Prop := RELI ((t.1 37).1 0) ((t.1 43).1 0) ((t.1 45).1 0) ((t.1 47).1 0) (t.1 38).2.1 (t.1 44).2.1 (t.1 46).2.1 (t.1 48).2.1 (t.1 63).1 (t.1 64).2.1
def RELl (t : zTT) : Prop := (0 ≤ ((t.1 63).1 1).toInt) ∧ (¬ (t.1 63).1 1 = 0 → (t.1 42).1 0 = (t.1 52).1 6 ∧ (t.1 42).1 1 = (t.1 52).1 7 ∧ (t.1 42).1 2 = (t.1 52).1 8 ∧ (20 ≤ ((t.1 42).1 0).toInt ∧ ((t.1 42).1 0).toInt ≤ 1450) ∧ (0 ≤ ((t.1 42).1 1).toInt ∧ ((t.1 42).1 1).toInt ≤ 100) ∧ ((t.1 42).1 2 = 0 ∨ (t.1 42).1 2 = 1))
def RELr (t : zTT) : Prop := ((t.1 49).1 2 = 0 ∧ (t.1 52).1 9 = -1) ∨ (¬ (t.1 49).1 2 = 0 ∧ (t.1 49).1 0 = (t.1 52).1 9 ∧ (t.1 49).1 1 = (t.1 52).1 10 ∧ ¬ (t.1 52).1 9 = -1)
def RELm (v a b : zV) : Prop := v.2.1 = a.2.1 ∧ v.2.2.2 0 = fa_cnt (fun k => tmB (v.2.1 k)) 108 ∧ v.1 0 = rsR v.2.1 ∧ v.1 1 = bdI v.2.1 (b.2.2.2 0) ∧ v.1 2 = b.2.1 1 ∧ v.1 3 = b.2.1 2 ∧ v.1 4 = b.2.1 3 ∧ v.1 5 = b.2.1 4
def RELc (v a g : zV) : Prop := v.1 0 = a.2.1 1 ∧ v.1 5 = a.2.1 0 ∧ (∀ e, e < 4 → v.2.2.1 e = g.2.2.1 e) ∧ (v.1 2 &&& -2 = a.2.1 2 &&& -2 ∧ (v.1 2 &&& 2 = 0 → v.1 2 = a.2.1 2)) ∧ ((v.1 3 = 0 ∧ v.1 4 = 0 ∧ a.2.1 5 = 0) ∨ (v.1 3 = 1 ∧ v.1 4 = 0 ∧ a.2.1 5 = 1) ∨ (v.1 3 = 0 ∧ v.1 4 = 1 ∧ a.2.1 5 = 2)) ∧ a.2.1 4 = (if v.1 0 < 20 then 0 else 1)
def REL (t : zTT) (n : Nat → Nat) (b : Nat) : Prop := ((t.1 2).1 = (t.1 53).1) ∧ ((t.1 1).2.2 0 = (t.1 52).2.2 0) ∧ (RELs (t.1 31).1 (t.1 52).1) ∧ (RELk t n b) ∧ (RELi t) ∧ (RELl t) ∧ (RELr t) ∧ (n 0 = n 3 ∧ n 4 = n 3 ∧ ∀ i, i < n 0 → RELm (t.2 0 i) (t.2 3 i) (t.2 4 i)) ∧ (n 1 = n 5 ∧ n 6 = n 5 ∧ ∀ i, i < n 1 → RELc (t.2 1 i) (t.2 5 i) (t.2 6 i)) ∧ (0 ≤ ((t.1 63).1 0).toInt ∧ ((t.1 63).1 0).toInt ≤ 3000) ∧ (n 2 ≤ 20 ∧ n 0 ≤ 10 ∧ n 1 ≤ 30) ∧ (∀ k, 108 ≤ k → (t.1 2).1 k = 0)
theorem REL.pa {t : zTT} {n : Nat → Nat} {b : Nat} (h : REL t n b) : (t.1 2).1 = (t.1 53).1 := h.1
theorem REL.pt {t : zTT} {n : Nat → Nat} {b : Nat} (h : REL t n b) : (t.1 1).2.2 0 = (t.1 52).2.2 0 := h.2.1
theorem REL.sa {t : zTT} {n : Nat → Nat} {b : Nat} (h : REL t n b) : RELs (t.1 31).1 (t.1 52).1 := h.2.2.1
theorem REL.co {t : zTT} {n : Nat → Nat} {b : Nat} (h : REL t n b) : RELk t n b := h.2.2.2.1
theorem REL.ir {t : zTT} {n : Nat → Nat} {b : Nat} (h : REL t n b) : RELi t := h.2.2.2.2.1
theorem REL.la {t : zTT} {n : Nat → Nat} {b : Nat} (h : REL t n b) : RELl t := h.2.2.2.2.2.1
theorem REL.re {t : zTT} {n : Nat → Nat} {b : Nat} (h : REL t n b) : RELr t := h.2.2.2.2.2.2.1
theorem REL.mo {t : zTT} {n : Nat → Nat} {b : Nat} (h : REL t n b) : n 0 = n 3 ∧ n 4 = n 3 ∧ ∀ i, i < n 0 → RELm (t.2 0 i) (t.2 3 i) (t.2 4 i) := h.2.2.2.2.2.2.2.1
theorem REL.ca {t : zTT} {n : Nat → Nat} {b : Nat} (h : REL t n b) : n 1 = n 5 ∧ n 6 = n 5 ∧ ∀ i, i < n 1 → RELc (t.2 1 i) (t.2 5 i) (t.2 6 i) := h.2.2.2.2.2.2.2.2.1
theorem REL.fb {t : zTT} {n : Nat → Nat} {b : Nat} (h : REL t n b) : 0 ≤ ((t.1 63).1 0).toInt ∧ ((t.1 63).1 0).toInt ≤ 3000 := h.2.2.2.2.2.2.2.2.2.1
theorem REL.sz {t : zTT} {n : Nat → Nat} {b : Nat} (h : REL t n b) : n 2 ≤ 20 ∧ n 0 ≤ 10 ∧ n 1 ≤ 30 := h.2.2.2.2.2.2.2.2.2.2.1
theorem REL.pz {t : zTT} {n : Nat → Nat} {b : Nat} (h : REL t n b) : ∀ k, 108 ≤ k → (t.1 2).1 k = 0 := h.2.2.2.2.2.2.2.2.2.2.2
theorem RELs.u5 {f m : Nat → Int32} {k : Nat} {v : Int32} (h : RELs f m) (hk : 5 ≤ k) : RELs f (upd m k v) := fun i hi => by
  rw [upd_ne (by omega)]
  exact h i hi
theorem RELI.mv01 {a b c d x : Int32} {A B C D : Nat → Int64} {mi : Nat → Int32} {G : Nat → Int64} (h : RELI a b c d A B C D mi G) : RELI (a - x) (b + x) c d (mvS A x a 4) (mvT A x a B 4) C D (mvN mi 0 1 x) (mvR G 0 1 x (mi 0) 4) := by
  obtain ⟨⟨h0, h1, h2, h3⟩, g0, g1, g2, g3⟩ := h
  have k := mv_rel (am := x) (ir := mi 0) (show ¬ 0 = 1 by decide) g0 g1 4 (Nat.le_refl _)
  rw [h0]
  refine ⟨⟨?_, ?_, ?_, ?_⟩, ?_, ?_, ?_, ?_⟩
  · rw [mvN_fr (by decide)]
  · rw [mvN_to (by decide), h1]
  · rw [mvN_ot (by decide) (by decide)]; exact h2
  · rw [mvN_ot (by decide) (by decide)]; exact h3
  · exact k.1
  · exact k.2.1
  · exact fun e he => (g2 e he).trans (k.2.2 2 (by decide) (by decide) e he).symm
  · exact fun e he => (g3 e he).trans (k.2.2 3 (by decide) (by decide) e he).symm
theorem RELI.mv12 {a b c d x : Int32} {A B C D : Nat → Int64} {mi : Nat → Int32} {G : Nat → Int64} (h : RELI a b c d A B C D mi G) : RELI a (b - x) (c + x) d A (mvS B x b 4) (mvT B x b C 4) D (mvN mi 1 2 x) (mvR G 1 2 x (mi 1) 4) := by
  obtain ⟨⟨h0, h1, h2, h3⟩, g0, g1, g2, g3⟩ := h
  have k := mv_rel (am := x) (ir := mi 1) (show ¬ 1 = 2 by decide) g1 g2 4 (Nat.le_refl _)
  rw [h1]
  refine ⟨⟨?_, ?_, ?_, ?_⟩, ?_, ?_, ?_, ?_⟩
  · rw [mvN_ot (by decide) (by decide)]; exact h0
  · rw [mvN_fr (by decide)]
  · rw [mvN_to (by decide), h2]
  · rw [mvN_ot (by decide) (by decide)]; exact h3
  · exact fun e he => (g0 e he).trans (k.2.2 0 (by decide) (by decide) e he).symm
  · exact k.1
  · exact k.2.1
  · exact fun e he => (g3 e he).trans (k.2.2 3 (by decide) (by decide) e he).symm
theorem RELI.mv13 {a b c d x : Int32} {A B C D : Nat → Int64} {mi : Nat → Int32} {G : Nat → Int64} (h : RELI a b c d A B C D mi G) : RELI a (b - x) c (d + x) A (mvS B x b 4) C (mvT B x b D 4) (mvN mi 1 3 x) (mvR G 1 3 x (mi 1) 4) := by
  obtain ⟨⟨h0, h1, h2, h3⟩, g0, g1, g2, g3⟩ := h
  have k := mv_rel (am := x) (ir := mi 1) (show ¬ 1 = 3 by decide) g1 g3 4 (Nat.le_refl _)
  rw [h1]
  refine ⟨⟨?_, ?_, ?_, ?_⟩, ?_, ?_, ?_, ?_⟩
  · rw [mvN_ot (by decide) (by decide)]; exact h0
  · rw [mvN_fr (by decide)]
  · rw [mvN_ot (by decide) (by decide)]; exact h2
  · rw [mvN_to (by decide), h3]
  · exact fun e he => (g0 e he).trans (k.2.2 0 (by decide) (by decide) e he).symm
  · exact k.1
  · exact fun e he => (g2 e he).trans (k.2.2 2 (by decide) (by decide) e he).symm
  · exact k.2.1
theorem RELI.mv20 {a b c d x : Int32} {A B C D : Nat → Int64} {mi : Nat → Int32} {G : Nat → Int64} (h : RELI a b c d A B C D mi G) : RELI (a + x) b (c - x) d (mvT C x c A 4) B (mvS C x c 4) D (mvN mi 2 0 x) (mvR G 2 0 x (mi 2) 4) := by
  obtain ⟨⟨h0, h1, h2, h3⟩, g0, g1, g2, g3⟩ := h
  have k := mv_rel (am := x) (ir := mi 2) (show ¬ 2 = 0 by decide) g2 g0 4 (Nat.le_refl _)
  rw [h2]
  refine ⟨⟨?_, ?_, ?_, ?_⟩, ?_, ?_, ?_, ?_⟩
  · rw [mvN_to (by decide), h0]
  · rw [mvN_ot (by decide) (by decide)]; exact h1
  · rw [mvN_fr (by decide)]
  · rw [mvN_ot (by decide) (by decide)]; exact h3
  · exact k.2.1
  · exact fun e he => (g1 e he).trans (k.2.2 1 (by decide) (by decide) e he).symm
  · exact k.1
  · exact fun e he => (g3 e he).trans (k.2.2 3 (by decide) (by decide) e he).symm
theorem RELI.mv30 {a b c d x : Int32} {A B C D : Nat → Int64} {mi : Nat → Int32} {G : Nat → Int64} (h : RELI a b c d A B C D mi G) : RELI (a + x) b c (d - x) (mvT D x d A 4) B C (mvS D x d 4) (mvN mi 3 0 x) (mvR G 3 0 x (mi 3) 4) := by
  obtain ⟨⟨h0, h1, h2, h3⟩, g0, g1, g2, g3⟩ := h
  have k := mv_rel (am := x) (ir := mi 3) (show ¬ 3 = 0 by decide) g3 g0 4 (Nat.le_refl _)
  rw [h3]
  refine ⟨⟨?_, ?_, ?_, ?_⟩, ?_, ?_, ?_, ?_⟩
  · rw [mvN_to (by decide), h0]
  · rw [mvN_ot (by decide) (by decide)]; exact h1
  · rw [mvN_ot (by decide) (by decide)]; exact h2
  · rw [mvN_fr (by decide)]
  · exact k.2.1
  · exact fun e he => (g1 e he).trans (k.2.2 1 (by decide) (by decide) e he).symm
  · exact fun e he => (g2 e he).trans (k.2.2 2 (by decide) (by decide) e he).symm
  · exact k.1
theorem RELg.z {f G : Nat → Int64} (h : RELg f G 0) : ∀ e, e < 4 → f e = G e := fun e he => by
  have := h e he
  rwa [show 4 * 0 + e = e by omega] at this
theorem RELI.inn {a b c d x : Int32} {A B C D δ : Nat → Int64} {mi : Nat → Int32} {G : Nat → Int64} (h : RELI a b c d A B C D mi G) : RELI (a + x) b c d (lfd A δ 4) B C D (upd mi 0 (mi 0 + x)) (lfd G δ 4) := by
  obtain ⟨⟨h0, h1, h2, h3⟩, g0, g1, g2, g3⟩ := h
  refine ⟨⟨?_, ?_, ?_, ?_⟩, fun e he => ?_, fun e he => ?_, fun e he => ?_, fun e he => ?_⟩
  · rw [upd_eq, h0]
  · rw [upd_ne (by decide)]; exact h1
  · rw [upd_ne (by decide)]; exact h2
  · rw [upd_ne (by decide)]; exact h3
  · rw [lfd_rel (g0.z) 4 (Nat.le_refl _) e, if_pos he, show 4 * 0 + e = e by omega]
  · rw [lfd_out 4 _ (by omega)]; exact g1 e he
  · rw [lfd_out 4 _ (by omega)]; exact g2 e he
  · rw [lfd_out 4 _ (by omega)]; exact g3 e he
theorem RELI.hold {a b c d : Int32} {A B C D T : Nat → Int64} {mi : Nat → Int32} {G : Nat → Int64} (h : RELI a b c d A B C D mi G) (n : Nat) : RELI a b c d (lmS (A, T) n).1 B C D mi (hdR G n) := by
  obtain ⟨h0, g0, g1, g2, g3⟩ := h
  obtain ⟨k1, k2⟩ := hd_rel (T := T) (g0.z) n
  refine ⟨h0, fun e he => ?_, fun e he => ?_, fun e he => ?_, fun e he => ?_⟩
  · rw [show 4 * 0 + e = e by omega]; exact k1 e he
  · rw [k2 _ (by omega)]; exact g1 e he
  · rw [k2 _ (by omega)]; exact g2 e he
  · rw [k2 _ (by omega)]; exact g3 e he
theorem br_rel {G f d d2 : Nat → Int64} {to : Nat} (hf : RELg f G to) (hd : ∀ e, e < 4 → d e = d2 e) : ∀ n, n ≤ 4 → (∀ e, e < 4 → lfd f d n e = brR G to d2 n (4 * to + e)) ∧ ∀ p, ¬ p = to → ∀ e, e < 4 → brR G to d2 n (4 * p + e) = G (4 * p + e)
  | 0, _ => ⟨hf, fun _ _ _ _ => rfl⟩
  | n + 1, hn => by
    obtain ⟨h1, h2⟩ := br_rel hf hd n (by omega)
    refine ⟨fun e he => ?_, fun p hp e he => ?_⟩
    · show vp_updL _ _ _ _ = vp_updL _ _ _ _
      by_cases q : e = n
      · subst q
        rw [updL_eq, updL_eq, h1 e he, hd e he]
      · rw [updL_ne q, updL_ne (by omega), h1 e he]
    · show vp_updL _ _ _ _ = _
      rw [updL_ne (by omega)]
      exact h2 p hp e he
theorem RELI.bu2 {a b c d x y : Int32} {A B C D δ δ2 : Nat → Int64} {mi : Nat → Int32} {G : Nat → Int64} (h : RELI a b c d A B C D mi G) (hx : x = y) (hd : ∀ e, e < 4 → δ e = δ2 e) : RELI a b (c + x) d A B (lfd C δ 4) D (upd mi 2 (mi 2 + y)) (brR G 2 δ2 4) := by
  obtain ⟨⟨h0, h1, h2, h3⟩, g0, g1, g2, g3⟩ := h
  obtain ⟨k1, k2⟩ := br_rel g2 hd 4 (Nat.le_refl _)
  refine ⟨⟨?_, ?_, ?_, ?_⟩, fun e he => ?_, fun e he => ?_, k1, fun e he => ?_⟩
  · rw [upd_ne (by decide)]; exact h0
  · rw [upd_ne (by decide)]; exact h1
  · rw [upd_eq, h2, hx]
  · rw [upd_ne (by decide)]; exact h3
  · rw [k2 0 (by decide) e he]; exact g0 e he
  · rw [k2 1 (by decide) e he]; exact g1 e he
  · rw [k2 3 (by decide) e he]; exact g3 e he
theorem RELI.bu3 {a b c d x y : Int32} {A B C D δ δ2 : Nat → Int64} {mi : Nat → Int32} {G : Nat → Int64} (h : RELI a b c d A B C D mi G) (hx : x = y) (hd : ∀ e, e < 4 → δ e = δ2 e) : RELI a b c (d + x) A B C (lfd D δ 4) (upd mi 3 (mi 3 + y)) (brR G 3 δ2 4) := by
  obtain ⟨⟨h0, h1, h2, h3⟩, g0, g1, g2, g3⟩ := h
  obtain ⟨k1, k2⟩ := br_rel g3 hd 4 (Nat.le_refl _)
  refine ⟨⟨?_, ?_, ?_, ?_⟩, fun e he => ?_, fun e he => ?_, fun e he => ?_, k1⟩
  · rw [upd_ne (by decide)]; exact h0
  · rw [upd_ne (by decide)]; exact h1
  · rw [upd_ne (by decide)]; exact h2
  · rw [upd_eq, h3, hx]
  · rw [k2 0 (by decide) e he]; exact g0 e he
  · rw [k2 1 (by decide) e he]; exact g1 e he
  · rw [k2 2 (by decide) e he]; exact g2 e he
theorem REL.n {t : zTT} {n m : Nat → Nat} {b : Nat} (h : REL t n b) (e : m = n) : REL t m b := by
  subst e
  exact h
theorem REL.up {t : zTT} {n : Nat → Nat} {b c : Nat} (h : REL t n b) (e : b ≤ c) : REL t n c := ⟨h.pa, h.pt, h.sa, ⟨h.co.1, ⟨h.co.2.1.1, by have := h.co.2.1.2; omega⟩, h.co.2.2⟩, h.ir, h.la, h.re, h.mo, h.ca, h.fb, h.sz, h.pz⟩
theorem prow_out {k : Int32} {b : Nat} {s : (Nat → Int32) × Nat} {c : Nat} : ∀ j, (∀ i, i < j → ¬ c = b + i) → (prow k b s j).1 c = s.1 c
  | 0, _ => rfl
  | j + 1, h => by
    have ih := prow_out (k := k) (s := s) j (fun i hi => h i (by omega))
    by_cases q : (prow k b s j).1 (b + j) = k
    · rw [prow_t q]; exact ih
    · rw [prow_f q]
      show upd (prow k b s j).1 (b + j) k c = _
      rw [upd_ne (h j (by omega))]
      exact ih
theorem prect_out {k : Int32} {a b u : Nat} {s : (Nat → Int32) × Nat} {c : Nat} (hc : 108 ≤ c) (ha : a + u ≤ 12) : ∀ v, b + v ≤ 9 → (prect k a b u s v).1 c = s.1 c
  | 0, _ => rfl
  | v + 1, h => by
    show (prow k (12 * (b + v) + a) (prect k a b u s v) u).1 c = _
    rw [prow_out u (fun i hi => by omega)]
    exact prect_out hc ha v (by omega)
theorem R_draw {t : zTT} {n n1 n2 : Nat → Nat} {b : Nat} (k x y p q : Int32) (h : REL t n b) (e1 : n1 = n) (e2 : n2 = n1) : REL (tK_Mm_draw k x y p q (tK_Ip_draw k x y p q t)) n2 b := by
  subst e1; subst e2
  unfold tK_Ip_draw
  by_cases hd : 0 ≤ z_ix 0 k ∧ (0 ≤ x ∧ x < 12 ∧ 0 ≤ y ∧ y < 9) ∧ 1 ≤ p ∧ p ≤ 12 - x ∧ 1 ≤ q ∧ q ≤ 9 - y
  · rw [if_pos hd]
    unfold tK_Mm_draw
    rw [if_pos hd]
    obtain ⟨a9, b9, c9, d9, i1, i2, -, -, rfl, rfl, rfl, rfl, -, -⟩ := z_dr_in hd
    rw [nI_clamp (by omega), nI_clamp (by omega), nI_clamp (by omega), nI_clamp (by omega)]
    refine ⟨?_, h.pt, h.sa, h.co, h.ir, h.la, h.re, h.mo, h.ca, h.fb, h.sz, fun c hc => ?_⟩
    · show (prect k a9 b9 c9 ((t.1 2).1, 0) d9).1 = (prect k a9 b9 c9 ((t.1 53).1, 0) d9).1
      rw [h.pa]
    · show (prect k a9 b9 c9 ((t.1 2).1, 0) d9).1 c = 0
      rw [prect_out hc i1 d9 i2]
      exact h.pz c hc
  · rw [if_neg hd]
    unfold tK_Mm_draw
    rw [if_neg hd]
    exact h
theorem R_part {t : zTT} {n n1 n2 : Nat → Nat} {b : Nat} (r : Int32) (h : REL t n b) (e1 : n1 = n) (e2 : n2 = n1) : REL (tK_Mm_part r (tK_Ip_part r t)) n2 b := by
  subst e1; subst e2
  unfold tK_Ip_part
  by_cases hw : 1 ≤ r ∧ r ≤ 8
  · rw [if_pos hw]
    unfold tK_Mm_part
    rw [if_pos hw]
    exact ⟨h.pa, rfl, h.sa, h.co, h.ir, h.la, h.re, h.mo, h.ca, h.fb, h.sz, h.pz⟩
  · rw [if_neg hw]
    unfold tK_Mm_part
    rw [if_neg hw]
    exact h
theorem z_sat {x : Int32} {a : Int} (h : x.toInt = a) (h0 : 0 ≤ a) : S_Mm_most x = (if x < 300 then x else 300) := by
  have e3 : (300 : Int32).toInt = 300 := rfl
  have e0 : (0 : Int32).toInt = 0 := rfl
  unfold S_Mm_most
  by_cases q : x < 300
  · rw [if_pos q]
    by_cases q0 : 0 < x
    · rw [if_pos q0]
    · rw [if_neg q0]
      rw [Int32.lt_iff_toInt_lt, e0] at q0
      exact (Int32.toInt_inj.mp (by rw [e0]; omega)).symm
  · rw [if_neg q]
    rw [if_pos (by decide)]
theorem fb_add {x m : Int32} (h : 0 ≤ x.toInt ∧ x.toInt ≤ 3000) (hm : 1 ≤ m ∧ m ≤ 1000) (hg : ¬ 3000 < x + m) : 0 ≤ (x + m).toInt ∧ (x + m).toInt ≤ 3000 := by
  have e1 : (1 : Int32).toInt = 1 := rfl
  have e2 : (1000 : Int32).toInt = 1000 := rfl
  have e3 : (3000 : Int32).toInt = 3000 := rfl
  have h1 := hm.1
  have h2 := hm.2
  rw [Int32.le_iff_toInt_le, e1] at h1
  rw [Int32.le_iff_toInt_le, e2] at h2
  have e : (x + m).toInt = x.toInt + m.toInt := by rw [Int32.toInt_add]; exact bm32 (by omega) (by omega)
  rw [Int32.lt_iff_toInt_lt, e3] at hg
  omega
theorem fb_sub {x m : Int32} (h : 0 ≤ x.toInt ∧ x.toInt ≤ 3000) (hm : 1 ≤ m ∧ m ≤ 500) (hg : ¬ x < m) : 0 ≤ (x - m).toInt ∧ (x - m).toInt ≤ 3000 := by
  have e1 : (1 : Int32).toInt = 1 := rfl
  have e2 : (500 : Int32).toInt = 500 := rfl
  have h1 := hm.1
  have h2 := hm.2
  rw [Int32.le_iff_toInt_le, e1] at h1
  rw [Int32.le_iff_toInt_le, e2] at h2
  have e : (x - m).toInt = x.toInt - m.toInt := by rw [Int32.toInt_sub]; exact bm32 (by omega) (by omega)
  rw [Int32.lt_iff_toInt_lt] at hg
  omega
theorem fb_no {x y : Int32} (h : 0 ≤ y.toInt ∧ y.toInt ≤ 3000) (e : x = y) : ¬ 3000 < x + 0 := by
  subst e
  rw [Int32.add_zero, Int32.lt_iff_toInt_lt, show (3000 : Int32).toInt = 3000 from rfl]
  omega
theorem R_charge {t : zTT} {n n1 n2 : Nat → Nat} {b : Nat} (k m : Int32) (h : REL t n b) (e1 : n1 = n) (e2 : n2 = n1) : REL (tK_Mm_charge k m (tK_Ip_charge k m t)) n2 b := by
  subst e1; subst e2
  unfold tK_Ip_charge
  by_cases hw : 0 ≤ z_ix 1 k ∧ (1 ≤ m ∧ m ≤ 1000)
  · rw [if_pos hw]
    rcases z_ix1 hw.1 with rfl | rfl | rfl | rfl | rfl | rfl
    · rw [if_pos (rfl : (112 : Int32) = 112)]
      by_cases hg : 3000 < (t.1 37).1 0 + m
      · rw [if_pos hg]
        unfold tK_Mm_charge
        refine Eq.mpr (congrArg (fun z => REL z _ _) ((if_pos hw).trans ((if_pos (rfl : (112 : Int32) = 112)).trans (if_pos (show 3000 < (t.1 63).1 0 + m by rw [← h.ir.1.1]; exact hg))))) ?_
        exact h
      · rw [if_neg hg]
        unfold tK_Mm_charge
        refine Eq.mpr (congrArg (fun z => REL z _ _) ((if_pos hw).trans ((if_pos (rfl : (112 : Int32) = 112)).trans (if_neg (show ¬ 3000 < (t.1 63).1 0 + m by rw [← h.ir.1.1]; exact hg))))) ?_
        exact ⟨h.pa, h.pt, h.sa, h.co, h.ir.inn (x := m) (δ := fun e => chS m 0 e / 10), h.la, h.re, h.mo, h.ca, (by show 0 ≤ ((t.1 63).1 0 + m).toInt ∧ ((t.1 63).1 0 + m).toInt ≤ 3000; exact fb_add h.fb hw.2 (by rw [← h.ir.1.1]; exact hg)), h.sz, h.pz⟩
    · rw [if_neg (show ¬ ((115 : Int32) = 112) by decide), if_pos (rfl : (115 : Int32) = 115)]
      by_cases hg : 3000 < (t.1 37).1 0 + m
      · rw [if_pos hg]
        unfold tK_Mm_charge
        refine Eq.mpr (congrArg (fun z => REL z _ _) ((if_pos hw).trans ((if_neg (show ¬ ((115 : Int32) = 112) by decide)).trans ((if_pos (rfl : (115 : Int32) = 115)).trans (if_pos (show 3000 < (t.1 63).1 0 + m by rw [← h.ir.1.1]; exact hg)))))) ?_
        exact h
      · rw [if_neg hg]
        unfold tK_Mm_charge
        refine Eq.mpr (congrArg (fun z => REL z _ _) ((if_pos hw).trans ((if_neg (show ¬ ((115 : Int32) = 112) by decide)).trans ((if_pos (rfl : (115 : Int32) = 115)).trans (if_neg (show ¬ 3000 < (t.1 63).1 0 + m by rw [← h.ir.1.1]; exact hg)))))) ?_
        exact ⟨h.pa, h.pt, h.sa, h.co, h.ir.inn (x := m) (δ := fun e => chS m 1 e / 10), h.la, h.re, h.mo, h.ca, (by show 0 ≤ ((t.1 63).1 0 + m).toInt ∧ ((t.1 63).1 0 + m).toInt ≤ 3000; exact fb_add h.fb hw.2 (by rw [← h.ir.1.1]; exact hg)), h.sz, h.pz⟩
    · rw [if_neg (show ¬ ((102 : Int32) = 112) by decide), if_neg (show ¬ ((102 : Int32) = 115) by decide), if_pos (rfl : (102 : Int32) = 102)]
      by_cases hg : 3000 < (t.1 37).1 0 + m
      · rw [if_pos hg]
        unfold tK_Mm_charge
        refine Eq.mpr (congrArg (fun z => REL z _ _) ((if_pos hw).trans ((if_neg (show ¬ ((102 : Int32) = 112) by decide)).trans ((if_neg (show ¬ ((102 : Int32) = 115) by decide)).trans ((if_pos (rfl : (102 : Int32) = 102)).trans (if_pos (show 3000 < (t.1 63).1 0 + m by rw [← h.ir.1.1]; exact hg))))))) ?_
        exact h
      · rw [if_neg hg]
        unfold tK_Mm_charge
        refine Eq.mpr (congrArg (fun z => REL z _ _) ((if_pos hw).trans ((if_neg (show ¬ ((102 : Int32) = 112) by decide)).trans ((if_neg (show ¬ ((102 : Int32) = 115) by decide)).trans ((if_pos (rfl : (102 : Int32) = 102)).trans (if_neg (show ¬ 3000 < (t.1 63).1 0 + m by rw [← h.ir.1.1]; exact hg))))))) ?_
        exact ⟨h.pa, h.pt, h.sa, h.co, h.ir.inn (x := m) (δ := fun e => chS m 2 e / 10), h.la, h.re, h.mo, h.ca, (by show 0 ≤ ((t.1 63).1 0 + m).toInt ∧ ((t.1 63).1 0 + m).toInt ≤ 3000; exact fb_add h.fb hw.2 (by rw [← h.ir.1.1]; exact hg)), h.sz, h.pz⟩
    · rw [if_neg (show ¬ ((107 : Int32) = 112) by decide), if_neg (show ¬ ((107 : Int32) = 115) by decide), if_neg (show ¬ ((107 : Int32) = 102) by decide), if_pos (rfl : (107 : Int32) = 107)]
      by_cases hg : 3000 < (t.1 37).1 0 + 0
      · exact absurd hg (fb_no h.fb h.ir.1.1)
      · rw [if_neg hg]
        unfold tK_Mm_charge
        refine Eq.mpr (congrArg (fun z => REL z _ _) ((if_pos hw).trans ((if_neg (show ¬ ((107 : Int32) = 112) by decide)).trans ((if_neg (show ¬ ((107 : Int32) = 115) by decide)).trans ((if_neg (show ¬ ((107 : Int32) = 102) by decide)).trans (if_pos (rfl : (107 : Int32) = 107))))))) ?_
        exact ⟨h.pa, h.pt, h.sa, h.co, h.ir.inn (x := 0) (δ := fun e => chS m 3 e / 10), h.la, h.re, h.mo, h.ca, (by show 0 ≤ ((t.1 63).1 0 + 0).toInt ∧ ((t.1 63).1 0 + 0).toInt ≤ 3000; rw [Int32.add_zero]; exact h.fb), h.sz, h.pz⟩
    · rw [if_neg (show ¬ ((103 : Int32) = 112) by decide), if_neg (show ¬ ((103 : Int32) = 115) by decide), if_neg (show ¬ ((103 : Int32) = 102) by decide), if_neg (show ¬ ((103 : Int32) = 107) by decide), if_pos (rfl : (103 : Int32) = 103)]
      by_cases hf : (t.1 45).1 0 < m
      · rw [if_pos hf]
        unfold tK_Mm_charge
        refine Eq.mpr (congrArg (fun z => REL z _ _) ((if_pos hw).trans ((if_neg (show ¬ ((103 : Int32) = 112) by decide)).trans ((if_neg (show ¬ ((103 : Int32) = 115) by decide)).trans ((if_neg (show ¬ ((103 : Int32) = 102) by decide)).trans ((if_neg (show ¬ ((103 : Int32) = 107) by decide)).trans ((if_pos (rfl : (103 : Int32) = 103)).trans (if_pos (show (t.1 63).1 2 < m by rw [← h.ir.1.2.2.1]; exact hf))))))))) ?_
        exact h
      · rw [if_neg hf]
        by_cases hg : 3000 < (t.1 37).1 0 + m
        · rw [if_pos hg]
          unfold tK_Mm_charge
          refine Eq.mpr (congrArg (fun z => REL z _ _) ((if_pos hw).trans ((if_neg (show ¬ ((103 : Int32) = 112) by decide)).trans ((if_neg (show ¬ ((103 : Int32) = 115) by decide)).trans ((if_neg (show ¬ ((103 : Int32) = 102) by decide)).trans ((if_neg (show ¬ ((103 : Int32) = 107) by decide)).trans ((if_pos (rfl : (103 : Int32) = 103)).trans ((if_neg (show ¬ (t.1 63).1 2 < m by rw [← h.ir.1.2.2.1]; exact hf)).trans (if_pos (show 3000 < (t.1 63).1 0 + m by rw [← h.ir.1.1]; exact hg)))))))))) ?_
          exact h
        · rw [if_neg hg]
          unfold tK_Mm_charge
          refine Eq.mpr (congrArg (fun z => REL z _ _) ((if_pos hw).trans ((if_neg (show ¬ ((103 : Int32) = 112) by decide)).trans ((if_neg (show ¬ ((103 : Int32) = 115) by decide)).trans ((if_neg (show ¬ ((103 : Int32) = 102) by decide)).trans ((if_neg (show ¬ ((103 : Int32) = 107) by decide)).trans ((if_pos (rfl : (103 : Int32) = 103)).trans ((if_neg (show ¬ (t.1 63).1 2 < m by rw [← h.ir.1.2.2.1]; exact hf)).trans (if_neg (show ¬ 3000 < (t.1 63).1 0 + m by rw [← h.ir.1.1]; exact hg)))))))))) ?_
          exact ⟨h.pa, h.pt, h.sa, h.co, h.ir.mv20 (x := m), h.la, h.re, h.mo, h.ca, (by show 0 ≤ ((t.1 63).1 0 + m).toInt ∧ ((t.1 63).1 0 + m).toInt ≤ 3000; exact fb_add h.fb hw.2 (by rw [← h.ir.1.1]; exact hg)), h.sz, h.pz⟩
    · rw [if_neg (show ¬ ((100 : Int32) = 112) by decide), if_neg (show ¬ ((100 : Int32) = 115) by decide), if_neg (show ¬ ((100 : Int32) = 102) by decide), if_neg (show ¬ ((100 : Int32) = 107) by decide), if_neg (show ¬ ((100 : Int32) = 103) by decide)]
      by_cases hf : (t.1 47).1 0 < m
      · rw [if_pos hf]
        unfold tK_Mm_charge
        refine Eq.mpr (congrArg (fun z => REL z _ _) ((if_pos hw).trans ((if_neg (show ¬ ((100 : Int32) = 112) by decide)).trans ((if_neg (show ¬ ((100 : Int32) = 115) by decide)).trans ((if_neg (show ¬ ((100 : Int32) = 102) by decide)).trans ((if_neg (show ¬ ((100 : Int32) = 107) by decide)).trans ((if_neg (show ¬ ((100 : Int32) = 103) by decide)).trans (if_pos (show (t.1 63).1 3 < m by rw [← h.ir.1.2.2.2]; exact hf))))))))) ?_
        exact h
      · rw [if_neg hf]
        by_cases hg : 3000 < (t.1 37).1 0 + m
        · rw [if_pos hg]
          unfold tK_Mm_charge
          refine Eq.mpr (congrArg (fun z => REL z _ _) ((if_pos hw).trans ((if_neg (show ¬ ((100 : Int32) = 112) by decide)).trans ((if_neg (show ¬ ((100 : Int32) = 115) by decide)).trans ((if_neg (show ¬ ((100 : Int32) = 102) by decide)).trans ((if_neg (show ¬ ((100 : Int32) = 107) by decide)).trans ((if_neg (show ¬ ((100 : Int32) = 103) by decide)).trans ((if_neg (show ¬ (t.1 63).1 3 < m by rw [← h.ir.1.2.2.2]; exact hf)).trans (if_pos (show 3000 < (t.1 63).1 0 + m by rw [← h.ir.1.1]; exact hg)))))))))) ?_
          exact h
        · rw [if_neg hg]
          unfold tK_Mm_charge
          refine Eq.mpr (congrArg (fun z => REL z _ _) ((if_pos hw).trans ((if_neg (show ¬ ((100 : Int32) = 112) by decide)).trans ((if_neg (show ¬ ((100 : Int32) = 115) by decide)).trans ((if_neg (show ¬ ((100 : Int32) = 102) by decide)).trans ((if_neg (show ¬ ((100 : Int32) = 107) by decide)).trans ((if_neg (show ¬ ((100 : Int32) = 103) by decide)).trans ((if_neg (show ¬ (t.1 63).1 3 < m by rw [← h.ir.1.2.2.2]; exact hf)).trans (if_neg (show ¬ 3000 < (t.1 63).1 0 + m by rw [← h.ir.1.1]; exact hg)))))))))) ?_
          exact ⟨h.pa, h.pt, h.sa, h.co, h.ir.mv30 (x := m), h.la, h.re, h.mo, h.ca, (by show 0 ≤ ((t.1 63).1 0 + m).toInt ∧ ((t.1 63).1 0 + m).toInt ≤ 3000; exact fb_add h.fb hw.2 (by rw [← h.ir.1.1]; exact hg)), h.sz, h.pz⟩
  · rw [if_neg hw]
    unfold tK_Mm_charge
    refine Eq.mpr (congrArg (fun z => REL z _ _) (if_neg hw)) ?_
    exact h
theorem R_tap {t : zTT} {n n1 n2 : Nat → Nat} {b : Nat} (m : Int32) (h : REL t n b) (e1 : n1 = n) (e2 : n2 = n1) : REL (tK_Mm_tap m (tK_Ip_tap m t)) n2 b := by
  subst e1; subst e2
  unfold tK_Ip_tap
  by_cases hw : 1 ≤ m ∧ m ≤ 500
  · rw [if_pos hw]
    by_cases he0 : (t.1 43).1 0 = 0
    · rw [if_pos he0]
      by_cases hg : (t.1 37).1 0 < m
      · rw [if_pos hg]
        unfold tK_Mm_tap
        refine Eq.mpr (congrArg (fun z => REL z _ _) ((if_pos hw).trans ((if_pos (show (t.1 63).1 1 ≤ 0 by rw [← h.ir.1.2.1, he0]; decide)).trans (if_pos (show (t.1 63).1 0 < m by rw [← h.ir.1.1]; exact hg))))) ?_
        exact h
      · rw [if_neg hg]
        unfold tK_Mm_tap
        refine Eq.mpr (congrArg (fun z => REL z _ _) ((if_pos hw).trans ((if_pos (show (t.1 63).1 1 ≤ 0 by rw [← h.ir.1.2.1, he0]; decide)).trans (if_neg (show ¬ (t.1 63).1 0 < m by rw [← h.ir.1.1]; exact hg))))) ?_
        have hi1 : (t.1 63).1 1 = 0 := by rw [← h.ir.1.2.1]; exact he0
        have hm1 : 0 ≤ m.toInt := by have h1 := hw.1; rw [Int32.le_iff_toInt_le, show (1 : Int32).toInt = 1 from rfl] at h1; omega
        exact ⟨h.pa, h.pt, ((h.sa.u5 (by decide)).u5 (by decide)).u5 (by decide), h.co, h.ir.mv01 (x := m), ⟨by show 0 ≤ ((t.1 63).1 1 + m).toInt; rw [hi1, Int32.zero_add]; exact hm1, fun _ => ⟨rfl, rfl, rfl, by show 20 ≤ (1450 : Int32).toInt ∧ (1450 : Int32).toInt ≤ 1450; decide, by show 0 ≤ (0 : Int32).toInt ∧ (0 : Int32).toInt ≤ 100; decide, Or.inl rfl⟩⟩, h.re, h.mo, h.ca, (by show 0 ≤ ((t.1 63).1 0 - m).toInt ∧ ((t.1 63).1 0 - m).toInt ≤ 3000; exact fb_sub h.fb hw (by rw [← h.ir.1.1]; exact hg)), h.sz, h.pz⟩
    · rw [if_neg he0]
      unfold tK_Mm_tap
      refine Eq.mpr (congrArg (fun z => REL z _ _) ((if_pos hw).trans (if_neg (show ¬ (t.1 63).1 1 ≤ 0 from fun q => he0 (by rw [h.ir.1.2.1]; have h0 := h.la.1; rw [Int32.le_iff_toInt_le, show (0 : Int32).toInt = 0 from rfl] at q; exact Int32.toInt_inj.mp (by rw [show (0 : Int32).toInt = 0 from rfl]; omega)))))) ?_
      exact h
  · rw [if_neg hw]
    unfold tK_Mm_tap
    refine Eq.mpr (congrArg (fun z => REL z _ _) (if_neg hw)) ?_
    exact h
theorem R_pig {t : zTT} {n n1 n2 : Nat → Nat} {b : Nat} (h : REL t n b) (e1 : n1 = n) (e2 : n2 = n1) : REL (tK_Mm_pig (tK_Ip_pig t)) n2 b := by
  subst e1; subst e2
  unfold tK_Ip_pig
  by_cases he0 : (t.1 43).1 0 = 0
  · rw [if_pos he0]
    unfold tK_Mm_pig
    refine Eq.mpr (congrArg (fun z => REL z _ _) (if_pos (show (t.1 63).1 1 = 0 by rw [← h.ir.1.2.1]; exact he0))) ?_
    exact h
  · rw [if_neg he0]
    by_cases hw : (t.1 42).1 2 = 0
    · rw [if_pos hw]
      unfold tK_Mm_pig
      refine Eq.mpr (congrArg (fun z => REL z _ _) ((if_neg (show ¬ (t.1 63).1 1 = 0 by rw [← h.ir.1.2.1]; exact he0)).trans (if_pos (show (t.1 52).1 8 = 0 by rw [← (h.la.2 (by rw [← h.ir.1.2.1]; exact he0)).2.2.1]; exact hw)))) ?_
      have k := h.ir.mv12 (x := (t.1 43).1 0)
      have e9 : (t.1 43).1 0 = (t.1 63).1 1 := h.ir.1.2.1
      exact ⟨h.pa, h.pt, h.sa, h.co, (by have k2 := k; rw [e9] at k2; show RELI _ _ _ _ _ _ _ _ _ _; rw [e9]; exact k2), ⟨by show 0 ≤ ((t.1 63).1 1 - (t.1 63).1 1).toInt; rw [Int32.sub_self]; decide, fun q => absurd (show (t.1 63).1 1 - (t.1 63).1 1 = 0 from Int32.sub_self _) q⟩, h.re, h.mo, h.ca, h.fb, h.sz, h.pz⟩
    · rw [if_neg hw]
      unfold tK_Mm_pig
      refine Eq.mpr (congrArg (fun z => REL z _ _) ((if_neg (show ¬ (t.1 63).1 1 = 0 by rw [← h.ir.1.2.1]; exact he0)).trans (if_neg (show ¬ (t.1 52).1 8 = 0 by rw [← (h.la.2 (by rw [← h.ir.1.2.1]; exact he0)).2.2.1]; exact hw)))) ?_
      have k := h.ir.mv13 (x := (t.1 43).1 0)
      have e9 : (t.1 43).1 0 = (t.1 63).1 1 := h.ir.1.2.1
      exact ⟨h.pa, h.pt, h.sa, h.co, (by have k2 := k; rw [e9] at k2; show RELI _ _ _ _ _ _ _ _ _ _; rw [e9]; exact k2), ⟨by show 0 ≤ ((t.1 63).1 1 - (t.1 63).1 1).toInt; rw [Int32.sub_self]; decide, fun q => absurd (show (t.1 63).1 1 - (t.1 63).1 1 = 0 from Int32.sub_self _) q⟩, h.re, h.mo, h.ca, h.fb, h.sz, h.pz⟩
theorem R_hold {t : zTT} {n n1 n2 : Nat → Nat} {b : Nat} (x : Int32) (h : REL t n b) (e1 : n1 = n) (e2 : n2 = n1) : REL (tK_Mm_hold x (tK_Ip_hold x t)) n2 b := by
  subst e1; subst e2
  unfold tK_Ip_hold
  by_cases hw : 1 ≤ x ∧ x ≤ 120
  · rw [if_pos hw]
    unfold tK_Mm_hold
    refine Eq.mpr (congrArg (fun z => REL z _ _) (if_pos hw)) ?_
    exact ⟨h.pa, h.pt, h.sa, h.co, h.ir.hold x.toNatClampNeg, h.la, h.re, h.mo, h.ca, h.fb, h.sz, h.pz⟩
  · rw [if_neg hw]
    unfold tK_Mm_hold
    refine Eq.mpr (congrArg (fun z => REL z _ _) (if_neg hw)) ?_
    exact h
theorem vup_at {V : Nat → Nat → zV} {M j : Nat} {v : zV} : vup V M j v M j = v := if_pos ⟨rfl, rfl⟩
theorem vup_ne {V : Nat → Nat → zV} {M i j : Nat} {v : zV} (h : ¬ i = j) : vup V M j v M i = V M i := if_neg (fun q => h q.2)
theorem ca_set {V : Nat → Nat → zV} {n : Nat → Nat} {k : Nat} {v a : zV} (h : n 1 = n 5 ∧ n 6 = n 5 ∧ ∀ i, i < n 1 → RELc (V 1 i) (V 5 i) (V 6 i)) (hv : RELc v a (V 6 k)) : n 1 = n 5 ∧ n 6 = n 5 ∧ ∀ i, i < n 1 → RELc (vup V 1 k v 1 i) (vup V 5 k a 5 i) (V 6 i) := by
  refine ⟨h.1, h.2.1, fun i hi => ?_⟩
  by_cases q : i = k
  · subst q
    rw [vup_at, vup_at]
    exact hv
  · rw [vup_ne q, vup_ne q]
    exact h.2.2 i hi
theorem ca_set1 {V : Nat → Nat → zV} {n : Nat → Nat} {k : Nat} {v : zV} (h : n 1 = n 5 ∧ n 6 = n 5 ∧ ∀ i, i < n 1 → RELc (V 1 i) (V 5 i) (V 6 i)) (hv : RELc v (V 5 k) (V 6 k)) : n 1 = n 5 ∧ n 6 = n 5 ∧ ∀ i, i < n 1 → RELc (vup V 1 k v 1 i) (V 5 i) (V 6 i) := by
  refine ⟨h.1, h.2.1, fun i hi => ?_⟩
  by_cases q : i = k
  · subst q
    rw [vup_at]
    exact hv
  · rw [vup_ne q]
    exact h.2.2 i hi
theorem RELc.s {v a g : zV} (h : RELc v a g) : (v.1 3 = 0 ∧ v.1 4 = 0) ↔ a.2.1 5 = 0 := by
  rcases h.2.2.2.2.1 with ⟨p, q, r⟩ | ⟨p, q, r⟩ | ⟨p, q, r⟩
  · exact ⟨fun _ => r, fun _ => ⟨p, q⟩⟩
  · rw [p, r]; exact ⟨fun z => absurd z.1 (by decide), fun z => absurd z (by decide)⟩
  · rw [q, r]; exact ⟨fun z => absurd z.2 (by decide), fun z => absurd z (by decide)⟩
theorem and_m2 (x c : Int32) (h : (-2 : Int32) &&& c = c) : (x &&& -2) &&& c = x &&& c := by rw [Int32.and_assoc, h]
theorem RELc.b {v a g : zV} (h : RELc v a g) (c : Int32) (hc : (-2 : Int32) &&& c = c) : v.1 2 &&& c = a.2.1 2 &&& c := by
  rw [← and_m2 _ c hc, h.2.2.2.1.1, and_m2 _ c hc]
theorem RELc.f {v a g : zV} (h : RELc v a g) : v.1 2 = 0 ↔ a.2.1 2 = 0 := by
  have h2 := h.b 2 (by decide)
  constructor
  · intro q
    rw [← h.2.2.2.1.2 (by rw [q]; decide)]
    exact q
  · intro q
    rw [h.2.2.2.1.2 (by rw [h2, q]; decide)]
    exact q
theorem RELc.d {v a g : zV} (h : RELc v a g) : v.1 0 < 20 ↔ ¬ a.2.1 4 = 1 := by
  rw [h.2.2.2.2.2]
  by_cases q : v.1 0 < 20
  · rw [if_pos q]; exact ⟨fun _ => by decide, fun _ => q⟩
  · rw [if_neg q]; exact ⟨fun z => absurd z q, fun z => absurd rfl z⟩
theorem R_deliver {t : zTT} {n n1 n2 : Nat → Nat} {b : Nat} (x : Int32) (h : REL t n b) (e1 : n1 = n) (e2 : n2 = n1) : REL (tK_Mm_deliver x (tK_Ip_deliver x t n) n1) n2 b := by
  subst e1; subst e2
  unfold tK_Ip_deliver
  by_cases hx : x.toNatClampNeg < n2 1 ∧ x = nI x.toNatClampNeg
  · rw [if_pos hx]
    have hr : x.toNatClampNeg < n2 5 ∧ x = nI x.toNatClampNeg := ⟨h.ca.1 ▸ hx.1, hx.2⟩
    have hc := h.ca.2.2 _ hx.1
    by_cases h34 : (t.2 1 x.toNatClampNeg).1 3 = 0 ∧ (t.2 1 x.toNatClampNeg).1 4 = 0
    · rw [if_pos h34]
      by_cases h5 : (t.2 1 x.toNatClampNeg).1 2 = 0
      · rw [if_pos h5]
        unfold tK_Mm_deliver
        refine Eq.mpr (congrArg (fun z => REL z _ _) ((if_pos hr).trans ((if_pos (show (t.2 5 x.toNatClampNeg).2.1 5 = 0 from hc.s.mp h34)).trans (if_pos (show (t.2 5 x.toNatClampNeg).2.1 2 = 0 from hc.f.mp h5))))) ?_
        exact ⟨h.pa, h.pt, h.sa, h.co, h.ir, h.la, h.re, h.mo, ca_set h.ca ⟨hc.1, hc.2.1, hc.2.2.1, hc.2.2.2.1, Or.inr (Or.inl ⟨rfl, h34.2, rfl⟩), hc.2.2.2.2.2⟩, h.fb, h.sz, h.pz⟩
      · rw [if_neg h5]
        unfold tK_Mm_deliver
        refine Eq.mpr (congrArg (fun z => REL z _ _) ((if_pos hr).trans ((if_pos (show (t.2 5 x.toNatClampNeg).2.1 5 = 0 from hc.s.mp h34)).trans (if_neg (show ¬ (t.2 5 x.toNatClampNeg).2.1 2 = 0 from fun q => h5 (hc.f.mpr q)))))) ?_
        exact ⟨h.pa, h.pt, h.sa, h.co, h.ir, h.la, h.re, h.mo, ca_set1 h.ca ⟨hc.1, hc.2.1, hc.2.2.1, hc.2.2.2.1, Or.inl ⟨rfl, h34.2, hc.s.mp h34⟩, hc.2.2.2.2.2⟩, h.fb, h.sz, h.pz⟩
    · rw [if_neg h34]
      unfold tK_Mm_deliver
      refine Eq.mpr (congrArg (fun z => REL z _ _) ((if_pos hr).trans (if_neg (show ¬ (t.2 5 x.toNatClampNeg).2.1 5 = 0 from fun q => h34 (hc.s.mpr q))))) ?_
      exact h
  · rw [if_neg hx]
    unfold tK_Mm_deliver
    refine Eq.mpr (congrArg (fun z => REL z _ _) (if_neg (show ¬ (x.toNatClampNeg < n2 5 ∧ x = nI x.toNatClampNeg) from fun q => hx ⟨h.ca.1.symm ▸ q.1, q.2⟩))) ?_
    exact h
theorem R_weld {t : zTT} {n n1 n2 : Nat → Nat} {b : Nat} (x : Int32) (h : REL t n b) (e1 : n1 = n) (e2 : n2 = n1) : REL (tK_Mm_weld x (tK_Ip_weld x t n) n1) n2 b := by
  subst e1; subst e2
  unfold tK_Ip_weld
  by_cases hx : x.toNatClampNeg < n2 1 ∧ x = nI x.toNatClampNeg
  · rw [if_pos hx]
    have hr : x.toNatClampNeg < n2 5 ∧ x = nI x.toNatClampNeg := ⟨h.ca.1 ▸ hx.1, hx.2⟩
    have hc := h.ca.2.2 _ hx.1
    by_cases h12 : (t.2 1 x.toNatClampNeg).1 0 < 20 ∧ (t.2 1 x.toNatClampNeg).1 2 &&& 32 = 0
    · rw [if_pos h12]
      by_cases h34 : (t.2 1 x.toNatClampNeg).1 3 = 0 ∧ (t.2 1 x.toNatClampNeg).1 4 = 0
      · rw [if_pos h34]
        unfold tK_Mm_weld
        refine Eq.mpr (congrArg (fun z => REL z _ _) ((if_pos hr).trans ((if_pos (show ¬ (t.2 5 x.toNatClampNeg).2.1 4 = 1 ∧ (t.2 5 x.toNatClampNeg).2.1 2 &&& 32 = 0 from ⟨hc.d.mp h12.1, (hc.b 32 (by decide)).symm.trans h12.2⟩)).trans (if_pos (show (t.2 5 x.toNatClampNeg).2.1 5 = 0 from hc.s.mp h34))))) ?_
        exact ⟨h.pa, h.pt, h.sa, h.co, h.ir, h.la, h.re, h.mo, ca_set h.ca ⟨hc.1, hc.2.1, hc.2.2.1, ⟨by show ((t.2 1 x.toNatClampNeg).1 2 &&& -5) &&& -2 = ((t.2 5 x.toNatClampNeg).2.1 2 &&& -5) &&& -2; rw [Int32.and_assoc, Int32.and_assoc, show (-5 : Int32) &&& -2 = -2 &&& -5 by decide, ← Int32.and_assoc, ← Int32.and_assoc, hc.2.2.2.1.1], fun q => by show (t.2 1 x.toNatClampNeg).1 2 &&& -5 = (t.2 5 x.toNatClampNeg).2.1 2 &&& -5; rw [hc.2.2.2.1.2 (by have q2 : ((t.2 1 x.toNatClampNeg).1 2 &&& -5) &&& 2 = 0 := q; rw [Int32.and_assoc, show (-5 : Int32) &&& 2 = 2 by decide] at q2; exact q2)]⟩, hc.2.2.2.2.1, hc.2.2.2.2.2⟩, h.fb, h.sz, h.pz⟩
      · rw [if_neg h34]
        unfold tK_Mm_weld
        refine Eq.mpr (congrArg (fun z => REL z _ _) ((if_pos hr).trans ((if_pos (show ¬ (t.2 5 x.toNatClampNeg).2.1 4 = 1 ∧ (t.2 5 x.toNatClampNeg).2.1 2 &&& 32 = 0 from ⟨hc.d.mp h12.1, (hc.b 32 (by decide)).symm.trans h12.2⟩)).trans (if_neg (show ¬ (t.2 5 x.toNatClampNeg).2.1 5 = 0 from fun q => h34 (hc.s.mpr q)))))) ?_
        exact h
    · rw [if_neg h12]
      unfold tK_Mm_weld
      refine Eq.mpr (congrArg (fun z => REL z _ _) ((if_pos hr).trans (if_neg (show ¬ (¬ (t.2 5 x.toNatClampNeg).2.1 4 = 1 ∧ (t.2 5 x.toNatClampNeg).2.1 2 &&& 32 = 0) from fun q => h12 ⟨hc.d.mpr q.1, (hc.b 32 (by decide)).trans q.2⟩)))) ?_
      exact h
  · rw [if_neg hx]
    unfold tK_Mm_weld
    refine Eq.mpr (congrArg (fun z => REL z _ _) (if_neg (show ¬ (x.toNatClampNeg < n2 5 ∧ x = nI x.toNatClampNeg) from fun q => hx ⟨h.ca.1.symm ▸ q.1, q.2⟩))) ?_
    exact h
theorem R_breakUp {t : zTT} {n n1 n2 : Nat → Nat} {b : Nat} (x : Int32) (h : REL t n b) (e1 : n1 = n) (e2 : n2 = n1) : REL (tK_Mm_breakUp x (tK_Ip_breakUp x t n) n1) n2 b := by
  subst e1; subst e2
  unfold tK_Ip_breakUp
  by_cases hx : x.toNatClampNeg < n2 1 ∧ x = nI x.toNatClampNeg
  · rw [if_pos hx]
    have hr : x.toNatClampNeg < n2 5 ∧ x = nI x.toNatClampNeg := ⟨h.ca.1 ▸ hx.1, hx.2⟩
    have hc := h.ca.2.2 _ hx.1
    by_cases h34 : (t.2 1 x.toNatClampNeg).1 3 = 0 ∧ (t.2 1 x.toNatClampNeg).1 4 = 0
    · rw [if_pos h34]
      by_cases h5 : (t.2 1 x.toNatClampNeg).1 0 < 20
      · rw [if_pos h5]
        unfold tK_Mm_breakUp
        refine Eq.mpr (congrArg (fun z => REL z _ _) ((if_pos hr).trans ((if_pos (show (t.2 5 x.toNatClampNeg).2.1 5 = 0 from hc.s.mp h34)).trans (if_neg (show ¬ (t.2 5 x.toNatClampNeg).2.1 4 = 1 from hc.d.mp h5))))) ?_
        exact ⟨h.pa, h.pt, h.sa, h.co, h.ir.bu2 hc.2.1 hc.2.2.1, h.la, h.re, h.mo, ca_set h.ca ⟨hc.1, hc.2.1, hc.2.2.1, hc.2.2.2.1, Or.inr (Or.inr ⟨h34.1, rfl, rfl⟩), hc.2.2.2.2.2⟩, h.fb, h.sz, h.pz⟩
      · rw [if_neg h5]
        unfold tK_Mm_breakUp
        refine Eq.mpr (congrArg (fun z => REL z _ _) ((if_pos hr).trans ((if_pos (show (t.2 5 x.toNatClampNeg).2.1 5 = 0 from hc.s.mp h34)).trans (if_pos (show (t.2 5 x.toNatClampNeg).2.1 4 = 1 from Classical.not_not.mp (fun q => h5 (hc.d.mpr q))))))) ?_
        exact ⟨h.pa, h.pt, h.sa, h.co, h.ir.bu3 hc.2.1 hc.2.2.1, h.la, h.re, h.mo, ca_set h.ca ⟨hc.1, hc.2.1, hc.2.2.1, hc.2.2.2.1, Or.inr (Or.inr ⟨h34.1, rfl, rfl⟩), hc.2.2.2.2.2⟩, h.fb, h.sz, h.pz⟩
    · rw [if_neg h34]
      unfold tK_Mm_breakUp
      refine Eq.mpr (congrArg (fun z => REL z _ _) ((if_pos hr).trans (if_neg (show ¬ (t.2 5 x.toNatClampNeg).2.1 5 = 0 from fun q => h34 (hc.s.mpr q))))) ?_
      exact h
  · rw [if_neg hx]
    unfold tK_Mm_breakUp
    refine Eq.mpr (congrArg (fun z => REL z _ _) (if_neg (show ¬ (x.toNatClampNeg < n2 5 ∧ x = nI x.toNatClampNeg) from fun q => hx ⟨h.ca.1.symm ▸ q.1, q.2⟩))) ?_
    exact h
theorem mil_1 {a b m : Int32} (h : a = b ∧ 0 ≤ a.toInt ∧ a.toInt ≤ 300) (hm : 0 ≤ m ∧ m ≤ 20) : (if a + m < 300 then a + m else 300) = S_Mm_most (b + m) ∧ 0 ≤ (if a + m < 300 then a + m else 300).toInt ∧ (if a + m < 300 then a + m else 300).toInt ≤ 300 := by
  obtain ⟨rfl, h1, h2⟩ := h
  have e0 : (0 : Int32).toInt = 0 := rfl
  have e2 : (20 : Int32).toInt = 20 := rfl
  have e3 : (300 : Int32).toInt = 300 := rfl
  have m1 := hm.1
  have m2 := hm.2
  rw [Int32.le_iff_toInt_le, e0] at m1
  rw [Int32.le_iff_toInt_le, e2] at m2
  have e : (a + m).toInt = a.toInt + m.toInt := by rw [Int32.toInt_add]; exact bm32 (by omega) (by omega)
  refine ⟨(z_sat e (by omega)).symm, ?_⟩
  by_cases q : a + m < 300
  · rw [if_pos q, e]
    rw [Int32.lt_iff_toInt_lt, e3, e] at q
    omega
  · rw [if_neg q, e3]
    omega
theorem mil_2 {a b m : Int32} (h : a = b ∧ 0 ≤ a.toInt ∧ a.toInt ≤ 300) (hm : 0 ≤ m ∧ m ≤ 50) : a - a * m / 100 = b - b * m / 100 ∧ 0 ≤ (a - a * m / 100).toInt ∧ (a - a * m / 100).toInt ≤ 300 := by
  obtain ⟨rfl, h1, h2⟩ := h
  have e0 : (0 : Int32).toInt = 0 := rfl
  have e2 : (50 : Int32).toInt = 50 := rfl
  have e3 : (100 : Int32).toInt = 100 := rfl
  have m1 := hm.1
  have m2 := hm.2
  rw [Int32.le_iff_toInt_le, e0] at m1
  rw [Int32.le_iff_toInt_le, e2] at m2
  have p0 : 0 ≤ a.toInt * m.toInt := Int.mul_nonneg h1 m1
  have p1 : a.toInt * m.toInt ≤ a.toInt * 50 := Int.mul_le_mul_of_nonneg_left m2 h1
  have ea : (a * m).toInt = a.toInt * m.toInt := by rw [Int32.toInt_mul]; exact bm32 (by omega) (by omega)
  have ed : (a * m / 100).toInt = a.toInt * m.toInt / 100 := by
    rw [Int32.toInt_div, ea, e3, Int.tdiv_eq_ediv_of_nonneg p0]
    exact bm32 (by omega) (by omega)
  have es : (a - a * m / 100).toInt = a.toInt - a.toInt * m.toInt / 100 := by rw [Int32.toInt_sub, ed]; exact bm32 (by omega) (by omega)
  rw [es]
  exact ⟨rfl, by omega, by omega⟩
theorem R_mill {t : zTT} {n n1 n2 : Nat → Nat} {b : Nat} (m1 m2 m3 m4 : Int32) (h : REL t n b) (e1 : n1 = n) (e2 : n2 = n1) : REL (tK_Mm_mill m1 m2 m3 m4 (tK_Ip_mill m1 m2 m3 m4 t)) n2 b := by
  subst e1; subst e2
  unfold tK_Ip_mill
  by_cases hw : (0 ≤ m1 ∧ m1 ≤ 20) ∧ (0 ≤ m2 ∧ m2 ≤ 20) ∧ (0 ≤ m3 ∧ m3 ≤ 20) ∧ (0 ≤ m4 ∧ m4 ≤ 50)
  · rw [if_pos hw]
    unfold tK_Mm_mill
    refine Eq.mpr (congrArg (fun z => REL z _ _) (if_pos hw)) ?_
    exact ⟨h.pa, h.pt, fun i hi => match i, hi with
      | 0, _ => mil_1 (h.sa 0 (by decide)) hw.1
      | 1, _ => mil_1 (h.sa 1 (by decide)) hw.2.1
      | 2, _ => mil_1 (h.sa 2 (by decide)) hw.2.2.1
      | 3, _ => mil_2 (h.sa 3 (by decide)) hw.2.2.2
      | 4, _ => mil_2 (h.sa 4 (by decide)) hw.2.2.2
      | k + 5, hk => absurd hk (by omega), h.co, h.ir, h.la, h.re, h.mo, h.ca, h.fb, h.sz, h.pz⟩
  · rw [if_neg hw]
    unfold tK_Mm_mill
    refine Eq.mpr (congrArg (fun z => REL z _ _) (if_neg hw)) ?_
    exact h
theorem mg_add {a m : Int32} (h : 0 ≤ a.toInt ∧ a.toInt ≤ 100) (hm : 1 ≤ m ∧ m ≤ 100) (hg : a + m ≤ 100) : 0 ≤ (a + m).toInt ∧ (a + m).toInt ≤ 100 := by
  have e1 : (1 : Int32).toInt = 1 := rfl
  have e2 : (100 : Int32).toInt = 100 := rfl
  have m1 := hm.1
  have m2 := hm.2
  rw [Int32.le_iff_toInt_le, e1] at m1
  rw [Int32.le_iff_toInt_le, e2] at m2 hg
  have e : (a + m).toInt = a.toInt + m.toInt := by rw [Int32.toInt_add]; exact bm32 (by omega) (by omega)
  omega
theorem wd_if {a wd : Int32} {c : Prop} [Decidable c] (h : wd = 0 ∨ wd = 1) : (if c then wd else 1) = (if wd = 0 then if c then 0 else 1 else 1) ∧ ((if c then wd else 1) = 0 ∨ (if c then wd else 1) = 1) := by
  rcases h with rfl | rfl
  · by_cases hc : c
    · simp [hc]
    · simp [hc]
  · by_cases hc : c
    · simp [hc]
    · simp [hc]
theorem R_treat {t : zTT} {n n1 n2 : Nat → Nat} {b : Nat} (m : Int32) (h : REL t n b) (e1 : n1 = n) (e2 : n2 = n1) : REL (tK_Mm_treat m (tK_Ip_treat m t)) n2 b := by
  subst e1; subst e2
  unfold tK_Ip_treat
  by_cases hw : 1 ≤ m ∧ m ≤ 100
  · rw [if_pos hw]
    by_cases he0 : (t.1 43).1 0 = 0
    · rw [if_pos he0]
      unfold tK_Mm_treat
      refine Eq.mpr (congrArg (fun z => REL z _ _) ((if_pos hw).trans (if_pos (show (t.1 63).1 1 = 0 by rw [← h.ir.1.2.1]; exact he0)))) ?_
      exact h
    · rw [if_neg he0]
      have hn : ¬ (t.1 63).1 1 = 0 := by rw [← h.ir.1.2.1]; exact he0
      have l := h.la.2 hn
      by_cases hg : (t.1 42).1 1 + m ≤ 100
      · rw [if_pos hg]
        unfold tK_Mm_treat
        refine Eq.mpr (congrArg (fun z => REL z _ _) ((if_pos hw).trans ((if_neg hn).trans (if_pos (show (t.1 52).1 7 + m ≤ 100 by rw [← l.2.1]; exact hg))))) ?_
        have w9 := wd_if (a := 0) (c := (t.1 42).1 1 + m < 20) l.2.2.2.2.2
        refine ⟨h.pa, h.pt, (h.sa.u5 (by decide)).u5 (by decide), h.co, h.ir, ⟨h.la.1, fun _ => ⟨l.1, ?_, ?_, l.2.2.2.1, mg_add l.2.2.2.2.1 hw hg, w9.2⟩⟩, h.re, h.mo, h.ca, h.fb, h.sz, h.pz⟩
        · show (t.1 42).1 1 + m = (t.1 52).1 7 + m
          rw [l.2.1]
        · show (if (t.1 42).1 1 + m < 20 then (t.1 42).1 2 else 1) = (if (t.1 52).1 8 = 0 then if (t.1 52).1 7 + m < 20 then 0 else 1 else 1)
          rw [← l.2.1, ← l.2.2.1]
          exact w9.1
      · rw [if_neg hg]
        unfold tK_Mm_treat
        refine Eq.mpr (congrArg (fun z => REL z _ _) ((if_pos hw).trans ((if_neg hn).trans (if_neg (show ¬ (t.1 52).1 7 + m ≤ 100 by rw [← l.2.1]; exact hg))))) ?_
        exact h
  · rw [if_neg hw]
    unfold tK_Mm_treat
    refine Eq.mpr (congrArg (fun z => REL z _ _) (if_neg hw)) ?_
    exact h
theorem R_makeCores {t : zTT} {n n1 n2 : Nat → Nat} {b : Nat} (hb : b ≤ 100000) (c k : Int32) (h : REL t n b) (e1 : n1 = n) (e2 : n2 = nK_Mm_makeCores c k (tK_Ip_makeCores c k t) n1) : REL (tK_Mm_makeCores c k (tK_Ip_makeCores c k t) n1) n2 b := by
  subst e1
  rw [e2]
  unfold tK_Ip_makeCores
  by_cases hw : (1 ≤ c ∧ c ≤ 10) ∧ (1 ≤ k ∧ k ≤ 24)
  · rw [if_pos hw]
    by_cases hf : (t.1 32).2.2 0 < 20
    · rw [if_pos hf]
      have hn : ¬ n1 2 = 20 := by rw [← h.co.1]; omega
      unfold tK_Mm_makeCores nK_Mm_makeCores
      refine Eq.mpr (congrArg (fun z => REL z _ _) ((if_pos hw).trans (if_pos hn))) ?_
      refine Eq.mpr (congrArg (fun z => REL _ z _) ((if_pos hw).trans (if_pos hn))) ?_
      refine ⟨h.pa, h.pt, h.sa, ⟨?_, h.co.2.1, fun i hi => ?_⟩, h.ir, h.la, h.re, h.mo, h.ca, h.fb, ⟨by show n1 2 + 1 ≤ 20; rw [← h.co.1]; omega, h.sz.2⟩, h.pz⟩
      · show (t.1 32).2.2 0 + 1 = n1 2 + 1
        rw [h.co.1]
      · have hi : i < n1 2 + 1 := hi
        show (upd (t.1 33).1 ((t.1 32).2.2 0) c) i = ((if i = n1 2 then mkV c ((t.1 52).1 5 + k) else t.2 2 i) : zV).2.1 0 ∧ (1 ≤ ((upd (t.1 33).1 ((t.1 32).2.2 0) c) i).toInt ∧ ((upd (t.1 33).1 ((t.1 32).2.2 0) c) i).toInt ≤ 10) ∧ (1 ≤ ((upd (t.1 34).1 ((t.1 32).2.2 0) k) i).toInt ∧ ((upd (t.1 34).1 ((t.1 32).2.2 0) k) i).toInt ≤ 24) ∧ (0 ≤ ((upd (t.1 35).1 ((t.1 32).2.2 0) 0) i).toInt ∧ ((upd (t.1 35).1 ((t.1 32).2.2 0) 0) i).toInt ≤ ((upd (t.1 34).1 ((t.1 32).2.2 0) k) i).toInt + 72) ∧ (((if i = n1 2 then mkV c ((t.1 52).1 5 + k) else t.2 2 i) : zV).2.1 1).toInt = ((t.1 52).1 5).toInt - ((upd (t.1 35).1 ((t.1 32).2.2 0) 0) i).toInt + ((upd (t.1 34).1 ((t.1 32).2.2 0) k) i).toInt
        rw [h.co.1]
        by_cases q : i = n1 2
        · subst q
          rw [upd_eq, upd_eq, upd_eq, if_pos rfl]
          have a1 := hw.1.1
          have a2 := hw.1.2
          have b1 := hw.2.1
          have b2 := hw.2.2
          rw [Int32.le_iff_toInt_le, show (1 : Int32).toInt = 1 from rfl] at a1 b1
          rw [Int32.le_iff_toInt_le, show (10 : Int32).toInt = 10 from rfl] at a2
          rw [Int32.le_iff_toInt_le, show (24 : Int32).toInt = 24 from rfl] at b2
          refine ⟨rfl, ⟨a1, a2⟩, ⟨b1, b2⟩, ⟨by decide, by rw [show (0 : Int32).toInt = 0 from rfl]; omega⟩, ?_⟩
          show ((t.1 52).1 5 + k).toInt = _
          have hh := h.co.2.1
          rw [Int32.toInt_add, show (0 : Int32).toInt = 0 from rfl, bm32 (by omega) (by omega)]
          omega
        · rw [upd_ne q, upd_ne q, upd_ne q, if_neg q]
          exact h.co.2.2 i (by omega)
    · rw [if_neg hf]
      have h20 : ¬ ¬ n1 2 = 20 := fun q => q (by have e8 := h.co.1; have e9 := h.sz.1; omega)
      unfold tK_Mm_makeCores nK_Mm_makeCores
      refine Eq.mpr (congrArg (fun z => REL z _ _) ((if_pos hw).trans (if_neg h20))) ?_
      refine Eq.mpr (congrArg (fun z => REL _ z _) ((if_pos hw).trans (if_neg h20))) ?_
      exact h
  · rw [if_neg hw]
    unfold tK_Mm_makeCores nK_Mm_makeCores
    refine Eq.mpr (congrArg (fun z => REL z _ _) (if_neg hw)) ?_
    refine Eq.mpr (congrArg (fun z => REL _ z _) (if_neg hw)) ?_
    exact h
theorem lhS_i {h : Int32} (h1 : 20 ≤ h.toInt) (h2 : h.toInt ≤ 1450) : ∀ i, i ≤ 60 → (lhS h i).toInt = (if 20 < h.toInt - 4 * (i : Int) then h.toInt - 4 * (i : Int) else 20) ∧ 20 ≤ (lhS h i).toInt ∧ (lhS h i).toInt ≤ 1450
  | 0, _ => by
    show h.toInt = _ ∧ 20 ≤ h.toInt ∧ h.toInt ≤ 1450
    refine ⟨?_, h1, h2⟩
    split <;> omega
  | i + 1, hi => by
    obtain ⟨e, k1, k2⟩ := lhS_i h1 h2 i (by omega)
    have e4 : (4 : Int32).toInt = 4 := rfl
    have e20 : (20 : Int32).toInt = 20 := rfl
    have es : (lhS h i - 4).toInt = (lhS h i).toInt - 4 := by rw [Int32.toInt_sub, e4]; exact bm32 (by omega) (by omega)
    show (if 20 < lhS h i - 4 then lhS h i - 4 else 20).toInt = _ ∧ 20 ≤ (if 20 < lhS h i - 4 then lhS h i - 4 else 20).toInt ∧ (if 20 < lhS h i - 4 then lhS h i - 4 else 20).toInt ≤ 1450
    have ec : ((i + 1 : Nat) : Int) = (i : Int) + 1 := by omega
    rw [ec]
    by_cases q : 20 < lhS h i - 4
    · rw [if_pos q, es]
      rw [Int32.lt_iff_toInt_lt, e20, es] at q
      refine ⟨?_, by omega, by omega⟩
      split at e <;> split <;> omega
    · rw [if_neg q, e20]
      rw [Int32.lt_iff_toInt_lt, e20, es] at q
      refine ⟨?_, by omega, by omega⟩
      split at e <;> split <;> omega
theorem lhS_eq {h : Int32} {a : Nat} (h1 : 20 ≤ h.toInt) (h2 : h.toInt ≤ 1450) (ha : a ≤ 60) : (if 20 < h - 4 * nI a then h - 4 * nI a else 20) = lhS h a := by
  have k := (lhS_i h1 h2 a ha).1
  have e20 : (20 : Int32).toInt = 20 := rfl
  have e4 : (4 * nI a : Int32) = nI (4 * a) := pk_mul _ _
  have es : (h - nI (4 * a)).toInt = h.toInt - 4 * (a : Int) := by rw [Int32.toInt_sub, nI_toInt (by omega), bm32 (by omega) (by omega)]; omega
  rw [e4]
  refine Int32.toInt_inj.mp ?_
  rw [k]
  by_cases q : 20 < h - nI (4 * a)
  · rw [if_pos q, es]
    rw [Int32.lt_iff_toInt_lt, e20, es] at q
    rw [if_pos q]
  · rw [if_neg q, e20]
    rw [Int32.lt_iff_toInt_lt, e20, es] at q
    rw [if_neg q]
theorem mgS_i {m : Int32} (h1 : 0 ≤ m.toInt) (h2 : m.toInt ≤ 100) : ∀ i, 0 ≤ (mgS m i).toInt ∧ (mgS m i).toInt ≤ 100
  | 0 => ⟨h1, h2⟩
  | i + 1 => by
    obtain ⟨k1, k2⟩ := mgS_i h1 h2 i
    have e19 : (19 : Int32).toInt = 19 := rfl
    have e20 : (20 : Int32).toInt = 20 := rfl
    have ea : (mgS m i + 19).toInt = (mgS m i).toInt + 19 := by rw [Int32.toInt_add, e19]; exact bm32 (by omega) (by omega)
    have ed : ((mgS m i + 19) / 20).toInt = ((mgS m i).toInt + 19) / 20 := by
      rw [Int32.toInt_div, ea, e20, Int.tdiv_eq_ediv_of_nonneg (by omega)]
      exact bm32 (by omega) (by omega)
    show 0 ≤ (mgS m i - (mgS m i + 19) / 20).toInt ∧ (mgS m i - (mgS m i + 19) / 20).toInt ≤ 100
    have es : (mgS m i - (mgS m i + 19) / 20).toInt = (mgS m i).toInt - ((mgS m i).toInt + 19) / 20 := by rw [Int32.toInt_sub, ed]; exact bm32 (by omega) (by omega)
    rw [es]
    omega
theorem mo_wt {t : zTT} {n : Nat → Nat} {x : Int32} (h : n 0 = n 3 ∧ n 4 = n 3 ∧ ∀ i, i < n 0 → RELm (t.2 0 i) (t.2 3 i) (t.2 4 i)) : n 0 = n 3 ∧ n 4 = n 3 ∧ ∀ i, i < n 0 → RELm (if 0 = 0 ∧ i < n 0 then wtV9 x (t.2 0 i) else t.2 0 i) (t.2 3 i) (if 4 = 4 ∧ i < n 4 then nuV9 x (t.2 4 i) else t.2 4 i) := by
  refine ⟨h.1, h.2.1, fun i hi => ?_⟩
  rw [if_pos ⟨rfl, hi⟩, if_pos ⟨rfl, by have := h.1; have := h.2.1; omega⟩]
  obtain ⟨a1, a2, a3, a4, a5, a6, a7, a8⟩ := h.2.2 i hi
  refine ⟨a1, a2, a3, a4, a5, a6, a7, ?_⟩
  show (t.2 0 i).1 5 + x = (t.2 4 i).2.1 4 + x
  rw [a8]
theorem R_minutes {t : zTT} {n n1 n2 : Nat → Nat} {b : Nat} (x : Int32) (h : REL t n b) (e1 : n1 = n) (e2 : n2 = n1) : REL (tK_Mm_minutes x (tK_Ip_minutes x t n) n1) n2 b := by
  subst e1; subst e2
  unfold tK_Ip_minutes
  by_cases hw : 1 ≤ x ∧ x ≤ 60
  · rw [if_pos hw]
    obtain ⟨a9, ha9, e9⟩ := z_in20 (b := 60) (by decide) ⟨Int32.le_trans (by decide) hw.1, hw.2⟩
    subst e9
    have ek : (nI a9).toNatClampNeg = a9 := nI_clamp (by omega)
    rw [ek]
    unfold tK_Mm_minutes
    refine Eq.mpr (congrArg (fun z => REL z _ _) (if_pos hw)) ?_
    by_cases h1 : (t.1 63).1 1 ≤ 0
    · refine Eq.mpr (congrArg (fun z => REL (elT 4 (nuV9 (nI a9)) z (n2 4)) _ _) (if_pos (show (t.1 63).1 1 ≤ 0 from h1))) ?_
      exact ⟨h.pa, h.pt, h.sa, h.co, h.ir, ⟨h.la.1, fun q => absurd (show (t.1 63).1 1 = 0 from by have h0 := h.la.1; rw [Int32.le_iff_toInt_le, show (0 : Int32).toInt = 0 from rfl] at h1; exact Int32.toInt_inj.mp (by rw [show (0 : Int32).toInt = 0 from rfl]; omega)) q⟩, h.re, mo_wt h.mo, h.ca, h.fb, h.sz, h.pz⟩
    · refine Eq.mpr (congrArg (fun z => REL (elT 4 (nuV9 (nI a9)) z (n2 4)) _ _) (if_neg (show ¬ (t.1 63).1 1 ≤ 0 from h1))) ?_
      rw [ek]
      have l := fun q => h.la.2 q
      refine ⟨h.pa, h.pt, (h.sa.u5 (by decide)).u5 (by decide), h.co, h.ir, ⟨h.la.1, fun q => ?_⟩, h.re, mo_wt h.mo, h.ca, h.fb, h.sz, h.pz⟩
      have l := h.la.2 q
      have l4 := l.2.2.2.1
      refine ⟨?_, ?_, l.2.2.1, ?_, mgS_i l.2.2.2.2.1.1 l.2.2.2.2.1.2 a9, l.2.2.2.2.2⟩
      · show (if 20 < (t.1 42).1 0 - 4 * nI a9 then (t.1 42).1 0 - 4 * nI a9 else 20) = lhS ((t.1 52).1 6) a9
        rw [← l.1]
        exact lhS_eq l4.1 l4.2 ha9
      · show mgS ((t.1 42).1 1) a9 = mgS ((t.1 52).1 7) a9
        rw [l.2.1]
      · show 20 ≤ (if 20 < (t.1 42).1 0 - 4 * nI a9 then (t.1 42).1 0 - 4 * nI a9 else 20).toInt ∧ (if 20 < (t.1 42).1 0 - 4 * nI a9 then (t.1 42).1 0 - 4 * nI a9 else 20).toInt ≤ 1450
        rw [lhS_eq l4.1 l4.2 ha9]
        exact (lhS_i l4.1 l4.2 a9 ha9).2
  · rw [if_neg hw]
    unfold tK_Mm_minutes
    refine Eq.mpr (congrArg (fun z => REL z _ _) (if_neg hw)) ?_
    exact h
def kx (p : Nat → Bool) : Nat → Nat → Nat
  | 0 => fun _ => 0
  | i + 1 => if p i = true then (fun j => if j = fa_cnt p i then i else kx p i j) else kx p i
theorem kx_y {p : Nat → Bool} {i : Nat} (h : p i = true) : kx p (i + 1) = fun j => if j = fa_cnt p i then i else kx p i j := if_pos h
theorem kx_n {p : Nat → Bool} {i : Nat} (h : p i = false) : kx p (i + 1) = kx p i := if_neg (by rw [h]; decide)
theorem kx_lt {p : Nat → Bool} : ∀ i j, j < fa_cnt p i → kx p i j < i ∧ p (kx p i j) = true
  | 0, j, h => absurd h (Nat.not_lt_zero j)
  | i + 1, j, h => by
    cases e : p i with
    | true =>
      rw [fa_cnt_yes e] at h
      rw [kx_y e]
      show (if j = fa_cnt p i then i else kx p i j) < i + 1 ∧ p (if j = fa_cnt p i then i else kx p i j) = true
      by_cases q : j = fa_cnt p i
      · rw [if_pos q]; exact ⟨by omega, e⟩
      · rw [if_neg q]
        have := kx_lt (p := p) i j (by omega)
        exact ⟨by omega, this.2⟩
    | false =>
      rw [fa_cnt_no e] at h
      rw [kx_n e]
      have := kx_lt (p := p) i j h
      exact ⟨by omega, this.2⟩
theorem kx_cg {p q : Nat → Bool} : ∀ i, (∀ k, k < i → p k = q k) → fa_cnt p i = fa_cnt q i ∧ ∀ j, kx p i j = kx q i j
  | 0, _ => ⟨rfl, fun _ => rfl⟩
  | i + 1, h => by
    obtain ⟨a, b⟩ := kx_cg i (fun k hk => h k (by omega))
    have e := h i (by omega)
    cases eq : q i with
    | true =>
      rw [eq] at e
      refine ⟨by rw [fa_cnt_yes e, fa_cnt_yes eq, a], fun j => ?_⟩
      rw [kx_y e, kx_y eq]
      show (if j = fa_cnt p i then i else kx p i j) = (if j = fa_cnt q i then i else kx q i j)
      rw [a, b]
    | false =>
      rw [eq] at e
      refine ⟨by rw [fa_cnt_no e, fa_cnt_no eq, a], fun j => ?_⟩
      rw [kx_n e, kx_n eq]
      exact b j
theorem dwL_k (P : zV → Bool) (Q : zV → Int32) : ∀ (c r : Nat) (V : Nat → zV) (s : Int32), (dwL P Q c (c + r, V, s)).1 = fa_cnt (fun k => P (V k)) c + r ∧ (∀ j, j < fa_cnt (fun k => P (V k)) c → (dwL P Q c (c + r, V, s)).2.1 j = V (kx (fun k => P (V k)) c j)) ∧ ∀ j, fa_cnt (fun k => P (V k)) c ≤ j → (dwL P Q c (c + r, V, s)).2.1 j = V (j - fa_cnt (fun k => P (V k)) c + c)
  | 0, r, V, s => ⟨rfl, fun j h => absurd h (Nat.not_lt_zero j), fun j _ => rfl⟩
  | c + 1, r, V, s => by
    cases e : P (V c) with
    | true =>
      obtain ⟨a, b, d⟩ := dwL_k P Q c (r + 1) V s
      have es : dwL P Q (c + 1) (c + 1 + r, V, s) = dwL P Q c (c + (r + 1), V, s) := by
        show dwL P Q c (if P (V c) = true then (c + 1 + r, V, s) else (c + 1 + r - 1, z_dlV V c, s + Q (V c))) = _
        rw [if_pos e, show c + 1 + r = c + (r + 1) by omega]
      rw [es, fa_cnt_yes (p := fun k => P (V k)) e, kx_y (p := fun k => P (V k)) e]
      refine ⟨by rw [a]; omega, fun j hj => ?_, fun j hj => ?_⟩
      · show _ = V (if j = fa_cnt (fun k => P (V k)) c then c else kx (fun k => P (V k)) c j)
        by_cases q : j = fa_cnt (fun k => P (V k)) c
        · rw [if_pos q, d j (by omega)]
          congr 1
          omega
        · rw [if_neg q]
          exact b j (by omega)
      · rw [d j (by omega)]
        congr 1
        omega
    | false =>
      obtain ⟨a, b, d⟩ := dwL_k P Q c r (z_dlV V c) (s + Q (V c))
      have es : dwL P Q (c + 1) (c + 1 + r, V, s) = dwL P Q c (c + r, z_dlV V c, s + Q (V c)) := by
        show dwL P Q c (if P (V c) = true then (c + 1 + r, V, s) else (c + 1 + r - 1, z_dlV V c, s + Q (V c))) = _
        rw [if_neg (by rw [e]; decide), show c + 1 + r - 1 = c + r by omega]
      have cg := kx_cg (p := fun k => P (z_dlV V c k)) (q := fun k => P (V k)) c (fun k hk => by show P (z_dlV V c k) = P (V k); rw [show z_dlV V c k = V k from if_pos hk])
      rw [cg.1] at a b d
      rw [es, fa_cnt_no (p := fun k => P (V k)) e, kx_n (p := fun k => P (V k)) e]
      refine ⟨a, fun j hj => ?_, fun j hj => ?_⟩
      · rw [b j hj, cg.2 j]
        exact if_pos (kx_lt c j hj).1
      · rw [d j hj]
        show (if j - fa_cnt (fun k => P (V k)) c + c < c then V (j - fa_cnt (fun k => P (V k)) c + c) else V (j - fa_cnt (fun k => P (V k)) c + c + 1)) = _
        rw [if_neg (by omega)]
        rfl
def cnP (cn : Nat → Int32) (k : Nat) : Bool := decide (¬ cn k ≤ 0)
theorem dlS_k (cn cu ag : Nat → Int32) : ∀ i, (dlS cn cu ag i).1 = fa_cnt (cnP cn) i ∧ (∀ j, j < fa_cnt (cnP cn) i → (dlS cn cu ag i).2.1 j = cn (kx (cnP cn) i j) ∧ (dlS cn cu ag i).2.2.1 j = cu (kx (cnP cn) i j) ∧ (dlS cn cu ag i).2.2.2 j = ag (kx (cnP cn) i j)) ∧ ∀ j, i ≤ j → (dlS cn cu ag i).2.1 j = cn j ∧ (dlS cn cu ag i).2.2.1 j = cu j ∧ (dlS cn cu ag i).2.2.2 j = ag j
  | 0 => ⟨rfl, fun j h => absurd h (Nat.not_lt_zero j), fun j _ => ⟨rfl, rfl, rfl⟩⟩
  | i + 1 => by
    obtain ⟨a, b, d⟩ := dlS_k cn cu ag i
    have le := dlS_le cn cu ag i
    have di := d i (Nat.le_refl i)
    by_cases q : cn i ≤ 0
    · have hp : cnP cn i = false := decide_eq_false (fun z => z q)
      rw [dlS_t (by rw [di.1]; exact q), fa_cnt_no hp, kx_n hp]
      exact ⟨a, b, fun j hj => d j (by omega)⟩
    · have hp : cnP cn i = true := decide_eq_true q
      rw [dlS_f (by rw [di.1]; exact q), fa_cnt_yes hp, kx_y hp]
      refine ⟨by show (dlS cn cu ag i).1 + 1 = _; rw [a], fun j hj => ?_, fun j hj => ?_⟩
      · show upd (dlS cn cu ag i).2.1 (dlS cn cu ag i).1 ((dlS cn cu ag i).2.1 i) j = cn (if j = fa_cnt (cnP cn) i then i else kx (cnP cn) i j) ∧ upd (dlS cn cu ag i).2.2.1 (dlS cn cu ag i).1 ((dlS cn cu ag i).2.2.1 i) j = cu (if j = fa_cnt (cnP cn) i then i else kx (cnP cn) i j) ∧ upd (dlS cn cu ag i).2.2.2 (dlS cn cu ag i).1 ((dlS cn cu ag i).2.2.2 i) j = ag (if j = fa_cnt (cnP cn) i then i else kx (cnP cn) i j)
        rw [a]
        by_cases r : j = fa_cnt (cnP cn) i
        · rw [r, upd_eq, upd_eq, upd_eq, if_pos rfl]
          exact di
        · rw [upd_ne r, upd_ne r, upd_ne r, if_neg r]
          exact b j (by omega)
      · have hj2 : ¬ j = (dlS cn cu ag i).1 := by omega
        show upd (dlS cn cu ag i).2.1 (dlS cn cu ag i).1 ((dlS cn cu ag i).2.1 i) j = cn j ∧ upd (dlS cn cu ag i).2.2.1 (dlS cn cu ag i).1 ((dlS cn cu ag i).2.2.1 i) j = cu j ∧ upd (dlS cn cu ag i).2.2.2 (dlS cn cu ag i).1 ((dlS cn cu ag i).2.2.2 i) j = ag j
        rw [upd_ne hj2, upd_ne hj2, upd_ne hj2]
        exact d j (by omega)
theorem gwS_k (cn cu ag : Nat → Int32) (h : Int32) : ∀ i, (∀ k, k < i → (gwS cn cu ag h i).1 k = (if ag k + h ≤ cu k + 72 then cn k else 0) ∧ (gwS cn cu ag h i).2.1 k = ag k + h) ∧ ∀ k, i ≤ k → (gwS cn cu ag h i).1 k = cn k ∧ (gwS cn cu ag h i).2.1 k = ag k
  | 0 => ⟨fun k hk => absurd hk (Nat.not_lt_zero k), fun k _ => ⟨rfl, rfl⟩⟩
  | i + 1 => by
    obtain ⟨a, b⟩ := gwS_k cn cu ag h i
    have bi := b i (Nat.le_refl i)
    by_cases q : ag i + h ≤ cu i + 72
    · rw [gwS_t (by rw [bi.2]; exact q)]
      refine ⟨fun k hk => ?_, fun k hk => ?_⟩
      · show (gwS cn cu ag h i).1 k = _ ∧ upd (gwS cn cu ag h i).2.1 i ((gwS cn cu ag h i).2.1 i + h) k = _
        by_cases r : k = i
        · subst r
          rw [upd_eq, bi.1, bi.2, if_pos q]
          exact ⟨rfl, rfl⟩
        · rw [upd_ne r]
          exact a k (by omega)
      · show (gwS cn cu ag h i).1 k = _ ∧ upd (gwS cn cu ag h i).2.1 i ((gwS cn cu ag h i).2.1 i + h) k = _
        rw [upd_ne (by omega)]
        exact b k (by omega)
    · have es : gwS cn cu ag h (i + 1) = (upd (gwS cn cu ag h i).1 i 0, upd (gwS cn cu ag h i).2.1 i ((gwS cn cu ag h i).2.1 i + h), (gwS cn cu ag h i).2.2 + (gwS cn cu ag h i).1 i) := if_neg (by rw [bi.2]; exact q)
      rw [es]
      refine ⟨fun k hk => ?_, fun k hk => ?_⟩
      · show upd (gwS cn cu ag h i).1 i 0 k = _ ∧ upd (gwS cn cu ag h i).2.1 i ((gwS cn cu ag h i).2.1 i + h) k = _
        by_cases r : k = i
        · subst r
          rw [upd_eq, upd_eq, bi.2, if_neg q]
          exact ⟨rfl, rfl⟩
        · rw [upd_ne r, upd_ne r]
          exact a k (by omega)
      · show upd (gwS cn cu ag h i).1 i 0 k = _ ∧ upd (gwS cn cu ag h i).2.1 i ((gwS cn cu ag h i).2.1 i + h) k = _
        rw [upd_ne (by omega), upd_ne (by omega)]
        exact b k (by omega)
theorem R_hours {t : zTT} {n n1 n2 : Nat → Nat} {b : Nat} (hb : b ≤ 100000) (x : Int32) (h : REL t n b) (e1 : n1 = n) (e2 : n2 = nK_Mm_hours x (tK_Ip_hours x t) n1) : REL (tK_Mm_hours x (tK_Ip_hours x t) n1) n2 (b + 48) := by
  subst e1
  rw [e2]
  unfold tK_Ip_hours
  by_cases hw : 1 ≤ x ∧ x ≤ 48
  · rw [if_pos hw]
    unfold tK_Mm_hours nK_Mm_hours
    refine Eq.mpr (congrArg (fun z => REL z _ _) (if_pos hw)) ?_
    refine Eq.mpr (congrArg (fun z => REL _ z _) (if_pos hw)) ?_
    obtain ⟨c1, ⟨c2, c3⟩, c4⟩ := h.co
    have a1 := hw.1
    have a2 := hw.2
    rw [Int32.le_iff_toInt_le, show (1 : Int32).toInt = 1 from rfl] at a1
    rw [Int32.le_iff_toInt_le, show (48 : Int32).toInt = 48 from rfl] at a2
    have e72 : (72 : Int32).toInt = 72 := rfl
    have eH : ((t.1 52).1 5 + x).toInt = ((t.1 52).1 5).toInt + x.toInt := by rw [Int32.toInt_add]; exact bm32 (by omega) (by omega)
    have hg := gwS_k (t.1 33).1 (t.1 34).1 (t.1 35).1 x (n1 2)
    have hd := dlS_k (gwS (t.1 33).1 (t.1 34).1 (t.1 35).1 x (n1 2)).1 (t.1 34).1 (gwS (t.1 33).1 (t.1 34).1 (t.1 35).1 x (n1 2)).2.1 (n1 2)
    have hk := dwL_k (hrP ((t.1 52).1 5 + x)) v0I (n1 2) 0 (t.2 2) 0
    rw [Nat.add_zero] at hk
    have hp : ∀ k, k < n1 2 → cnP (gwS (t.1 33).1 (t.1 34).1 (t.1 35).1 x (n1 2)).1 k = hrP ((t.1 52).1 5 + x) (t.2 2 k) ∧ (hrP ((t.1 52).1 5 + x) (t.2 2 k) = true → (t.1 35).1 k + x ≤ (t.1 34).1 k + 72 ∧ ((t.1 35).1 k + x).toInt = ((t.1 35).1 k).toInt + x.toInt ∧ ((t.1 35).1 k).toInt + x.toInt ≤ ((t.1 34).1 k).toInt + 72) := fun k hk => by
      obtain ⟨d1, d2, d3, d4, d5⟩ := c4 k hk
      have ea : ((t.1 35).1 k + x).toInt = ((t.1 35).1 k).toInt + x.toInt := by rw [Int32.toInt_add]; exact bm32 (by omega) (by omega)
      have ec : ((t.1 34).1 k + 72).toInt = ((t.1 34).1 k).toInt + 72 := by rw [Int32.toInt_add, e72]; exact bm32 (by omega) (by omega)
      have el : ((t.2 2 k).2.1 1 + 72).toInt = ((t.2 2 k).2.1 1).toInt + 72 := by rw [Int32.toInt_add, e72]; exact bm32 (by omega) (by omega)
      unfold cnP hrP
      rw [(hg.1 k hk).1]
      by_cases q : (t.1 35).1 k + x ≤ (t.1 34).1 k + 72
      · have q2 : (t.1 52).1 5 + x ≤ (t.2 2 k).2.1 1 + 72 := by
          rw [Int32.le_iff_toInt_le, ea, ec] at q
          rw [Int32.le_iff_toInt_le, eH, el]
          omega
        rw [if_pos q, decide_eq_true q2, decide_eq_true (show ¬ (t.1 33).1 k ≤ 0 from fun z => by rw [Int32.le_iff_toInt_le, show (0 : Int32).toInt = 0 from rfl] at z; omega)]
        refine ⟨rfl, fun _ => ⟨q, ea, ?_⟩⟩
        rw [Int32.le_iff_toInt_le, ea, ec] at q
        exact q
      · have q2 : ¬ (t.1 52).1 5 + x ≤ (t.2 2 k).2.1 1 + 72 := by
          rw [Int32.le_iff_toInt_le, ea, ec] at q
          rw [Int32.le_iff_toInt_le, eH, el]
          omega
        rw [if_neg q, decide_eq_false q2, decide_eq_false (fun z => z (by decide))]
        exact ⟨rfl, fun z => by cases z⟩
    have cg := kx_cg (p := cnP (gwS (t.1 33).1 (t.1 34).1 (t.1 35).1 x (n1 2)).1) (q := fun k => hrP ((t.1 52).1 5 + x) (t.2 2 k)) (n1 2) (fun k hk => (hp k hk).1)
    rw [cg.1] at hd
    refine ⟨h.pa, h.pt, h.sa.u5 (by decide), ⟨?_, ⟨?_, ?_⟩, fun i hi => ?_⟩, h.ir, h.la, h.re, h.mo, h.ca, h.fb, ⟨?_, h.sz.2⟩, h.pz⟩
    · show (dlS (gwS (t.1 33).1 (t.1 34).1 (t.1 35).1 x ((t.1 32).2.2 0)).1 (t.1 34).1 (gwS (t.1 33).1 (t.1 34).1 (t.1 35).1 x ((t.1 32).2.2 0)).2.1 ((t.1 32).2.2 0)).1 = (dwL (hrP ((t.1 52).1 5 + x)) v0I (n1 2) (n1 2, t.2 2, 0)).1
      rw [c1, hd.1, hk.1, Nat.add_zero]
    · show 0 ≤ ((t.1 52).1 5 + x).toInt
      rw [eH]; omega
    · show ((t.1 52).1 5 + x).toInt ≤ ((b + 48 : Nat) : Int)
      rw [eH]; omega
    · have hi : i < (dwL (hrP ((t.1 52).1 5 + x)) v0I (n1 2) (n1 2, t.2 2, 0)).1 := hi
      rw [hk.1, Nat.add_zero] at hi
      show (dlS (gwS (t.1 33).1 (t.1 34).1 (t.1 35).1 x ((t.1 32).2.2 0)).1 (t.1 34).1 (gwS (t.1 33).1 (t.1 34).1 (t.1 35).1 x ((t.1 32).2.2 0)).2.1 ((t.1 32).2.2 0)).2.1 i = ((dwL (hrP ((t.1 52).1 5 + x)) v0I (n1 2) (n1 2, t.2 2, 0)).2.1 i).2.1 0 ∧ (1 ≤ ((dlS (gwS (t.1 33).1 (t.1 34).1 (t.1 35).1 x ((t.1 32).2.2 0)).1 (t.1 34).1 (gwS (t.1 33).1 (t.1 34).1 (t.1 35).1 x ((t.1 32).2.2 0)).2.1 ((t.1 32).2.2 0)).2.1 i).toInt ∧ ((dlS (gwS (t.1 33).1 (t.1 34).1 (t.1 35).1 x ((t.1 32).2.2 0)).1 (t.1 34).1 (gwS (t.1 33).1 (t.1 34).1 (t.1 35).1 x ((t.1 32).2.2 0)).2.1 ((t.1 32).2.2 0)).2.1 i).toInt ≤ 10) ∧ (1 ≤ ((dlS (gwS (t.1 33).1 (t.1 34).1 (t.1 35).1 x ((t.1 32).2.2 0)).1 (t.1 34).1 (gwS (t.1 33).1 (t.1 34).1 (t.1 35).1 x ((t.1 32).2.2 0)).2.1 ((t.1 32).2.2 0)).2.2.1 i).toInt ∧ ((dlS (gwS (t.1 33).1 (t.1 34).1 (t.1 35).1 x ((t.1 32).2.2 0)).1 (t.1 34).1 (gwS (t.1 33).1 (t.1 34).1 (t.1 35).1 x ((t.1 32).2.2 0)).2.1 ((t.1 32).2.2 0)).2.2.1 i).toInt ≤ 24) ∧ (0 ≤ ((dlS (gwS (t.1 33).1 (t.1 34).1 (t.1 35).1 x ((t.1 32).2.2 0)).1 (t.1 34).1 (gwS (t.1 33).1 (t.1 34).1 (t.1 35).1 x ((t.1 32).2.2 0)).2.1 ((t.1 32).2.2 0)).2.2.2 i).toInt ∧ ((dlS (gwS (t.1 33).1 (t.1 34).1 (t.1 35).1 x ((t.1 32).2.2 0)).1 (t.1 34).1 (gwS (t.1 33).1 (t.1 34).1 (t.1 35).1 x ((t.1 32).2.2 0)).2.1 ((t.1 32).2.2 0)).2.2.2 i).toInt ≤ ((dlS (gwS (t.1 33).1 (t.1 34).1 (t.1 35).1 x ((t.1 32).2.2 0)).1 (t.1 34).1 (gwS (t.1 33).1 (t.1 34).1 (t.1 35).1 x ((t.1 32).2.2 0)).2.1 ((t.1 32).2.2 0)).2.2.1 i).toInt + 72) ∧ (((dwL (hrP ((t.1 52).1 5 + x)) v0I (n1 2) (n1 2, t.2 2, 0)).2.1 i).2.1 1).toInt = ((t.1 52).1 5 + x).toInt - ((dlS (gwS (t.1 33).1 (t.1 34).1 (t.1 35).1 x ((t.1 32).2.2 0)).1 (t.1 34).1 (gwS (t.1 33).1 (t.1 34).1 (t.1 35).1 x ((t.1 32).2.2 0)).2.1 ((t.1 32).2.2 0)).2.2.2 i).toInt + ((dlS (gwS (t.1 33).1 (t.1 34).1 (t.1 35).1 x ((t.1 32).2.2 0)).1 (t.1 34).1 (gwS (t.1 33).1 (t.1 34).1 (t.1 35).1 x ((t.1 32).2.2 0)).2.1 ((t.1 32).2.2 0)).2.2.1 i).toInt
      have kl := kx_lt (p := fun k => hrP ((t.1 52).1 5 + x) (t.2 2 k)) (n1 2) i hi
      rw [c1, (hd.2.1 i hi).1, (hd.2.1 i hi).2.1, (hd.2.1 i hi).2.2, hk.2.1 i hi, cg.2 i]
      generalize kx (fun k => hrP ((t.1 52).1 5 + x) (t.2 2 k)) (n1 2) i = k at kl
      obtain ⟨k1, k2⟩ := kl
      obtain ⟨p1, p2, p3⟩ := (hp k k1).2 k2
      obtain ⟨d1, d2, d3, d4, d5⟩ := c4 k k1
      rw [(hg.1 k k1).1, (hg.1 k k1).2, if_pos p1, p2, eH]
      exact ⟨d1, d2, d3, ⟨by omega, p3⟩, by omega⟩
    · show (dwL (hrP ((t.1 52).1 5 + x)) v0I (n1 2) (n1 2, t.2 2, 0)).1 ≤ 20
      rw [hk.1]
      have := fa_cnt_le (fun k => hrP ((t.1 52).1 5 + x) (t.2 2 k)) (n1 2)
      have := h.sz.1
      omega
  · rw [if_neg hw]
    unfold tK_Mm_hours nK_Mm_hours
    refine Eq.mpr (congrArg (fun z => REL z _ _) (if_neg hw)) ?_
    refine Eq.mpr (congrArg (fun z => REL _ z _) (if_neg hw)) ?_
    exact h.up (by omega)
theorem z_gdH {H lt ag cu : Int32} (h1 : 0 ≤ H.toInt ∧ H.toInt ≤ 200000) (h2 : 1 ≤ cu.toInt ∧ cu.toInt ≤ 24) (h3 : 0 ≤ ag.toInt ∧ ag.toInt ≤ cu.toInt + 72) (h4 : lt.toInt = H.toInt - ag.toInt + cu.toInt) : (¬ ag < cu ∧ ¬ cu + 72 < ag) ↔ ¬ H < lt := by
  have e72 : (72 : Int32).toInt = 72 := rfl
  have e : (cu + 72).toInt = cu.toInt + 72 := by rw [Int32.toInt_add, e72]; exact bm32 (by omega) (by omega)
  rw [Int32.lt_iff_toInt_lt, Int32.lt_iff_toInt_lt, Int32.lt_iff_toInt_lt, e, h4]
  omega
theorem RELk.g {t : zTT} {n : Nat → Nat} {b k : Nat} (h : RELk t n b) (hb : b ≤ 100000) (hk : k < n 2) : gdB (t.1 34).1 (t.1 35).1 k = decide (¬ (t.1 52).1 5 < (t.2 2 k).2.1 1) := by
  obtain ⟨d1, d2, d3, d4, d5⟩ := h.2.2 k hk
  have hg := z_gdH ⟨h.2.1.1, by have := h.2.1.2; omega⟩ d3 d4 d5
  unfold gdB
  exact decide_eq_decide.mpr hg
theorem gd_rel {t : zTT} {n : Nat → Nat} {b : Nat} (h : RELk t n b) (hb : b ≤ 100000) : ∀ i, i ≤ n 2 → bx_sum (fun k => if gdB (t.1 34).1 (t.1 35).1 k then (t.1 33).1 k else 0) i = gdS ((t.1 52).1 5) (t.2 2) i
  | 0, _ => rfl
  | i + 1, hi => by
    have ih := gd_rel h hb i (by omega)
    show bx_sum (fun k => if gdB (t.1 34).1 (t.1 35).1 k then (t.1 33).1 k else 0) i + (if gdB (t.1 34).1 (t.1 35).1 i then (t.1 33).1 i else 0) = gdS ((t.1 52).1 5) (t.2 2) i + (if (t.1 52).1 5 < (t.2 2 i).2.1 1 then 0 else (t.2 2 i).2.1 0)
    rw [ih, h.g hb (by omega), (h.2.2 i (by omega)).1]
    by_cases q : (t.1 52).1 5 < (t.2 2 i).2.1 1
    · rw [if_pos q, decide_eq_false (fun z => z q)]
      rfl
    · rw [if_neg q, decide_eq_true q]
      rfl
theorem gdN_rel {t : zTT} {n : Nat → Nat} {b : Nat} (h : RELk t n b) (hb : b ≤ 100000) : gdN t = gdS ((t.1 52).1 5) (t.2 2) (n 2) := by
  unfold gdN
  rw [h.1]
  exact gd_rel h hb (n 2) (Nat.le_refl _)
theorem tk_rel {t : zTT} {n : Nat → Nat} {b : Nat} {x : Int32} (h : RELk t n b) (hb : b ≤ 100000) (hx : 0 ≤ x.toInt ∧ x.toInt ≤ 1000) : ∀ i, i ≤ n 2 → (tkS (t.1 33).1 (t.1 34).1 (t.1 35).1 x i).2 = (tkL ((t.1 52).1 5) (t.2 2) x i).2 ∧ (0 ≤ ((tkL ((t.1 52).1 5) (t.2 2) x i).2).toInt ∧ ((tkL ((t.1 52).1 5) (t.2 2) x i).2).toInt ≤ 1000) ∧ ∀ k, k < n 2 → (tkS (t.1 33).1 (t.1 34).1 (t.1 35).1 x i).1 k = ((tkL ((t.1 52).1 5) (t.2 2) x i).1 k).2.1 0 ∧ ((tkL ((t.1 52).1 5) (t.2 2) x i).1 k).2.1 1 = (t.2 2 k).2.1 1 ∧ (0 ≤ ((tkS (t.1 33).1 (t.1 34).1 (t.1 35).1 x i).1 k).toInt ∧ ((tkS (t.1 33).1 (t.1 34).1 (t.1 35).1 x i).1 k).toInt ≤ 10) ∧ (i ≤ k → (tkL ((t.1 52).1 5) (t.2 2) x i).1 k = t.2 2 k)
  | 0, _ => ⟨rfl, hx, fun k hk => ⟨(h.2.2 k hk).1, rfl, ⟨by have := (h.2.2 k hk).2.1.1; show 0 ≤ ((t.1 33).1 k).toInt; omega, (h.2.2 k hk).2.1.2⟩, fun _ => rfl⟩⟩
  | i + 1, hi => by
    obtain ⟨a, b1, d⟩ := tk_rel h hb hx i (by omega)
    obtain ⟨d1, d2, d3, d4⟩ := d i (by omega)
    have hg := h.g hb (show i < n 2 by omega)
    have dV := d4 (Nat.le_refl i)
    have e0 : (0 : Int32).toInt = 0 := rfl
    have hQ : ∀ K, tkQ ((t.1 52).1 5) (tkL ((t.1 52).1 5) (t.2 2) x i).2 ((tkL ((t.1 52).1 5) (t.2 2) x i).1 i) = K → (tkS (t.1 33).1 (t.1 34).1 (t.1 35).1 x (i + 1)) = (upd (tkS (t.1 33).1 (t.1 34).1 (t.1 35).1 x i).1 i ((tkS (t.1 33).1 (t.1 34).1 (t.1 35).1 x i).1 i - K), (tkS (t.1 33).1 (t.1 34).1 (t.1 35).1 x i).2 - K) ∧ 0 ≤ K.toInt ∧ K.toInt ≤ ((tkL ((t.1 52).1 5) (t.2 2) x i).2).toInt ∧ K.toInt ≤ ((tkS (t.1 33).1 (t.1 34).1 (t.1 35).1 x i).1 i).toInt := fun K hK => by
      unfold tkQ at hK
      rw [d2, ← d1, ← a] at hK
      by_cases q : (t.1 52).1 5 < (t.2 2 i).2.1 1
      · rw [if_pos q] at hK
        subst hK
        rw [tkS_f (fun z => by rw [hg, decide_eq_false (fun y => y q)] at z; exact absurd z.2 (by decide)), Int32.sub_zero, Int32.sub_zero, z_updk rfl, e0]
        exact ⟨rfl, by omega, b1.1, d3.1⟩
      · rw [if_neg q] at hK
        by_cases r : 0 < (tkS (t.1 33).1 (t.1 34).1 (t.1 35).1 x i).2
        · rw [tkS_t ⟨r, by rw [hg]; exact decide_eq_true q⟩]
          have eK : tkM (tkS (t.1 33).1 (t.1 34).1 (t.1 35).1 x i).2 ((tkS (t.1 33).1 (t.1 34).1 (t.1 35).1 x i).1 i) = K := hK
          rw [eK, ← a]
          rw [← a] at b1
          refine ⟨rfl, ?_⟩
          by_cases p : (tkS (t.1 33).1 (t.1 34).1 (t.1 35).1 x i).1 i < (tkS (t.1 33).1 (t.1 34).1 (t.1 35).1 x i).2
          · rw [if_pos p] at hK
            rw [Int32.lt_iff_toInt_lt] at p
            rw [← hK]
            omega
          · rw [if_neg p] at hK
            rw [Int32.lt_iff_toInt_lt] at p
            rw [← hK]
            omega
        · have r0 : (tkS (t.1 33).1 (t.1 34).1 (t.1 35).1 x i).2 = 0 := by
            rw [← a] at b1
            rw [Int32.lt_iff_toInt_lt, e0] at r
            exact Int32.toInt_inj.mp (by rw [e0]; omega)
          rw [r0] at hK
          have hK0 : K = 0 := by
            rw [if_neg (fun z => by rw [Int32.lt_iff_toInt_lt, e0] at z; omega)] at hK
            exact hK.symm
          subst hK0
          rw [tkS_f (fun z => r z.1), Int32.sub_zero, Int32.sub_zero, z_updk rfl, e0]
          exact ⟨rfl, by omega, b1.1, d3.1⟩
    obtain ⟨eS, K0, K1, K2⟩ := hQ _ rfl
    have el := tk_l (h := (t.1 52).1 5) (x := x) (V := t.2 2) (i := i) rfl
    have eL : ((tkL ((t.1 52).1 5) (t.2 2) x i).2 - tkQ ((t.1 52).1 5) (tkL ((t.1 52).1 5) (t.2 2) x i).2 ((tkL ((t.1 52).1 5) (t.2 2) x i).1 i)).toInt = ((tkL ((t.1 52).1 5) (t.2 2) x i).2).toInt - (tkQ ((t.1 52).1 5) (tkL ((t.1 52).1 5) (t.2 2) x i).2 ((tkL ((t.1 52).1 5) (t.2 2) x i).1 i)).toInt := by rw [Int32.toInt_sub]; exact bm32 (by omega) (by omega)
    refine ⟨by rw [eS, el, a], by rw [el, eL]; omega, fun k hk => ?_⟩
    obtain ⟨f1, f2, f3, f4⟩ := d k hk
    rw [eS]
    show upd (tkS (t.1 33).1 (t.1 34).1 (t.1 35).1 x i).1 i _ k = ((if k = i then tkW ((t.1 52).1 5) (tkL ((t.1 52).1 5) (t.2 2) x i).2 ((tkL ((t.1 52).1 5) (t.2 2) x i).1 i) else (tkL ((t.1 52).1 5) (t.2 2) x i).1 k) : zV).2.1 0 ∧ ((if k = i then tkW ((t.1 52).1 5) (tkL ((t.1 52).1 5) (t.2 2) x i).2 ((tkL ((t.1 52).1 5) (t.2 2) x i).1 i) else (tkL ((t.1 52).1 5) (t.2 2) x i).1 k) : zV).2.1 1 = (t.2 2 k).2.1 1 ∧ (0 ≤ (upd (tkS (t.1 33).1 (t.1 34).1 (t.1 35).1 x i).1 i _ k).toInt ∧ (upd (tkS (t.1 33).1 (t.1 34).1 (t.1 35).1 x i).1 i _ k).toInt ≤ 10) ∧ (i + 1 ≤ k → ((if k = i then tkW ((t.1 52).1 5) (tkL ((t.1 52).1 5) (t.2 2) x i).2 ((tkL ((t.1 52).1 5) (t.2 2) x i).1 i) else (tkL ((t.1 52).1 5) (t.2 2) x i).1 k) : zV) = t.2 2 k)
    by_cases q : k = i
    · subst q
      rw [if_pos rfl, upd_eq]
      have es : ((tkS (t.1 33).1 (t.1 34).1 (t.1 35).1 x k).1 k - tkQ ((t.1 52).1 5) (tkL ((t.1 52).1 5) (t.2 2) x k).2 ((tkL ((t.1 52).1 5) (t.2 2) x k).1 k)).toInt = ((tkS (t.1 33).1 (t.1 34).1 (t.1 35).1 x k).1 k).toInt - (tkQ ((t.1 52).1 5) (tkL ((t.1 52).1 5) (t.2 2) x k).2 ((tkL ((t.1 52).1 5) (t.2 2) x k).1 k)).toInt := by rw [Int32.toInt_sub]; exact bm32 (by omega) (by omega)
      refine ⟨?_, f2, by rw [es]; omega, fun z => absurd z (by omega)⟩
      rw [f1]
      rfl
    · rw [if_neg q, upd_ne q]
      exact ⟨f1, f2, f3, fun z => f4 (by omega)⟩
theorem use_1 {a b c : Int32} (h : a = b ∧ 0 ≤ a.toInt ∧ a.toInt ≤ 300) (hc : 0 ≤ c.toInt ∧ c.toInt ≤ 10) : (if 0 < a - c then a - c else 0) = S_Mm_most (b - c) ∧ 0 ≤ (if 0 < a - c then a - c else 0).toInt ∧ (if 0 < a - c then a - c else 0).toInt ≤ 300 := by
  obtain ⟨rfl, h1, h2⟩ := h
  have e0 : (0 : Int32).toInt = 0 := rfl
  have e3 : (300 : Int32).toInt = 300 := rfl
  have e : (a - c).toInt = a.toInt - c.toInt := by rw [Int32.toInt_sub]; exact bm32 (by omega) (by omega)
  unfold S_Mm_most
  by_cases r : a - c < 300
  · rw [if_pos r]
    by_cases q : 0 < a - c
    · rw [if_pos q]
      refine ⟨rfl, ?_⟩
      rw [Int32.lt_iff_toInt_lt, e0, e] at q
      rw [e]; omega
    · rw [if_neg q, e0]
      exact ⟨rfl, by omega, by omega⟩
  · rw [Int32.lt_iff_toInt_lt, e3, e] at r
    have hc0 : c = 0 := Int32.toInt_inj.mp (by rw [e0]; omega)
    subst hc0
    have ha : a = 300 := Int32.toInt_inj.mp (by rw [e3]; omega)
    subst ha
    decide
theorem use_2 {a b m : Int32} (h : a = b ∧ 0 ≤ a.toInt ∧ a.toInt ≤ 300) (hm : 0 ≤ m.toInt ∧ m.toInt ≤ 1000) : (if a + m < 300 then a + m else 300) = S_Mm_most (b + m) ∧ 0 ≤ (if a + m < 300 then a + m else 300).toInt ∧ (if a + m < 300 then a + m else 300).toInt ≤ 300 := by
  obtain ⟨rfl, h1, h2⟩ := h
  have e3 : (300 : Int32).toInt = 300 := rfl
  have e : (a + m).toInt = a.toInt + m.toInt := by rw [Int32.toInt_add]; exact bm32 (by omega) (by omega)
  refine ⟨(z_sat e (by omega)).symm, ?_⟩
  by_cases q : a + m < 300
  · rw [if_pos q, e]
    rw [Int32.lt_iff_toInt_lt, e3, e] at q
    omega
  · rw [if_neg q, e3]
    omega
theorem use_3 {a b : Int32} {c : Nat} (h : a = b ∧ 0 ≤ a.toInt ∧ a.toInt ≤ 300) (hc : c ≤ 108) : (if (a + 10) + (nI c / 4) < 300 then (a + 10) + (nI c / 4) else 300) = S_Mm_most (b + 10 + nI c / 4) ∧ 0 ≤ (if (a + 10) + (nI c / 4) < 300 then (a + 10) + (nI c / 4) else 300).toInt ∧ (if (a + 10) + (nI c / 4) < 300 then (a + 10) + (nI c / 4) else 300).toInt ≤ 300 := by
  have e4 : (4 : Int32).toInt = 4 := rfl
  have ed : (nI c / 4).toInt = (c : Int) / 4 := by
    rw [Int32.toInt_div, nI_toInt (by omega), e4, Int.tdiv_eq_ediv_of_nonneg (by omega)]
    exact bm32 (by omega) (by omega)
  have em : (10 + nI c / 4).toInt = 10 + (c : Int) / 4 := by
    rw [Int32.toInt_add, ed, show (10 : Int32).toInt = 10 from rfl]
    exact bm32 (by omega) (by omega)
  have k := use_2 (m := 10 + nI c / 4) h (by rw [em]; omega)
  rw [← Int32.add_assoc, ← Int32.add_assoc] at k
  exact k
theorem fill_eq {f : Nat → Int32} (h : ∀ k, 108 ≤ k → f k = 0) : fa_fill f (fun _ => 0) 108 = f := funext fun k => by
  by_cases q : k < 108
  · exact if_pos q
  · exact (if_neg q).trans (h k (by omega)).symm
theorem mo_new {t : zTT} {n : Nat → Nat} {b : Nat} (h : REL t n b) : RELm (moV t) (cpV t) (nuV t) := by
  have ef := fill_eq h.pz
  refine ⟨?_, ?_, ?_, ?_, ?_, ?_, ?_, rfl⟩
  · show fa_fill (t.1 2).1 (fun _ => 0) 108 = fa_fill (t.1 53).1 (fun _ => 0) 108
    rw [h.pa]
  · show fa_cnt (fun k => tmB ((t.1 2).1 k)) 108 = fa_cnt (fun k => tmB (fa_fill (t.1 2).1 (fun _ => 0) 108 k)) 108
    rw [ef]
  · show rsR (t.1 2).1 = rsR (fa_fill (t.1 2).1 (fun _ => 0) 108)
    rw [ef]
  · show bdI (t.1 2).1 ((t.1 1).2.2 0) = bdI (fa_fill (t.1 2).1 (fun _ => 0) 108) ((t.1 52).2.2 0)
    rw [ef, h.pt]
  · show S_GS_strength 0 ((t.1 31).1 0) ((t.1 31).1 1) ((t.1 31).1 2) ((t.1 31).1 3) ((t.1 31).1 4) = mstI (t.1 52).1
    rw [(h.sa 0 (by decide)).1, (h.sa 1 (by decide)).1, (h.sa 2 (by decide)).1, (h.sa 3 (by decide)).1, (h.sa 4 (by decide)).1]
    rfl
  · show S_GS_draught 0 ((t.1 31).1 0) ((t.1 31).1 1) ((t.1 31).1 2) ((t.1 31).1 3) ((t.1 31).1 4) = mdrI (t.1 52).1
    rw [(h.sa 0 (by decide)).1, (h.sa 1 (by decide)).1, (h.sa 2 (by decide)).1, (h.sa 3 (by decide)).1, (h.sa 4 (by decide)).1]
    rfl
  · show (t.1 31).1 1 = (t.1 52).1 1
    exact (h.sa 1 (by decide)).1
theorem R_leastCost {t : zTT} {n n1 n2 : Nat → Nat} {b : Nat} (x1 x2 x3 x4 x5 x6 : Int32) (h : REL t n b) (e1 : n1 = n) (e2 : n2 = n1) : REL (tK_Mm_leastCost x1 x2 x3 x4 x5 x6 (tK_Ip_leastCost x1 x2 x3 x4 x5 x6 t)) n2 b := by
  subst e1; subst e2
  unfold tK_Ip_leastCost
  by_cases hw : (0 ≤ x1 ∧ x1 ≤ 450) ∧ (x1 ≤ x2 ∧ x2 ≤ 450) ∧ (0 ≤ x3 ∧ x3 ≤ 450) ∧ (1 ≤ x4 ∧ x4 ≤ 1000) ∧ (1 ≤ x5 ∧ x5 ≤ 1000) ∧ (1 ≤ x6 ∧ x6 ≤ 1000)
  · rw [if_pos hw]
    have hp : ∀ P A, P + A ≤ 100 → 0 ≤ prS x4 x5 x6 P A := fun P A q => prS_nn hw.2.2.2.1 hw.2.2.2.2.1 hw.2.2.2.2.2 q
    have hj := rcO_J (le := x1) (mo := x2) (si := x3) hp (s := (-1, (t.1 49).1 0, (t.1 49).1 1, (t.1 49).1 2)) (t := (-1, -1, 0, 0)) rfl 11 (Nat.le_refl _)
    unfold tK_Mm_leastCost
    by_cases hs : (rcO x1 x2 x3 x4 x5 x6 (-1, -1, 0, 0) 11).1 < 0
    · refine Eq.mpr (congrArg (fun z => REL z _ _) ((if_pos hw).trans (if_pos hs))) ?_
      have e := hj.resolve_right (fun q => q.2.1 (by rw [q.1]; exact hs))
      refine ⟨h.pa, h.pt, h.sa, h.co, h.ir, h.la, ?_, h.mo, h.ca, h.fb, h.sz, h.pz⟩
      show ((rcO x1 x2 x3 x4 x5 x6 (-1, (t.1 49).1 0, (t.1 49).1 1, (t.1 49).1 2) 11).2.2.2 = 0 ∧ (t.1 52).1 9 = -1) ∨ (¬ (rcO x1 x2 x3 x4 x5 x6 (-1, (t.1 49).1 0, (t.1 49).1 1, (t.1 49).1 2) 11).2.2.2 = 0 ∧ (rcO x1 x2 x3 x4 x5 x6 (-1, (t.1 49).1 0, (t.1 49).1 1, (t.1 49).1 2) 11).2.1 = (t.1 52).1 9 ∧ (rcO x1 x2 x3 x4 x5 x6 (-1, (t.1 49).1 0, (t.1 49).1 1, (t.1 49).1 2) 11).2.2.1 = (t.1 52).1 10 ∧ ¬ (t.1 52).1 9 = -1)
      rw [e.1]
      exact h.re
    · refine Eq.mpr (congrArg (fun z => REL z _ _) ((if_pos hw).trans (if_neg hs))) ?_
      have e := hj.resolve_left (fun q => hs (by rw [q.2]; decide))
      refine ⟨h.pa, h.pt, (h.sa.u5 (by decide)).u5 (by decide), h.co, h.ir, h.la, ?_, h.mo, h.ca, h.fb, h.sz, h.pz⟩
      show ((rcO x1 x2 x3 x4 x5 x6 (-1, (t.1 49).1 0, (t.1 49).1 1, (t.1 49).1 2) 11).2.2.2 = 0 ∧ (rcO x1 x2 x3 x4 x5 x6 (-1, -1, 0, 0) 11).2.1 = -1) ∨ (¬ (rcO x1 x2 x3 x4 x5 x6 (-1, (t.1 49).1 0, (t.1 49).1 1, (t.1 49).1 2) 11).2.2.2 = 0 ∧ (rcO x1 x2 x3 x4 x5 x6 (-1, (t.1 49).1 0, (t.1 49).1 1, (t.1 49).1 2) 11).2.1 = (rcO x1 x2 x3 x4 x5 x6 (-1, -1, 0, 0) 11).2.1 ∧ (rcO x1 x2 x3 x4 x5 x6 (-1, (t.1 49).1 0, (t.1 49).1 1, (t.1 49).1 2) 11).2.2.1 = (rcO x1 x2 x3 x4 x5 x6 (-1, -1, 0, 0) 11).2.2.1 ∧ ¬ (rcO x1 x2 x3 x4 x5 x6 (-1, -1, 0, 0) 11).2.1 = -1)
      exact Or.inr ⟨by rw [e.2.2.2]; decide, by rw [e.1], by rw [e.1], by rw [← e.1]; exact e.2.2.1⟩
  · rw [if_neg hw]
    unfold tK_Mm_leastCost
    refine Eq.mpr (congrArg (fun z => REL z _ _) (if_neg hw)) ?_
    exact h
theorem sa_use {f m : Nat → Int32} {c : Nat} (h : RELs f m) (hc : c ≤ 108) : RELs (ufI f (nI c)) (muI m (nI c)) := fun i hi => by
  rcases (show i = 0 ∨ i = 1 ∨ i = 2 ∨ i = 3 ∨ i = 4 by omega) with rfl | rfl | rfl | rfl | rfl
  · exact use_1 (c := 3) (h 0 (by decide)) (by decide)
  · exact use_1 (c := 8) (h 1 (by decide)) (by decide)
  · exact use_1 (c := 4) (h 2 (by decide)) (by decide)
  · exact use_2 (m := 2) (h 3 (by decide)) (by decide)
  · exact use_3 (h 4 (by decide)) hc
theorem tk_out {t : zTT} {n : Nat → Nat} {b : Nat} {x : Int32} (h : RELk t n b) (hb : b ≤ 100000) (hx : 0 ≤ x.toInt ∧ x.toInt ≤ 1000) (D : zL3) (hD : dlS (tkS (t.1 33).1 (t.1 34).1 (t.1 35).1 x ((t.1 32).2.2 0)).1 (t.1 34).1 (t.1 35).1 ((t.1 32).2.2 0) = D) (F : Nat × (Nat → zV) × Int32) (hF : dwL tcP tcQ (n 2) (n 2, (tkL ((t.1 52).1 5) (t.2 2) x (n 2)).1, 0) = F) : D.1 = F.1 ∧ F.1 ≤ n 2 ∧ ∀ i, i < F.1 → D.2.1 i = (F.2.1 i).2.1 0 ∧ (1 ≤ (D.2.1 i).toInt ∧ (D.2.1 i).toInt ≤ 10) ∧ (1 ≤ (D.2.2.1 i).toInt ∧ (D.2.2.1 i).toInt ≤ 24) ∧ (0 ≤ (D.2.2.2 i).toInt ∧ (D.2.2.2 i).toInt ≤ (D.2.2.1 i).toInt + 72) ∧ ((F.2.1 i).2.1 1).toInt = ((t.1 52).1 5).toInt - (D.2.2.2 i).toInt + (D.2.2.1 i).toInt := by
  rw [h.1] at hD
  obtain ⟨-, -, ht⟩ := tk_rel h hb hx (n 2) (Nat.le_refl _)
  generalize (tkS (t.1 33).1 (t.1 34).1 (t.1 35).1 x (n 2)).1 = cn at hD ht
  generalize (tkL ((t.1 52).1 5) (t.2 2) x (n 2)).1 = V at hF ht
  have hd := dlS_k cn (t.1 34).1 (t.1 35).1 (n 2)
  have hk := dwL_k tcP tcQ (n 2) 0 V 0
  rw [Nat.add_zero, hF] at hk
  rw [hD] at hd
  have e0 : (0 : Int32).toInt = 0 := rfl
  have hp : ∀ k, k < n 2 → cnP cn k = tcP (V k) := fun k hk => by
    obtain ⟨d1, d2, d3, d4⟩ := ht k hk
    unfold cnP tcP
    rw [← d1]
    by_cases q : cn k = 0
    · rw [decide_eq_false (show ¬ ¬ cn k ≤ 0 from fun z => z (by rw [q]; decide)), decide_eq_false (show ¬ ¬ cn k = 0 from fun z => z q)]
    · rw [decide_eq_true (show ¬ cn k = 0 from q), decide_eq_true (show ¬ cn k ≤ 0 from fun z => q (by rw [Int32.le_iff_toInt_le, e0] at z; exact Int32.toInt_inj.mp (by rw [e0]; omega)))]
  have cg := kx_cg (p := cnP cn) (q := fun k => tcP (V k)) (n 2) hp
  rw [cg.1] at hd
  refine ⟨by rw [hd.1, hk.1]; rfl, ?_, fun i hi => ?_⟩
  · rw [hk.1]
    exact fa_cnt_le _ _
  · rw [hk.1, Nat.add_zero] at hi
    have kl := kx_lt (p := fun k => tcP (V k)) (n 2) i hi
    rw [(hd.2.1 i hi).1, (hd.2.1 i hi).2.1, (hd.2.1 i hi).2.2, hk.2.1 i hi, cg.2 i]
    generalize kx (fun k => tcP (V k)) (n 2) i = k at kl
    obtain ⟨k1, k2⟩ := kl
    obtain ⟨d1, d2, d3, d4⟩ := ht k k1
    obtain ⟨c1, c2, c3, c4, c5⟩ := h.2.2 k k1
    have hz : ¬ cn k = 0 := by
      have k2 : decide (¬ (V k).2.1 0 = 0) = true := k2
      rw [← d1] at k2
      exact of_decide_eq_true k2
    have hz1 : ¬ (cn k).toInt = 0 := fun z => hz (Int32.toInt_inj.mp (by rw [e0]; exact z))
    rw [d2]
    exact ⟨d1, ⟨by omega, d3.2⟩, c3, c4, c5⟩
theorem R_mould {t : zTT} {n n1 n2 : Nat → Nat} {b : Nat} (hb : b ≤ 100000) (h : REL t n b) (e1 : n1 = nK_Ip_mould t n) (e2 : n2 = nK_Mm_mould (tK_Ip_mould t n) n1) : REL (tK_Mm_mould (tK_Ip_mould t n) n1) n2 b := by
  subst e1
  rw [e2]
  unfold tK_Ip_mould nK_Ip_mould
  have hq0 := gdN_rel h.co hb
  by_cases hg : (¬ fa_cnt (fun k => decide ((t.1 2).1 k = 103)) 12 = 0 ∧ anB (fun k => decide ((t.1 2).1 k = 99)) 108 = true)
  · have g' : (¬ fa_cnt (fun k => decide ((t.1 53).1 k = 103)) 12 = 0 ∧ anB (fun k => decide ((t.1 53).1 k = 99)) 108 = true) := h.pa ▸ hg
    rw [if_pos hg, if_pos hg]
    by_cases hq : nI (coN (t.1 2).1) ≤ gdN t
    · have q' : nI (coN (t.1 53).1) ≤ gdS ((t.1 52).1 5) (t.2 2) (n 2) := by
        rw [← h.pa, ← hq0]
        exact hq
      rw [if_pos hq, if_pos hq]
      by_cases h10 : n 0 < 10
      · have m' : ¬ n 3 = 10 := by
          have := h.mo.1
          omega
        rw [if_pos h10, if_pos h10]
        unfold tK_Mm_mould nK_Mm_mould
        refine Eq.mpr (congrArg (fun z => REL z _ _) ((if_pos g').trans ((if_pos q').trans (if_pos m')))) ?_
        refine Eq.mpr (congrArg (fun z => REL _ z _) ((if_pos g').trans ((if_pos q').trans (if_pos m')))) ?_
        have hc := co_le (t.1 2).1
        obtain ⟨o1, o2, o3⟩ := tk_out (x := nI (coN (t.1 2).1)) h.co hb (by rw [nI_toInt (by omega)]; omega) (toT t) rfl (dwL tcP tcQ (n 2) (n 2, (tkL ((t.1 52).1 5) (t.2 2) (nI (coN (t.1 53).1)) (n 2)).1, 0)) (by rw [h.pa])
        refine ⟨h.pa, h.pt, ?_, ⟨?_, h.co.2.1, fun i hi => ?_⟩, h.ir, h.la, h.re, ⟨?_, ?_, fun i hi => ?_⟩, h.ca, h.fb, ⟨?_, ?_, h.sz.2.2⟩, h.pz⟩
        · show RELs (ufI (t.1 31).1 (nI (fa_cnt (fun k => tmB ((t.1 2).1 k)) 108))) (muI (t.1 52).1 (nI (fa_cnt (fun k => tmB ((t.1 53).1 k)) 108)))
          rw [← h.pa]
          exact sa_use h.sa (fa_cnt_le _ 108)
        · exact o1
        · exact o3 i hi
        · show n 0 + 1 = n 3 + 1
          rw [h.mo.1]
        · show n 4 + 1 = n 3 + 1
          rw [h.mo.2.1]
        · have hi : i < n 0 + 1 := hi
          show RELm (if i = n 0 then moV t else t.2 0 i) (if i = n 3 then cpV t else t.2 3 i) (if i = n 4 then nuV t else t.2 4 i)
          rw [h.mo.2.1, ← h.mo.1]
          by_cases q : i = n 0
          · rw [if_pos q, if_pos q, if_pos q]
            exact mo_new h
          · rw [if_neg q, if_neg q, if_neg q]
            exact h.mo.2.2 i (by omega)
        · show (dwL tcP tcQ (n 2) (n 2, (tkL ((t.1 52).1 5) (t.2 2) (nI (coN (t.1 53).1)) (n 2)).1, 0)).1 ≤ 20
          have := h.sz.1
          omega
        · show n 0 + 1 ≤ 10
          omega
      · have m' : ¬ ¬ n 3 = 10 := fun z => z (by have := h.mo.1; have := h.sz.2.1; omega)
        rw [if_neg h10, if_neg h10]
        unfold tK_Mm_mould nK_Mm_mould
        refine Eq.mpr (congrArg (fun z => REL z _ _) ((if_pos g').trans ((if_pos q').trans (if_neg m')))) ?_
        refine Eq.mpr (congrArg (fun z => REL _ z _) ((if_pos g').trans ((if_pos q').trans (if_neg m')))) ?_
        exact h
    · have q' : ¬ nI (coN (t.1 53).1) ≤ gdS ((t.1 52).1 5) (t.2 2) (n 2) := by
        rw [← h.pa, ← hq0]
        exact hq
      rw [if_neg hq, if_neg hq]
      unfold tK_Mm_mould nK_Mm_mould
      refine Eq.mpr (congrArg (fun z => REL z _ _) ((if_pos g').trans (if_neg q'))) ?_
      refine Eq.mpr (congrArg (fun z => REL _ z _) ((if_pos g').trans (if_neg q'))) ?_
      exact h
  · have g' : ¬ (¬ fa_cnt (fun k => decide ((t.1 53).1 k = 103)) 12 = 0 ∧ anB (fun k => decide ((t.1 53).1 k = 99)) 108 = true) := h.pa ▸ hg
    rw [if_neg hg, if_neg hg]
    unfold tK_Mm_mould nK_Mm_mould
    refine Eq.mpr (congrArg (fun z => REL z _ _) (if_neg g')) ?_
    refine Eq.mpr (congrArg (fun z => REL _ z _) (if_neg g')) ?_
    exact h
theorem pg_rel {G B : Nat → Int64} {tk al : Int32} (h : ∀ e, e < 4 → B e = G (4 * 1 + e)) : ∀ n, n ≤ 4 → (∀ e, e < 4 → mvS B tk al n e = (pgM G tk al n).1 (4 * 1 + e)) ∧ (∀ e, e < 4 → mvT B tk al (fun _ => 0) n e = (pgM G tk al n).2 e) ∧ (∀ e, n ≤ e → (pgM G tk al n).2 e = 0) ∧ ∀ p, ¬ p = 1 → ∀ e, e < 4 → (pgM G tk al n).1 (4 * p + e) = G (4 * p + e)
  | 0, _ => ⟨h, fun _ _ => rfl, fun _ _ => rfl, fun _ _ _ _ => rfl⟩
  | n + 1, hn => by
    obtain ⟨h1, h2, h3, h4⟩ := pg_rel (tk := tk) (al := al) h n (by omega)
    have e0 : 4 * 1 + n = 4 + n := by omega
    have hv : mvA (mvS B tk al n) tk al n = (pgM G tk al n).1 (4 + n) * tk.toInt64 / al.toInt64 := by
      show mvS B tk al n n * tk.toInt64 / al.toInt64 = _
      rw [h1 n (by omega), e0]
    refine ⟨fun e he => ?_, fun e he => ?_, fun e he => ?_, fun p hp e he => ?_⟩
    · show vp_updL (mvS B tk al n) n (mvS B tk al n n - mvA (mvS B tk al n) tk al n) e = vp_updL (pgM G tk al n).1 (4 + n) ((pgM G tk al n).1 (4 + n) - (vp_updL (pgM G tk al n).2 n ((pgM G tk al n).1 (4 + n) * tk.toInt64 / al.toInt64)) n) (4 * 1 + e)
      by_cases q : e = n
      · subst q
        rw [updL_eq, e0, updL_eq, updL_eq, hv, h1 e he, e0]
      · rw [updL_ne q, updL_ne (by omega), h1 e he]
    · show vp_updL (mvT B tk al (fun _ => 0) n) n (mvT B tk al (fun _ => 0) n n + mvA (mvS B tk al n) tk al n) e = vp_updL (pgM G tk al n).2 n ((pgM G tk al n).1 (4 + n) * tk.toInt64 / al.toInt64) e
      by_cases q : e = n
      · subst q
        rw [updL_eq, updL_eq, hv, h2 e he, h3 e (Nat.le_refl e), Int64.zero_add]
      · rw [updL_ne q, updL_ne q, h2 e he]
    · show vp_updL _ _ _ _ = _
      rw [updL_ne (by omega)]
      exact h3 e (by omega)
    · show vp_updL _ _ _ _ = _
      rw [updL_ne (by omega)]
      exact h4 p hp e he
theorem am_pos {i : Int32} {c : Nat} (h0 : 0 ≤ i.toInt) (hn : ¬ i = 0) (hc : 1 ≤ c) (hc2 : c ≤ 108) : 1 ≤ (if i < nI (2 * c) then i else nI (2 * c)).toInt ∧ (if i < nI (2 * c) then i else nI (2 * c)).toInt ≤ i.toInt := by
  have hz : ¬ i.toInt = 0 := fun q => hn (Int32.toInt_inj.mp (by rw [q]; rfl))
  have e : (nI (2 * c)).toInt = ((2 * c : Nat) : Int) := nI_toInt (by omega)
  by_cases q : i < nI (2 * c)
  · rw [if_pos q]
    omega
  · rw [if_neg q, e]
    rw [Int32.lt_iff_toInt_lt, e] at q
    omega
theorem if_b {α : Type} {p : Prop} [Decidable p] {x y : α} : (if p then x else y) = cond (decide p) x y := by
  by_cases h : p
  · rw [if_pos h, decide_eq_true h]; rfl
  · rw [if_neg h, decide_eq_false h]; rfl
theorem moF_b {bad sp sr dr wa wt : Int32} : moF bad sp sr dr wa wt = (if (dr < 80 ∧ 40 < wa) ∨ 60 < wt then mo1 bad sp sr ||| 8 else mo1 bad sp sr) := by
  unfold moF
  by_cases h1 : 80 ≤ dr
  · rw [if_pos h1]
    by_cases h2 : wt ≤ 60
    · rw [if_pos h2, if_neg (fun q => q.elim (fun z => Int32.not_lt.mpr h1 z.1) (fun z => Int32.not_lt.mpr h2 z))]
    · rw [if_neg h2, if_pos (Or.inr (Int32.not_le.mp h2))]
  · rw [if_neg h1]
    by_cases h3 : 40 < wa
    · rw [if_pos h3, if_pos (Or.inl ⟨Int32.not_le.mp h1, h3⟩)]
    · rw [if_neg h3]
      by_cases h2 : wt ≤ 60
      · rw [if_pos h2, if_neg (fun q => q.elim (fun z => h3 z.2) (fun z => Int32.not_lt.mpr h2 z))]
      · rw [if_neg h2, if_pos (Or.inr (Int32.not_le.mp h2))]
def fbC1 (b0 sn : Bool) : Int32 := cond sn (cond b0 0 16) (cond b0 0 16 ||| 4)
def fbC2 (x : Int32) (bl : Bool) : Int32 := cond bl (x ||| 8) x
def fbC3 (x : Int32) (s0 : Bool) : Int32 := cond s0 x (x ||| 1)
def fbC4 (x : Int32) (c : Bool) : Int32 := cond c (x ||| 2) x
def fbC5 (x : Int32) (hd : Bool) : Int32 := cond hd (x ||| 32) x
def fbC (b0 sn bl s0 c hd : Bool) : Int32 := fbC5 (fbC4 (fbC3 (fbC2 (fbC1 b0 sn) bl) s0) c) hd
def fbM (b0 sn bl s0 c hd : Bool) : Int32 := cond s0 0 1 + cond c 2 0 + cond sn 0 4 + (cond bl 8 0 + cond b0 0 16 + cond hd 32 0)
theorem fb_rel : ∀ b0 sn bl s0 s2 c hd : Bool, (c = false → s0 = s2) → fbC b0 sn bl s0 c hd &&& -2 = fbM b0 sn bl s2 c hd &&& -2 ∧ (fbC b0 sn bl s0 c hd &&& 2 = 0 → fbC b0 sn bl s0 c hd = fbM b0 sn bl s2 c hd) := by decide +kernel
theorem caF_b {t : zTT} {vm : zV} {X : zTr} : caF t vm X = fbC (decide (vm.1 1 = 0)) (decide (vm.1 0 ≤ vm.1 2)) (decide ((vm.1 3 < 80 ∧ 40 < vm.1 4) ∨ 60 < vm.1 5)) (decide (caS t vm X ≤ 0)) (decide (amI t vm < 2 * nI (vm.2.2.2 0) ∨ caC t vm X = true)) (caH t vm) := by
  have e5 : caF t vm X = fbC5 (caF2 t vm X) (caH t vm) := by
    unfold caF fbC5
    rw [if_b, Bool.decide_eq_true]
  have e4 : caF2 t vm X = fbC4 (caF1 t vm X) (decide (amI t vm < 2 * nI (vm.2.2.2 0) ∨ caC t vm X = true)) := if_b
  have e3 : caF1 t vm X = fbC3 (moF (vm.1 1) (vm.1 0) (vm.1 2) (vm.1 3) (vm.1 4) (vm.1 5)) (decide (caS t vm X ≤ 0)) := if_b
  have e2 : moF (vm.1 1) (vm.1 0) (vm.1 2) (vm.1 3) (vm.1 4) (vm.1 5) = fbC2 (mo1 (vm.1 1) (vm.1 0) (vm.1 2)) (decide ((vm.1 3 < 80 ∧ 40 < vm.1 4) ∨ 60 < vm.1 5)) := moF_b.trans if_b
  have e1 : mo1 (vm.1 1) (vm.1 0) (vm.1 2) = fbC1 (decide (vm.1 1 = 0)) (decide (vm.1 0 ≤ vm.1 2)) := by
    unfold mo1 fbC1
    rw [if_b (p := vm.1 0 ≤ vm.1 2), if_b (p := vm.1 1 = 0)]
  rw [e5, e4, e3, e2, e1]
  rfl
theorem pEc_b {f : Nat → Int32} {p : Nat} (hp : p < 9) : pEc f p = cond (decide (bdI f p = 0)) 0 16 := by
  have l1 := lo_le f
  have l2 := ucT_le (f := f) hp 12
  have i1 : (0 : Int32) < nI (loN f) ↔ 0 < loN f := nI_ltI (a := 0) (by decide) (by omega)
  have i2 : (0 : Int32) < nI (ucT f p 12) ↔ 0 < ucT f p 12 := nI_ltI (a := 0) (by decide) (by omega)
  unfold pEc bdI
  by_cases q : 0 < loN f ∨ 0 < ucT f p 12
  · rw [if_pos q, if_pos (q.imp i1.mpr i2.mpr)]
    rfl
  · rw [if_neg q, if_neg (fun z => q (z.imp i1.mp i2.mp))]
    rfl
theorem pfF_b {f nn : Nat → Int32} {p : Nat} {mg9 : Nat → Int64} {tk mg sh : Int32} {c : Bool} (hp : p < 9) : pfF f nn p mg9 tk mg sh c = fbM (decide (bdI f p = 0)) (decide (rsR f ≤ nn 1)) (decide ((nn 2 < 80 ∧ 40 < nn 3) ∨ 60 < nn 4)) (decide (sh ≤ 0)) c (decide (pE9 mg9 tk < 370 ∨ (1 ≤ mg ∧ mg ≤ 19))) := by
  have e5 : pE5 sh = cond (decide (sh ≤ 0)) 0 1 := if_b
  have e7 : pE7 c = cond c 2 0 := by cases c <;> rfl
  have es : pEs f nn = cond (decide (rsR f ≤ nn 1)) 0 4 := if_b
  have eb : pEb (pE8 nn) = cond (decide ((nn 2 < 80 ∧ 40 < nn 3) ∨ 60 < nn 4)) 8 0 := by
    unfold pE8
    by_cases q : (nn 2 < 80 ∧ 40 < nn 3) ∨ 60 < nn 4
    · rw [if_pos q, decide_eq_true q]; rfl
    · rw [if_neg q, decide_eq_false q]; rfl
  have eh : pEh (pE10 mg9 tk mg) = cond (decide (pE9 mg9 tk < 370 ∨ (1 ≤ mg ∧ mg ≤ 19))) 32 0 := by
    unfold pE10
    by_cases q : pE9 mg9 tk < 370 ∨ (1 ≤ mg ∧ mg ≤ 19)
    · rw [if_pos q, decide_eq_true q]; rfl
    · rw [if_neg q, decide_eq_false q]; rfl
  unfold pfF
  rw [e5, e7, es, eb, pEc_b hp, eh]
  rfl
theorem dor_b {p : Prop} [Decidable p] {x : Bool} : decide (p ∨ x = true) = (decide p || x) := by
  by_cases h : p
  · rw [decide_eq_true h, decide_eq_true (Or.inl h)]; rfl
  · cases x with
    | true => rw [decide_eq_true (Or.inr rfl), Bool.or_true]
    | false => rw [decide_eq_false h, decide_eq_false (fun q => q.elim h (fun e => by cases e))]; rfl
theorem mg_hd {m : Int32} : (¬ m ≤ 0 ∧ m < 20) ↔ (1 ≤ m ∧ m ≤ 19) := by
  rw [Int32.le_iff_toInt_le, Int32.lt_iff_toInt_lt, Int32.le_iff_toInt_le, Int32.le_iff_toInt_le, show (0 : Int32).toInt = 0 from rfl, show (20 : Int32).toInt = 20 from rfl, show (1 : Int32).toInt = 1 from rfl, show (19 : Int32).toInt = 19 from rfl]
  omega
theorem caV_0 {t : zTT} {vm : zV} {X : zTr} {fb : Int32} : (caV t vm X fb).1 0 = (t.1 42).1 1 := rfl
theorem caV_2 {t : zTT} {vm : zV} {X : zTr} {fb : Int32} : (caV t vm X fb).1 2 = fb := rfl
theorem caV_3 {t : zTT} {vm : zV} {X : zTr} {fb : Int32} : (caV t vm X fb).1 3 = 0 := rfl
theorem caV_4 {t : zTT} {vm : zV} {X : zTr} {fb : Int32} : (caV t vm X fb).1 4 = 0 := rfl
theorem caV_5 {t : zTT} {vm : zV} {X : zTr} {fb : Int32} : (caV t vm X fb).1 5 = 0 + amI t vm := rfl
theorem frN_12 (h : Int32) (X : zTr) : (frN h X).1.2.1 = flP X.1.1 X.1.2.1 X.1.2.2.1 := by
  unfold frN
  dsimp only
theorem frN_11 (h : Int32) (X : zTr) : (frN h X).1.1 = X.1.1 := by
  unfold frN
  dsimp only
theorem po_cast {t : zTT} {n : Nat → Nat} {b : Nat} {X : zTr} {S : zSC} (h : REL t n b) (h0 : ¬ n 0 = 0) (hg : ¬ fa_cnt (fun k => decide ((t.2 3 0).2.1 k = 103)) 12 = 0) (hp : (t.2 4 0).2.2.2 0 < 9) (hi : ¬ (t.1 63).1 1 = 0) (hh : 1250 ≤ (t.1 42).1 0) : RELc (caV t (t.2 0 0) X (caF t (t.2 0 0) X)) (pcv9 t (pShS t S) (pFbS t S)) (pgv9 t) ∧ amI t (t.2 0 0) = ptk t ∧ 0 ≤ ((t.1 63).1 1 - ptk t).toInt := by
  obtain ⟨q1, q2, q3, q4, q5, q6, q7, q8⟩ := h.mo.2.2 0 (Nat.pos_of_ne_zero h0)
  have l := h.la.2 hi
  have ei : (t.1 43).1 0 = (t.1 63).1 1 := h.ir.1.2.1
  have e2 : (2 : Int32) * nI (fa_cnt (fun k => tmB ((t.2 3 0).2.1 k)) 108) = nI (2 * fa_cnt (fun k => tmB ((t.2 3 0).2.1 k)) 108) := pk_mul _ _
  have ea : amI t (t.2 0 0) = ptk t := by
    unfold amI ptk
    rw [q2, q1, ei, e2]
  have hc1 := cnt_pos hg
  have hpos : 1 ≤ (ptk t).toInt ∧ (ptk t).toInt ≤ ((t.1 63).1 1).toInt := am_pos h.la.1 hi (Nat.pos_of_ne_zero hc1) (fa_cnt_le _ 108)
  have hgr := pg_rel (tk := ptk t) (al := (t.1 63).1 1) h.ir.2.2.1 4 (Nat.le_refl _)
  have eG : ∀ e, e < 4 → caG t (t.2 0 0) e = (pgg t).2 e := fun e he => by
    unfold caG
    rw [ea, ei]
    exact hgr.2.1 e he
  have hnp : ¬ ptk t ≤ 0 := fun q => by
    rw [Int32.le_iff_toInt_le, show (0 : Int32).toInt = 0 from rfl] at q
    omega
  have eX : caX t (t.2 0 0) X = frN ((t.1 42).1 0) (tkT (t.2 0 0).2.1 X) := if_neg (show ¬ (0 : Int32) = (t.1 42).1 0 from fun e => absurd hh (by rw [← e]; decide))
  have hce : eqA (fa_fill (t.2 0 0).2.1 X.1.1 108) (t.2 3 0).2.1 := fun k hk => (fa_fill_in hk).trans (congrFun q1 k)
  have hfl : eqA (flK (fa_fill (t.2 0 0).2.1 X.1.1 108) X.1.2.1) (flC (t.2 3 0).2.1 S.1) := fun k hk => ((fill_rel hce S.1 X.1.2.1).1 k hk).symm
  have g1 : (frN ((t.1 42).1 0) (tkT (t.2 0 0).2.1 X)).1.1 = fa_fill (t.2 0 0).2.1 X.1.1 108 := (frN_11 _ _).trans rfl
  have f1 : (frN ((t.1 42).1 0) (tkT (t.2 0 0).2.1 X)).1.1 = (tkT (t.2 0 0).2.1 X).1.1 := frN_11 _ _
  have f2 : (frN ((t.1 42).1 0) (tkT (t.2 0 0).2.1 X)).1.2.1 = flP (tkT (t.2 0 0).2.1 X).1.1 (tkT (t.2 0 0).2.1 X).1.2.1 (tkT (t.2 0 0).2.1 X).1.2.2.1 := frN_12 _ _
  have t1 : (tkT (t.2 0 0).2.1 X).1.1 = fa_fill (t.2 0 0).2.1 X.1.1 108 := rfl
  have t2 : (tkT (t.2 0 0).2.1 X).1.2.1 = X.1.2.1 := rfl
  have t3 : (tkT (t.2 0 0).2.1 X).1.2.2.1 = 0 := rfl
  have g2 : (frN ((t.1 42).1 0) (tkT (t.2 0 0).2.1 X)).1.2.1 = flK (fa_fill (t.2 0 0).2.1 X.1.1 108) X.1.2.1 := by
    rw [f2, t1, t2, t3]
    unfold flK
    with_reducible rfl
  have eC1 : caC t (t.2 0 0) X = anB (icP (t.2 3 0).2.1 (flC (t.2 3 0).2.1 S.1) ((t.1 52).1 6)) 108 := by
    unfold caC
    rw [eX, g1, g2, ← l.1]
    exact ic_E hce hfl
  have eC : decide (amI t (t.2 0 0) < 2 * nI ((t.2 0 0).2.2.2 0) ∨ caC t (t.2 0 0) X = true) = pCo t S.1 := by
    rw [dor_b, ea, q2, q1, e2, eC1]
    rfl
  have hs : pCo t S.1 = false → decide (caS t (t.2 0 0) X ≤ 0) = decide (pShS t S ≤ 0) := fun hcf => by
    have ec : anB (icP (t.2 3 0).2.1 (flC (t.2 3 0).2.1 S.1) ((t.1 52).1 6)) 108 = false := (Bool.or_eq_false_iff.mp hcf).2
    rw [← eC1] at ec
    unfold caC at ec
    rw [eX, f1, f2] at ec
    have hh2 := hh
    rw [Int32.le_iff_toInt_le, show (1250 : Int32).toInt = 1250 from rfl] at hh2
    have k := shr_E (f := (t.2 3 0).2.1) (fl := S.1) (he := S.2.1) (nx := S.2.2.1) (mt := S.2.2.2.1) (fz := S.2.2.2.2.1) (ic := S.2.2.2.2.2.1) (qn := S.2.2.2.2.2.2) (h := (t.1 42).1 0) (X := tkT (t.2 0 0).2.1 X) hce rfl hg (by have := l.2.2.2.1.2; omega) (by omega) ec
    have k2 : caS t (t.2 0 0) X = pShS t S := by
      unfold caS
      rw [eX]
      show nI (shN (frN ((t.1 42).1 0) (tkT (t.2 0 0).2.1 X))) = _
      rw [k, l.1]
      unfold pShS pSh
      with_reducible rfl
    rw [k2]
  have eH : caH t (t.2 0 0) = decide (pE9 (pgg t).2 (ptk t) < 370 ∨ (1 ≤ (t.1 52).1 7 ∧ (t.1 52).1 7 ≤ 19)) := by
    have eI : caI (caG t (t.2 0 0)) (0 + amI t (t.2 0 0)) = pE9 (pgg t).2 (ptk t) := by
      unfold caI poI pE9
      rw [Int32.zero_add, ea, if_neg hnp, if_neg hnp, eG 0 (by decide), eG 1 (by decide)]
    unfold caH ihB
    rw [eI, l.2.1]
    exact decide_eq_decide.mpr (or_congr_right mg_hd)
  refine ⟨⟨?_, ?_, eG, ?_, Or.inl ⟨caV_3, caV_4, pcv_5 _ _ _⟩, ?_⟩, ea, ?_⟩
  · rw [caV_0, pcv_1]
    exact l.2.1
  · rw [caV_5, pcv_0, Int32.zero_add]
    exact ea
  · rw [caV_2, pcv_2]
    have eF : pFbS t S = _ := pfF_b (f := (t.2 3 0).2.1) (nn := (t.2 4 0).2.1) (mg9 := (pgg t).2) (tk := ptk t) (mg := (t.1 52).1 7) (sh := pShS t S) (c := pCo t S.1) hp
    rw [eF, caF_b, eC, eH, q4, q3, q1, q5, q6, q7, q8]
    exact fb_rel _ _ _ _ _ _ _ hs
  · rw [caV_0, pcv_4, l.2.1]
    rfl
  · rw [Int32.toInt_sub, bm32 (by have h9 := Int32.toInt_lt ((t.1 63).1 1); omega) (by have h9 := Int32.toInt_lt ((t.1 63).1 1); omega)]
    omega
theorem R_pour {t : zTT} {n n1 n2 : Nat → Nat} {b : Nat} {X9 : zTr} {S9 : zSC} (hx : ¬ n 3 = 0 → ¬ fa_cnt (fun k => decide ((t.2 3 0).2.1 k = 103)) 12 = 0 ∧ (t.2 4 0).2.2.2 0 < 9) (h : REL t n b) (e1 : n1 = nK_Ip_pour t n) (e2 : n2 = nK_Mm_pour (tK_Ip_pour X9 t n) n1) : REL (tK_Mm_pour S9 (tK_Ip_pour X9 t n) n1) n2 b := by
  subst e1
  rw [e2]
  have m0 := h.mo.1
  have m4 := h.mo.2.1
  have c5 := h.ca.1
  have c6 := h.ca.2.1
  unfold tK_Ip_pour nK_Ip_pour
  by_cases h0 : ¬ n 0 = 0
  · have h0' : ¬ n 3 = 0 := by omega
    rw [if_pos h0, if_pos h0]
    by_cases h12 : ¬ (t.1 43).1 0 = 0 ∧ 1250 ≤ (t.1 42).1 0
    · have ei : (t.1 43).1 0 = (t.1 63).1 1 := h.ir.1.2.1
      have hi : ¬ (t.1 63).1 1 = 0 := by rw [← ei]; exact h12.1
      have l := h.la.2 hi
      have h12' : ¬ (t.1 63).1 1 = 0 ∧ 1250 ≤ (t.1 52).1 6 := ⟨hi, by rw [← l.1]; exact h12.2⟩
      rw [if_pos h12, if_pos h12]
      by_cases h3 : n 1 < 30
      · have h3' : ¬ n 5 = 30 := by omega
        rw [if_pos h3, if_pos h3]
        unfold tK_Mm_pour nK_Mm_pour
        refine Eq.mpr (congrArg (fun z => REL z _ _) ((if_pos h0').trans ((if_pos h12').trans (if_pos h3')))) ?_
        refine Eq.mpr (congrArg (fun z => REL _ z _) ((if_pos h0').trans ((if_pos h12').trans (if_pos h3')))) ?_
        obtain ⟨g1, g2⟩ := hx h0'
        obtain ⟨k1, k2, k3⟩ := po_cast (X := X9) (S := S9) h h0 g1 g2 hi h12.2
        have hgr := pg_rel (tk := ptk t) (al := (t.1 63).1 1) h.ir.2.2.1 4 (Nat.le_refl _)
        refine ⟨h.pa, h.pt, h.sa, ⟨h.co.1, h.co.2.1, h.co.2.2⟩, ?_, ⟨?_, fun _ => l⟩, h.re, ⟨?_, ?_, fun i hi => ?_⟩, ⟨?_, ?_, fun i hi => ?_⟩, h.fb, ⟨h.sz.1, ?_, ?_⟩, h.pz⟩
        · show RELI ((t.1 37).1 0) ((t.1 43).1 0 - amI t (t.2 0 0)) ((t.1 45).1 0) ((t.1 47).1 0) (t.1 38).2.1 (mvS (t.1 44).2.1 (amI t (t.2 0 0)) ((t.1 43).1 0) 4) (t.1 46).2.1 (t.1 48).2.1 (upd (t.1 63).1 1 ((t.1 63).1 1 - ptk t)) (pgM (t.1 64).2.1 (ptk t) ((t.1 63).1 1) 4).1
          rw [k2, ei]
          refine ⟨⟨?_, ?_, ?_, ?_⟩, fun e he => ?_, fun e he => ?_, fun e he => ?_, fun e he => ?_⟩
          · rw [upd_ne (by decide)]; exact h.ir.1.1
          · rw [upd_eq]
          · rw [upd_ne (by decide)]; exact h.ir.1.2.2.1
          · rw [upd_ne (by decide)]; exact h.ir.1.2.2.2
          · rw [hgr.2.2.2 0 (by decide) e he]; exact h.ir.2.1 e he
          · exact hgr.1 e he
          · rw [hgr.2.2.2 2 (by decide) e he]; exact h.ir.2.2.2.1 e he
          · rw [hgr.2.2.2 3 (by decide) e he]; exact h.ir.2.2.2.2 e he
        · show 0 ≤ ((t.1 63).1 1 - ptk t).toInt
          exact k3
        · show n 0 - 1 = n 3 - 1
          rw [m0]
        · show n 4 - 1 = n 3 - 1
          rw [m4]
        · have hi : i < n 0 - 1 := hi
          show RELm (z_dlV (t.2 0) 0 i) (z_dlV (t.2 3) 0 i) (z_dlV (t.2 4) 0 i)
          have ez : ∀ V : Nat → zV, z_dlV V 0 i = V (i + 1) := fun V => if_neg (Nat.not_lt_zero i)
          rw [ez, ez, ez]
          exact h.mo.2.2 (i + 1) (by omega)
        · show n 1 + 1 = n 5 + 1
          rw [c5]
        · show n 6 + 1 = n 5 + 1
          rw [c6]
        · have hi : i < n 1 + 1 := hi
          show RELc (if i = n 1 then caV t (t.2 0 0) X9 (caF t (t.2 0 0) X9) else t.2 1 i) (if i = n 5 then pcv9 t (pShS t S9) (pFbS t S9) else t.2 5 i) (if i = n 6 then pgv9 t else t.2 6 i)
          rw [c6, ← c5]
          by_cases q : i = n 1
          · rw [if_pos q, if_pos q, if_pos q]
            exact k1
          · rw [if_neg q, if_neg q, if_neg q]
            exact h.ca.2.2 i (by omega)
        · show n 0 - 1 ≤ 10
          have := h.sz.2.1
          omega
        · show n 1 + 1 ≤ 30
          omega
      · have h3' : ¬ ¬ n 5 = 30 := fun z => z (by have := h.sz.2.2; omega)
        rw [if_neg h3, if_neg h3]
        unfold tK_Mm_pour nK_Mm_pour
        refine Eq.mpr (congrArg (fun z => REL z _ _) ((if_pos h0').trans ((if_pos h12').trans (if_neg h3')))) ?_
        refine Eq.mpr (congrArg (fun z => REL _ z _) ((if_pos h0').trans ((if_pos h12').trans (if_neg h3')))) ?_
        exact h
    · have h12' : ¬ (¬ (t.1 63).1 1 = 0 ∧ 1250 ≤ (t.1 52).1 6) := fun q => h12 ⟨by rw [h.ir.1.2.1]; exact q.1, by rw [(h.la.2 q.1).1]; exact q.2⟩
      rw [if_neg h12, if_neg h12]
      unfold tK_Mm_pour nK_Mm_pour
      refine Eq.mpr (congrArg (fun z => REL z _ _) ((if_pos h0').trans (if_neg h12'))) ?_
      refine Eq.mpr (congrArg (fun z => REL _ z _) ((if_pos h0').trans (if_neg h12'))) ?_
      exact h
  · have h0' : ¬ ¬ n 3 = 0 := by omega
    rw [if_neg h0, if_neg h0]
    unfold tK_Mm_pour nK_Mm_pour
    refine Eq.mpr (congrArg (fun z => REL z _ _) (if_neg h0')) ?_
    refine Eq.mpr (congrArg (fun z => REL _ z _) (if_neg h0')) ?_
    exact h
theorem IVm.px {g : zG} {ad : Nat → Nat} {t : zTT} {u : zNN} {w : zW} (hI : IVm g ad t u w) (h : ¬ u.1 3 = 0) : ¬ fa_cnt (fun k => decide ((t.2 3 0).2.1 k = 103)) 12 = 0 ∧ (t.2 4 0).2.2.2 0 < 9 := by
  obtain ⟨s, hI⟩ := hI
  have h4 : u.1 4 = u.1 3 := hI.sz.2.2.2.2.1
  obtain ⟨-, -, -, a⟩ := hI.2.1.2.1 3 (by decide) 0 (by omega)
  obtain ⟨-, -, -, -, b⟩ := hI.2.1.2.1 4 (by decide) 0 (by omega)
  exact ⟨a, b⟩
end
section
def TH (ad : Nat → Nat) (c : Int32) (w : zW) : Prop := ∃ fs : List Value, w (ad 52) = some (.inr (12, .int c :: fs))
def IVo (g : zG) (ad : Nat → Nat) (v : Int64) (t : zTT) (u : zNN) (w : zW) : Prop := ∃ s, (s 69).2.1 0 = v ∧ IV g ad (mg t s) u w
theorem IVo.of {g : zG} {ad : Nat → Nat} {v : Int64} {t T : zTT} {u : zNN} {w : zW} (h : IV g ad T u w) (h1 : ∀ i, ¬ tx i → T.1 i = t.1 i) (h2 : T.2 = t.2) (h3 : (T.1 69).2.1 0 = v) : IVo g ad v t u w := ⟨T.1, h3, by rw [mg_self t T h1 h2]; exact h⟩
theorem IVo.m {g : zG} {ad : Nat → Nat} {v : Int64} {t : zTT} {u : zNN} {w : zW} (h : IVo g ad v t u w) : IVm g ad t u w := by
  obtain ⟨s, -, h⟩ := h
  exact ⟨s, h⟩
theorem IVo.nil {g : zG} {ad : Nat → Nat} {v : Int64} {t : zTT} {u : zNN} {w w1 : zW} (h1 : z_I w w1 0 []) (hI : IVo g ad v t u w) : IVo g ad v t u w1 := (z_I.same (z_I.nil w) h1).symm ▸ hI
theorem IVo.zu {g : zG} {ad : Nat → Nat} {v : Int64} {t : zTT} {s : Nat → zP2} {V : Nat → Nat → zV} {l : List (Nat × zP2)} {u : zNN} {w : zW} (h : IV g ad (zup (mg t s).1 l, V) u w) (h3 : (zup (mg t s).1 l 69).2.1 0 = v) : IVo g ad v (zup t.1 l, V) u w := IVo.of h (fun i hi => zup_cg (P := fun i => ¬ tx i) (fun i hi => if_neg hi) l i hi) rfl h3
theorem IVo.tz {g : zG} {ad : Nat → Nat} {v : Int64} {t : zTT} {s : Nat → zP2} {l : List (Nat × zP2)} {u : zNN} {w : zW} (h : IV g ad (zup (mg t s).1 l, (mg t s).2) u w) (hl : ∀ i ∈ l.map Prod.fst, tx i) (h3 : (zup (mg t s).1 l 69).2.1 0 = v) : IVo g ad v t u w := IVo.of h (fun i hi => (zup_out (fun q => hi (hl i q))).trans (if_neg hi)) rfl h3
def zxA (Es : List String) (p : Int32 × Int32) (o : zO) : Prop := (p.1 = 0 ∧ o = .inl (some (.int p.2))) ∨ ∃ (k : Nat) (E : String), Es[k]? = some E ∧ p.1 = nI (k + 1) ∧ o = .inr E
theorem zxA.V {Es : List String} {p : Int32 × Int32} {v : Option Value} (h : zxA Es p (.inl v)) : ∃ x : Int32, v = some (.int x) ∧ p.1 = 0 ∧ p.2 = x := by
  rcases h with ⟨h1, h2⟩ | ⟨k, E, -, -, h2⟩
  · cases h2; exact ⟨_, rfl, h1, rfl⟩
  · cases h2
theorem zxA.X {Es : List String} {p : Int32 × Int32} {E : String} (h : zxA Es p (.inr E)) : ∃ k : Nat, Es[k]? = some E ∧ p.1 = nI (k + 1) := by
  rcases h with ⟨h1, h2⟩ | ⟨k, E2, h3, h4, h2⟩
  · cases h2
  · cases h2; exact ⟨k, h3, h4⟩
set_option maxHeartbeats 4000000 in
set_option maxRecDepth 100000 in
theorem Qe_Ip_castings {g : zG} {ad : Nat → Nat} {t : zTT} {u : zNN} {w : zW} (hI : IV g ad t u w) : zMB g M_Ip_castings [.ref (ad 0)] w (fun o w1 => o = .inl (some (.int (nI (u.1 1)))) ∧ IV g ad t u w1) 0 0 := by
  obtain ⟨e_a, wf_a, k_a⟩ := hI.1.2 0 (by decide)
  obtain rfl := kd_0.mp k_a
  refine y_of (by decide) rfl (Nat.le_of_ble_eq_true rfl) (y_base (cs := [((ad 0), .inr (11, [.ref (ad 1), .ref (ad 5), .ref (ad 18), .ref (ad 31), .ref (ad 32), .ref (ad 36), .ref (ad 42), .ref (ad 45), .ref (ad 47), .ref (ad 49), .ref (ad 50), .ref (ad 51)]))]) (hI.1.I [0] _ rfl (by decide) (by decide) (List.forall_mem_cons.mpr ⟨wf_a, (fun _ h => nomatch h)⟩)) ?_)
  refine y_lvE (lv2 := [(0, .ref (ad 0))]) rfl ?_
  refine y_aload_n d_Ip_castings_0 rfl 0 rfl ?_
  refine y_get fs_Ip_78 d_Ip_castings_1 (q0 := 0) rfl rfl ?_
  refine yw_callVL (As := []) (rest := []) (ci := 13) rfl (fun wA hA => ((hI.gen (t2 := t) (is := [0]) (L2 := []) hA rfl ⟨kd_0.mpr rfl, trivial⟩ (by decide) (by decide) (fun _ h => nomatch h) (fun _ h => nomatch h) (fun _ _ _ => rfl) (fun h => h) rfl).2.1.1 1 (by decide)).ob) ln_Ip_341 w_im_AL_size w_se_AL_size ok_Ip_castings_AL_size d_Ip_castings_4 (fun wA hA => Q_size ((hI.gen (t2 := t) (is := [0]) (L2 := []) hA rfl ⟨kd_0.mpr rfl, trivial⟩ (by decide) (by decide) (fun _ h => nomatch h) (fun _ h => nomatch h) (fun _ _ _ => rfl) (fun h => h) rfl).2.1.1 1 (by decide))) rfl rfl (Nat.le_of_ble_eq_true rfl) (by omega) (by omega) (fun wA4 hA4 E wB4 hx => ?_) (fun wA4 hA4 v wB4 hx => ?_)
  · exact absurd hx.1 (by simp)
  · obtain ⟨e1, e2⟩ := hx
    cases e1
    refine yw_st (st2 := [.int (nI (u.1 1))]) rfl ?_
    subst e2
    refine y_go hA4 ?_
    refine y_iret d_Ip_castings_7 rfl rfl ?_
    exact fun w1 h1 => ⟨rfl, (hI.gen (t2 := t) (is := [0]) (L2 := []) h1 rfl ⟨kd_0.mpr rfl, trivial⟩ (by decide) (by decide) (fun _ h => nomatch h) (fun _ h => nomatch h) (fun _ _ _ => rfl) (fun h => h) rfl)⟩
set_option maxHeartbeats 4000000 in
set_option maxRecDepth 100000 in
theorem Qe_Mm_castings {g : zG} {ad : Nat → Nat} {t : zTT} {u : zNN} {w : zW} (hI : IV g ad t u w) : zMB g M_Mm_castings [.ref (ad 52)] w (fun o w1 => o = .inl (some (.int (nI (u.1 5)))) ∧ IV g ad t u w1 ∧ TH ad 0 w1) 0 0 := by
  obtain ⟨e_m, wf_m, k_m⟩ := hI.1.2 52 (by decide)
  obtain ⟨v_m_th, rfl⟩ := kd_52.mp k_m
  refine y_of (by decide) rfl (Nat.le_of_ble_eq_true rfl) (y_base (cs := [((ad 52), .inr (12, [.int v_m_th, .ref (ad 53), .int (nI ((t.1 52).2.2 0)), .ref (ad 54), .ref (ad 55), .ref (ad 56), .ref (ad 57), .ref (ad 58), .ref (ad 59), .ref (ad 60), .ref (ad 61), .int ((t.1 52).1 0), .int ((t.1 52).1 1), .int ((t.1 52).1 2), .int ((t.1 52).1 3), .int ((t.1 52).1 4), .int ((t.1 52).1 5), .ref (ad 62), .ref (ad 63), .ref (ad 64), .int ((t.1 52).1 6), .int ((t.1 52).1 7), .int ((t.1 52).1 8), .int ((t.1 52).1 9), .int ((t.1 52).1 10), .ref (ad 65), .ref (ad 66), .ref (ad 67), .ref (ad 68), .long ((t.1 52).2.1 0), .long ((t.1 52).2.1 1)]))]) (hI.1.I [52] _ rfl (by decide) (by decide) (List.forall_mem_cons.mpr ⟨wf_m, (fun _ h => nomatch h)⟩)) ?_)
  refine y_lvE (lv2 := [(0, .ref (ad 52))]) rfl ?_
  refine y_aload_n d_Mm_castings_0 rfl 0 rfl ?_
  refine y_iconst d_Mm_castings_1 (v := 0) (by decide) ?_
  refine y_put fp_Mm_84 d_Mm_castings_2 (fun h => nomatch h) rfl rfl (q0 := 0) rfl (Nat.le_of_ble_eq_true rfl) (cs' := [((ad 52), .inr (12, [.int 0, .ref (ad 53), .int (nI ((t.1 52).2.2 0)), .ref (ad 54), .ref (ad 55), .ref (ad 56), .ref (ad 57), .ref (ad 58), .ref (ad 59), .ref (ad 60), .ref (ad 61), .int ((t.1 52).1 0), .int ((t.1 52).1 1), .int ((t.1 52).1 2), .int ((t.1 52).1 3), .int ((t.1 52).1 4), .int ((t.1 52).1 5), .ref (ad 62), .ref (ad 63), .ref (ad 64), .int ((t.1 52).1 6), .int ((t.1 52).1 7), .int ((t.1 52).1 8), .int ((t.1 52).1 9), .int ((t.1 52).1 10), .ref (ad 65), .ref (ad 66), .ref (ad 67), .ref (ad 68), .long ((t.1 52).2.1 0), .long ((t.1 52).2.1 1)]))]) rfl ?_
  refine y_aload_n d_Mm_castings_5 rfl 0 rfl ?_
  refine y_get fs_Mm_78 d_Mm_castings_6 (q0 := 0) rfl rfl ?_
  refine yw_callVL (As := []) (rest := []) (ci := 13) rfl (fun wA hA => ((hI.gen (t2 := t) (is := [52]) (L2 := []) hA rfl ⟨kd_52.mpr ⟨_, rfl⟩, trivial⟩ (by decide) (by decide) (fun _ h => nomatch h) (fun _ h => nomatch h) (fun _ _ _ => rfl) (fun h => h) rfl).2.1.1 5 (by decide)).ob) ln_Mm_208 w_im_AL_size w_se_AL_size ok_Mm_castings_AL_size d_Mm_castings_9 (fun wA hA => Q_size ((hI.gen (t2 := t) (is := [52]) (L2 := []) hA rfl ⟨kd_52.mpr ⟨_, rfl⟩, trivial⟩ (by decide) (by decide) (fun _ h => nomatch h) (fun _ h => nomatch h) (fun _ _ _ => rfl) (fun h => h) rfl).2.1.1 5 (by decide))) rfl rfl (Nat.le_of_ble_eq_true rfl) (by omega) (by omega) (fun wA9 hA9 E wB9 hx => ?_) (fun wA9 hA9 v wB9 hx => ?_)
  · exact absurd hx.1 (by simp)
  · obtain ⟨e1, e2⟩ := hx
    cases e1
    refine yw_st (st2 := [.int (nI (u.1 5))]) rfl ?_
    subst e2
    refine y_go hA9 ?_
    refine y_iret d_Mm_castings_12 rfl rfl ?_
    exact fun w1 h1 => ⟨rfl, (hI.gen (t2 := t) (is := [52]) (L2 := []) h1 rfl ⟨kd_52.mpr ⟨_, rfl⟩, trivial⟩ (by decide) (by decide) (fun _ h => nomatch h) (fun _ h => nomatch h) (fun _ _ _ => rfl) (fun h => h) rfl), ⟨_, h1.at (q0 := 0) rfl⟩⟩
noncomputable def vK_Ip_castings (ad : Nat → Nat) (t : zTT) (n : Nat → Nat) : Int32 × Int32 := (0, nI (n 1))
theorem KE_Ip_castings {g : zG} {ad : Nat → Nat} {t : zTT} {u : zNN} {w : zW} (hI : IVm g ad t u w) : zMB g M_Ip_castings [.ref (ad 0)] w (fun o w1 => zxA [] (vK_Ip_castings ad t u.1) o ∧ ∃ u2 : zNN, u2.1 = u.1 ∧ IVm g ad t u2 w1) 10 300 := by
  obtain ⟨s, hI⟩ := hI
  exact (Qe_Ip_castings hI).mono (by decide) (by decide) (fun o w1 h => ⟨Or.inl ⟨rfl, h.1⟩, u, rfl, ⟨_, h.2⟩⟩)
noncomputable def vK_Mm_castings (ad : Nat → Nat) (t : zTT) (n : Nat → Nat) : Int32 × Int32 := (0, nI (n 5))
theorem KE_Mm_castings {g : zG} {ad : Nat → Nat} {t : zTT} {u : zNN} {w : zW} {vo : Int64} (hI : IVo g ad vo t u w) : zMB g M_Mm_castings [.ref (ad 52)] w (fun o w1 => o = .inl (some (.int (vK_Mm_castings ad t u.1).2)) ∧ TH ad (vK_Mm_castings ad t u.1).1 w1 ∧ ∃ u2 : zNN, u2.1 = u.1 ∧ IVo g ad vo t u2 w1) 10 300 := by
  obtain ⟨s, hv, hI⟩ := hI
  exact (Qe_Mm_castings hI).mono (by decide) (by decide) (fun o w1 h => ⟨h.1, h.2.2, u, rfl, ⟨s, hv, h.2.1⟩⟩)
theorem V_castings {ad : Nat → Nat} {t : zTT} {n : Nat → Nat} {b : Nat} {n1 : Nat → Nat} (h : REL t n b) (e1 : n1 = n) : (vK_Ip_castings ad t n).1 = (vK_Mm_castings ad t n1).1 ∧ ((vK_Ip_castings ad t n).1 = 0 → (vK_Ip_castings ad t n).2 = (vK_Mm_castings ad t n1).2) := by
  subst e1
  unfold vK_Ip_castings vK_Mm_castings
  rw [h.ca.1]
  exact ⟨rfl, fun _ => rfl⟩
end
section
theorem IVm.nil {g : zG} {ad : Nat → Nat} {t : zTT} {u : zNN} {w w1 : zW} (h1 : z_I w w1 0 []) (hI : IVm g ad t u w) : IVm g ad t u w1 := (z_I.same (z_I.nil w) h1).symm ▸ hI
theorem IVm.ra {g : zG} {ad : Nat → Nat} {t : zTT} {u : zNN} {w : zW} (hI : IVm g ad t u w) : ∃ fs : List Value, w (ad 0) = some (.inr (11, fs)) := by
  obtain ⟨s, hI⟩ := hI
  obtain ⟨e_a, wf_a, k_a⟩ := hI.1.2 0 (by decide)
  obtain rfl := kd_0.mp k_a
  exact ⟨_, wf_a⟩
theorem IVm.rm {g : zG} {ad : Nat → Nat} {t : zTT} {u : zNN} {w : zW} (hI : IVm g ad t u w) : ∃ fs : List Value, w (ad 52) = some (.inr (12, fs)) := by
  obtain ⟨s, hI⟩ := hI
  obtain ⟨e_m, wf_m, k_m⟩ := hI.1.2 52 (by decide)
  obtain ⟨v_m_th, rfl⟩ := kd_52.mp k_m
  exact ⟨_, wf_m⟩
abbrev M_Lw_draw : zM := (⟨"IronpourLaw", "draw", "(LIronpour;CIIII[J)I"⟩, method_3_code, 8, (Option.some FieldType.int), 9, 205, [((0 : Nat), (16 : Nat), (19 : Nat), (13 : Nat))])
theorem d_Lw_draw_0 : decode method_3_code 0 = .ok (.aload 6, 2) := zo_25 (d := 6) (zd_b zq_method_3_code_0 0 rfl rfl rfl) (zd_b zq_method_3_code_0 1 rfl rfl rfl)
theorem d_Lw_draw_2 : decode method_3_code 2 = .ok (.iconst 0, 1) := zo_3 (zd_b zq_method_3_code_0 2 rfl rfl rfl)
theorem d_Lw_draw_3 : decode method_3_code 3 = .ok (.aload_n 0, 1) := zo_42 (zd_b zq_method_3_code_0 3 rfl rfl rfl)
theorem d_Lw_draw_4 : decode method_3_code 4 = .ok (.iload_n 1, 1) := zo_27 (zd_b zq_method_3_code_0 4 rfl rfl rfl)
theorem d_Lw_draw_5 : decode method_3_code 5 = .ok (.iload_n 2, 1) := zo_28 (zd_b zq_method_3_code_0 5 rfl rfl rfl)
theorem d_Lw_draw_6 : decode method_3_code 6 = .ok (.iload_n 3, 1) := zo_29 (zd_b zq_method_3_code_0 6 rfl rfl rfl)
theorem d_Lw_draw_7 : decode method_3_code 7 = .ok (.iload 4, 2) := zo_21 (d := 4) (zd_b zq_method_3_code_0 7 rfl rfl rfl) (zd_b zq_method_3_code_0 8 rfl rfl rfl)
theorem d_Lw_draw_9 : decode method_3_code 9 = .ok (.iload 5, 2) := zo_21 (d := 5) (zd_b zq_method_3_code_0 9 rfl rfl rfl) (zd_b zq_method_3_code_0 10 rfl rfl rfl)
theorem d_Lw_draw_11 : decode method_3_code 11 = .ok (.invokevirtual 7, 3) := zo_182 (d := 0) (e := 7) (zd_b zq_method_3_code_0 11 rfl rfl rfl) (zd_b zq_method_3_code_0 12 rfl rfl rfl) (zd_b zq_method_3_code_0 13 rfl rfl rfl)
theorem ok_Lw_draw_Ip_draw : z_okH M_Lw_draw M_Ip_draw 5 := ⟨z_mj3 (i := 53) rfl (by decide +kernel), rfl, ⟨by decide +kernel, by decide +kernel, by decide +kernel⟩, ⟨by decide, by decide⟩, z_mj1 (i := 1) rfl (by decide +kernel)⟩
theorem ln_Lw_7 : Cond.methodLink "IronpourLaw" 7 M_Ip_draw.1 ∈ z_gw := z_mj3 (i := 50) rfl (by decide +kernel)
theorem w_im_Ip_draw : Cond.instanceMethod M_Ip_draw.1 ∈ z_gw := z_mj3 (i := 51) rfl (by decide +kernel)
theorem w_se_Ip_draw : Cond.selects M_Ip_draw.1.cls M_Ip_draw.1 M_Ip_draw.1 ∈ z_gw := z_mj3 (i := 52) rfl (by decide +kernel)
theorem ce_13 : Cond.castable "java/lang/IllegalArgumentException" "java/lang/IllegalArgumentException" ∈ z_nw := z_mk3 (i := 143) rfl (by decide +kernel)
theorem lx_Lw_13 : Cond.classLink "IronpourLaw" 13 "java/lang/IllegalArgumentException" ∈ z_gw := z_mj3 (i := 49) rfl (by decide +kernel)
theorem d_Lw_draw_19 : decode method_3_code 19 = .ok (.astore 7, 2) := zo_58 (d := 7) (zd_b zq_method_3_code_0 19 rfl rfl rfl) (zd_b zq_method_3_code_0 20 rfl rfl rfl)
theorem d_Lw_draw_21 : decode method_3_code 21 = .ok (.iconst 1, 1) := zo_4 (zd_b zq_method_3_code_0 21 rfl rfl rfl)
theorem d_Lw_draw_22 : decode method_3_code 22 = .ok (.ireturn, 1) := zo_172 (zd_b zq_method_3_code_0 22 rfl rfl rfl)
theorem d_Lw_draw_14 : decode method_3_code 14 = .ok (.i2l, 1) := zo_133 (zd_b zq_method_3_code_0 14 rfl rfl rfl)
theorem d_Lw_draw_15 : decode method_3_code 15 = .ok (.lastore, 1) := zo_80 (zd_b zq_method_3_code_0 15 rfl rfl rfl)
theorem d_Lw_draw_16 : decode method_3_code 16 = .ok (.goto 7, 3) := zo_167 (d := 0) (e := 7) (zd_b zq_method_3_code_0 16 rfl rfl rfl) (zd_b zq_method_3_code_0 17 rfl rfl rfl) (zd_b zq_method_3_code_0 18 rfl rfl rfl) (by decide +kernel)
theorem d_Lw_draw_23 : decode method_3_code 23 = .ok (.iconst 0, 1) := zo_3 (zd_b zq_method_3_code_0 23 rfl rfl rfl)
theorem d_Lw_draw_24 : decode method_3_code 24 = .ok (.ireturn, 1) := zo_172 (zd_b zq_method_3_code_0 24 rfl rfl rfl)
set_option maxHeartbeats 4000000 in
set_option maxRecDepth 100000 in
theorem W_draw {g : zG} {ad : Nat → Nat} {t : zTT} {u : zNN} {w : zW} (hI : IVm g ad t u w) (k x y p q : Int32) : zMB g M_Lw_draw [.ref (ad 0), .int k, .int x, .int y, .int p, .int q, .ref (ad 69)] w (fun o w1 => MKx g ad (tK_Ip_draw k x y p q t) u.1 o w1) 10 300 := by
  obtain ⟨s, hI⟩ := hI
  obtain ⟨e_a, wf_a, k_a⟩ := hI.1.2 0 (by decide)
  obtain rfl := kd_0.mp k_a
  obtain ⟨e_o1, wf_o1, k_o1⟩ := hI.1.2 69 (by decide)
  obtain rfl := kd_69.mp k_o1
  refine y_ofH (by decide) (by decide) (Nat.le_of_ble_eq_true rfl) (y_base (cs := [((ad 0), .inr (11, [.ref (ad 1), .ref (ad 5), .ref (ad 18), .ref (ad 31), .ref (ad 32), .ref (ad 36), .ref (ad 42), .ref (ad 45), .ref (ad 47), .ref (ad 49), .ref (ad 50), .ref (ad 51)])), ((ad 69), .inl (3, 1, .inr (.inl (((mg t s).1 69).2.1))))]) (hI.1.I [0, 69] _ rfl (by decide) (by decide) (List.forall_mem_cons.mpr ⟨wf_a, (List.forall_mem_cons.mpr ⟨wf_o1, (fun _ h => nomatch h)⟩)⟩)) ?_)
  refine y_lvE (lv2 := [(0, .ref (ad 0)), (1, .int k), (2, .int x), (3, .int y), (4, .int p), (5, .int q), (6, .ref (ad 69))]) rfl ?_
  refine y_aload d_Lw_draw_0 6 rfl ?_
  refine y_iconst d_Lw_draw_2 (v := 0) (by decide) ?_
  refine y_aload_n d_Lw_draw_3 rfl 0 rfl ?_
  refine y_iload_n d_Lw_draw_4 rfl 1 rfl ?_
  refine y_iload_n d_Lw_draw_5 rfl 2 rfl ?_
  refine y_iload_n d_Lw_draw_6 rfl 3 rfl ?_
  refine y_iload d_Lw_draw_7 4 rfl ?_
  refine y_iload d_Lw_draw_9 5 rfl ?_
  refine yw_callVH (As := [.int k, .int x, .int y, .int p, .int q]) (rest := [.int 0, .ref (ad 69)]) (q0 := 0) rfl rfl ln_Lw_7 w_im_Ip_draw w_se_Ip_draw ok_Lw_draw_Ip_draw d_Lw_draw_11 (fun wA hA => K_Ip_draw ⟨_, (hI.gen (t2 := (mg t s)) (is := [0, 69]) (L2 := []) hA rfl ⟨kd_0.mpr rfl, kd_69.mpr rfl, trivial⟩ (by decide) (by decide) (fun _ h => nomatch h) (fun _ h => nomatch h) (fun _ _ _ => rfl) (fun h => h) rfl)⟩ k x y p q) rfl rfl (Nat.le_of_ble_eq_true rfl) (by omega) (by omega) (fun wA11 hA11 E wB11 hx => ?_) (fun wA11 hA11 v wB11 hx => ?_)
  · obtain ⟨h1, u2, hu, hI2⟩ := hx
    obtain rfl := List.mem_singleton.mp (zriE h1)
    refine ⟨"java/lang/IllegalArgumentException", [], [], (0, 16, 19, 13), rfl, (fun z hz => nomatch hz), by decide, by decide, lx_Lw_13, ce_13, fun qx => ?_⟩
    refine y_base (cs := []) (z_I.nil wB11) ?_
    refine y_astore (lv' := [(7, .ref qx), (0, .ref (ad 0)), (1, .int k), (2, .int x), (3, .int y), (4, .int p), (5, .int q), (6, .ref (ad 69))]) d_Lw_draw_19 (by decide) rfl ?_
    refine y_iconst d_Lw_draw_21 (v := 1) (by decide) ?_
    refine y_iret d_Lw_draw_22 rfl rfl ?_
    exact fun w1 h1 => ⟨⟨_, rfl⟩, u2, hu, (z_I.same (z_I.nil _) h1).symm ▸ hI2⟩
  · obtain ⟨h1, u2, hu, hI2⟩ := hx
    obtain ⟨v9, rfl⟩ := zriV h1
    refine yw_st (st2 := [.int v9, .int 0, .ref (ad 69)]) rfl ?_
    obtain ⟨s9, hI⟩ := hI2
    obtain ⟨e_o1, wf_o1, k_o1⟩ := hI.1.2 69 (by decide)
    obtain rfl := kd_69.mp k_o1
    refine y_base (cs := [((ad 69), .inl (3, 1, .inr (.inl (((mg (tK_Ip_draw k x y p q t) s9).1 69).2.1))))]) (hI.1.I [69] _ rfl (by decide) (by decide) (List.forall_mem_cons.mpr ⟨wf_o1, (fun _ h => nomatch h)⟩)) ?_
    refine y_i2l d_Lw_draw_14 (v := v9.toInt64) rfl ?_
    refine y_last d_Lw_draw_15 (q0 := 0) rfl (fun q => q.elim (by decide) (by decide)) (f' := vp_updL (((mg (tK_Ip_draw k x y p q t) s9).1 69).2.1) 0 v9.toInt64) rfl (cs' := [((ad 69), .inl (3, 1, .inr (.inl (vp_updL (((mg (tK_Ip_draw k x y p q t) s9).1 69).2.1) 0 v9.toInt64))))]) rfl ?_
    refine y_goto (tgt := 23) d_Lw_draw_16 (by decide) ?_
    refine y_iconst d_Lw_draw_23 (v := 0) (by decide) ?_
    refine y_iret d_Lw_draw_24 rfl rfl ?_
    exact fun w1 h1 => ⟨⟨_, rfl⟩, u2, hu, IVm.tz ((hI.gen (t2 := (zup (mg (tK_Ip_draw k x y p q t) s9).1 [(69, (((mg (tK_Ip_draw k x y p q t) s9).1 69).1, vp_updL (((mg (tK_Ip_draw k x y p q t) s9).1 69).2.1) 0 v9.toInt64, ((mg (tK_Ip_draw k x y p q t) s9).1 69).2.2))], (mg (tK_Ip_draw k x y p q t) s9).2)) (is := [69]) (L2 := []) h1 rfl ⟨kd_69.mpr rfl, trivial⟩ (by decide) (by decide) (fun _ h => nomatch h) (fun _ h => nomatch h) (fun i hi hn => zup_out (fun q => hn ((by decide : ∀ j ∈ ([69] : List Nat), j ∈ ([69] : List Nat)) i q))) (fun h => h) rfl)) (tx_all rfl)⟩
abbrev M_Lw_cell : zM := (⟨"IronpourLaw", "cell", "(LIronpour;II[J)I"⟩, method_4_code, 5, (Option.some FieldType.int), 8, 143, [((0 : Nat), (10 : Nat), (13 : Nat), (19 : Nat))])
theorem d_Lw_cell_0 : decode method_4_code 0 = .ok (.aload_n 3, 1) := zo_45 (zd_b zq_method_4_code_0 0 rfl rfl rfl)
theorem d_Lw_cell_1 : decode method_4_code 1 = .ok (.iconst 0, 1) := zo_3 (zd_b zq_method_4_code_0 1 rfl rfl rfl)
theorem d_Lw_cell_2 : decode method_4_code 2 = .ok (.aload_n 0, 1) := zo_42 (zd_b zq_method_4_code_0 2 rfl rfl rfl)
theorem d_Lw_cell_3 : decode method_4_code 3 = .ok (.iload_n 1, 1) := zo_27 (zd_b zq_method_4_code_0 3 rfl rfl rfl)
theorem d_Lw_cell_4 : decode method_4_code 4 = .ok (.iload_n 2, 1) := zo_28 (zd_b zq_method_4_code_0 4 rfl rfl rfl)
theorem d_Lw_cell_5 : decode method_4_code 5 = .ok (.invokevirtual 15, 3) := zo_182 (d := 0) (e := 15) (zd_b zq_method_4_code_0 5 rfl rfl rfl) (zd_b zq_method_4_code_0 6 rfl rfl rfl) (zd_b zq_method_4_code_0 7 rfl rfl rfl)
theorem ok_Lw_cell_Ip_cell : z_okH M_Lw_cell M_Ip_cell 2 := ⟨z_mj4 (i := 19) rfl (by decide +kernel), rfl, ⟨by decide +kernel, by decide +kernel, by decide +kernel⟩, ⟨by decide, by decide⟩, z_mj1 (i := 1) rfl (by decide +kernel)⟩
theorem ln_Lw_15 : Cond.methodLink "IronpourLaw" 15 M_Ip_cell.1 ∈ z_gw := z_mj4 (i := 16) rfl (by decide +kernel)
theorem w_im_Ip_cell : Cond.instanceMethod M_Ip_cell.1 ∈ z_gw := z_mj4 (i := 17) rfl (by decide +kernel)
theorem w_se_Ip_cell : Cond.selects M_Ip_cell.1.cls M_Ip_cell.1 M_Ip_cell.1 ∈ z_gw := z_mj4 (i := 18) rfl (by decide +kernel)
theorem ce_19 : Cond.castable "java/lang/IndexOutOfBoundsException" "java/lang/IndexOutOfBoundsException" ∈ z_nw := z_mk4 (i := 25) rfl (by decide +kernel)
theorem lx_Lw_19 : Cond.classLink "IronpourLaw" 19 "java/lang/IndexOutOfBoundsException" ∈ z_gw := z_mj3 (i := 232) rfl (by decide +kernel)
theorem d_Lw_cell_13 : decode method_4_code 13 = .ok (.astore 4, 2) := zo_58 (d := 4) (zd_b zq_method_4_code_0 13 rfl rfl rfl) (zd_b zq_method_4_code_0 14 rfl rfl rfl)
theorem d_Lw_cell_15 : decode method_4_code 15 = .ok (.iconst 1, 1) := zo_4 (zd_b zq_method_4_code_0 15 rfl rfl rfl)
theorem d_Lw_cell_16 : decode method_4_code 16 = .ok (.ireturn, 1) := zo_172 (zd_b zq_method_4_code_0 16 rfl rfl rfl)
theorem d_Lw_cell_8 : decode method_4_code 8 = .ok (.i2l, 1) := zo_133 (zd_b zq_method_4_code_0 8 rfl rfl rfl)
theorem d_Lw_cell_9 : decode method_4_code 9 = .ok (.lastore, 1) := zo_80 (zd_b zq_method_4_code_0 9 rfl rfl rfl)
theorem d_Lw_cell_10 : decode method_4_code 10 = .ok (.goto 7, 3) := zo_167 (d := 0) (e := 7) (zd_b zq_method_4_code_0 10 rfl rfl rfl) (zd_b zq_method_4_code_0 11 rfl rfl rfl) (zd_b zq_method_4_code_0 12 rfl rfl rfl) (by decide +kernel)
theorem d_Lw_cell_17 : decode method_4_code 17 = .ok (.iconst 0, 1) := zo_3 (zd_b zq_method_4_code_0 17 rfl rfl rfl)
theorem d_Lw_cell_18 : decode method_4_code 18 = .ok (.ireturn, 1) := zo_172 (zd_b zq_method_4_code_0 18 rfl rfl rfl)
set_option maxHeartbeats 4000000 in
set_option maxRecDepth 100000 in
theorem W_cell {g : zG} {ad : Nat → Nat} {t : zTT} {u : zNN} {w : zW} (hI : IVm g ad t u w) (x y : Int32) : zMB g M_Lw_cell [.ref (ad 0), .int x, .int y, .ref (ad 69)] w (fun o w1 => MKx g ad t u.1 o w1) 10 300 := by
  obtain ⟨s, hI⟩ := hI
  obtain ⟨e_a, wf_a, k_a⟩ := hI.1.2 0 (by decide)
  obtain rfl := kd_0.mp k_a
  obtain ⟨e_o1, wf_o1, k_o1⟩ := hI.1.2 69 (by decide)
  obtain rfl := kd_69.mp k_o1
  refine y_ofH (by decide) (by decide) (Nat.le_of_ble_eq_true rfl) (y_base (cs := [((ad 0), .inr (11, [.ref (ad 1), .ref (ad 5), .ref (ad 18), .ref (ad 31), .ref (ad 32), .ref (ad 36), .ref (ad 42), .ref (ad 45), .ref (ad 47), .ref (ad 49), .ref (ad 50), .ref (ad 51)])), ((ad 69), .inl (3, 1, .inr (.inl (((mg t s).1 69).2.1))))]) (hI.1.I [0, 69] _ rfl (by decide) (by decide) (List.forall_mem_cons.mpr ⟨wf_a, (List.forall_mem_cons.mpr ⟨wf_o1, (fun _ h => nomatch h)⟩)⟩)) ?_)
  refine y_lvE (lv2 := [(0, .ref (ad 0)), (1, .int x), (2, .int y), (3, .ref (ad 69))]) rfl ?_
  refine y_aload_n d_Lw_cell_0 rfl 3 rfl ?_
  refine y_iconst d_Lw_cell_1 (v := 0) (by decide) ?_
  refine y_aload_n d_Lw_cell_2 rfl 0 rfl ?_
  refine y_iload_n d_Lw_cell_3 rfl 1 rfl ?_
  refine y_iload_n d_Lw_cell_4 rfl 2 rfl ?_
  refine yw_callVH (As := [.int x, .int y]) (rest := [.int 0, .ref (ad 69)]) (q0 := 0) rfl rfl ln_Lw_15 w_im_Ip_cell w_se_Ip_cell ok_Lw_cell_Ip_cell d_Lw_cell_5 (fun wA hA => K_Ip_cell ⟨_, (hI.gen (t2 := (mg t s)) (is := [0, 69]) (L2 := []) hA rfl ⟨kd_0.mpr rfl, kd_69.mpr rfl, trivial⟩ (by decide) (by decide) (fun _ h => nomatch h) (fun _ h => nomatch h) (fun _ _ _ => rfl) (fun h => h) rfl)⟩ x y) rfl rfl (Nat.le_of_ble_eq_true rfl) (by omega) (by omega) (fun wA5 hA5 E wB5 hx => ?_) (fun wA5 hA5 v wB5 hx => ?_)
  · obtain ⟨h1, u2, hu, hI2⟩ := hx
    obtain rfl := List.mem_singleton.mp (zriE h1)
    refine ⟨"java/lang/IndexOutOfBoundsException", [], [], (0, 10, 13, 19), rfl, (fun z hz => nomatch hz), by decide, by decide, lx_Lw_19, ce_19, fun qx => ?_⟩
    refine y_base (cs := []) (z_I.nil wB5) ?_
    refine y_astore (lv' := [(4, .ref qx), (0, .ref (ad 0)), (1, .int x), (2, .int y), (3, .ref (ad 69))]) d_Lw_cell_13 (by decide) rfl ?_
    refine y_iconst d_Lw_cell_15 (v := 1) (by decide) ?_
    refine y_iret d_Lw_cell_16 rfl rfl ?_
    exact fun w1 h1 => ⟨⟨_, rfl⟩, u2, hu, (z_I.same (z_I.nil _) h1).symm ▸ hI2⟩
  · obtain ⟨h1, u2, hu, hI2⟩ := hx
    obtain ⟨v9, rfl⟩ := zriV h1
    refine yw_st (st2 := [.int v9, .int 0, .ref (ad 69)]) rfl ?_
    obtain ⟨s9, hI⟩ := hI2
    obtain ⟨e_o1, wf_o1, k_o1⟩ := hI.1.2 69 (by decide)
    obtain rfl := kd_69.mp k_o1
    refine y_base (cs := [((ad 69), .inl (3, 1, .inr (.inl (((mg t s9).1 69).2.1))))]) (hI.1.I [69] _ rfl (by decide) (by decide) (List.forall_mem_cons.mpr ⟨wf_o1, (fun _ h => nomatch h)⟩)) ?_
    refine y_i2l d_Lw_cell_8 (v := v9.toInt64) rfl ?_
    refine y_last d_Lw_cell_9 (q0 := 0) rfl (fun q => q.elim (by decide) (by decide)) (f' := vp_updL (((mg t s9).1 69).2.1) 0 v9.toInt64) rfl (cs' := [((ad 69), .inl (3, 1, .inr (.inl (vp_updL (((mg t s9).1 69).2.1) 0 v9.toInt64))))]) rfl ?_
    refine y_goto (tgt := 17) d_Lw_cell_10 (by decide) ?_
    refine y_iconst d_Lw_cell_17 (v := 0) (by decide) ?_
    refine y_iret d_Lw_cell_18 rfl rfl ?_
    exact fun w1 h1 => ⟨⟨_, rfl⟩, u2, hu, IVm.tz ((hI.gen (t2 := (zup (mg t s9).1 [(69, (((mg t s9).1 69).1, vp_updL (((mg t s9).1 69).2.1) 0 v9.toInt64, ((mg t s9).1 69).2.2))], (mg t s9).2)) (is := [69]) (L2 := []) h1 rfl ⟨kd_69.mpr rfl, trivial⟩ (by decide) (by decide) (fun _ h => nomatch h) (fun _ h => nomatch h) (fun i hi hn => zup_out (fun q => hn ((by decide : ∀ j ∈ ([69] : List Nat), j ∈ ([69] : List Nat)) i q))) (fun h => h) rfl)) (tx_all rfl)⟩
abbrev M_Lw_part : zM := (⟨"IronpourLaw", "part", "(LIronpour;I[J)I"⟩, method_5_code, 4, (Option.some FieldType.int), 7, 122, [((0 : Nat), (9 : Nat), (12 : Nat), (13 : Nat))])
theorem d_Lw_part_0 : decode method_5_code 0 = .ok (.aload_n 2, 1) := zo_44 (zd_b zq_method_5_code_0 0 rfl rfl rfl)
theorem d_Lw_part_1 : decode method_5_code 1 = .ok (.iconst 0, 1) := zo_3 (zd_b zq_method_5_code_0 1 rfl rfl rfl)
theorem d_Lw_part_2 : decode method_5_code 2 = .ok (.aload_n 0, 1) := zo_42 (zd_b zq_method_5_code_0 2 rfl rfl rfl)
theorem d_Lw_part_3 : decode method_5_code 3 = .ok (.iload_n 1, 1) := zo_27 (zd_b zq_method_5_code_0 3 rfl rfl rfl)
theorem d_Lw_part_4 : decode method_5_code 4 = .ok (.invokevirtual 21, 3) := zo_182 (d := 0) (e := 21) (zd_b zq_method_5_code_0 4 rfl rfl rfl) (zd_b zq_method_5_code_0 5 rfl rfl rfl) (zd_b zq_method_5_code_0 6 rfl rfl rfl)
theorem ok_Lw_part_Ip_part : z_okH M_Lw_part M_Ip_part 1 := ⟨z_mj4 (i := 42) rfl (by decide +kernel), rfl, ⟨by decide +kernel, by decide +kernel, by decide +kernel⟩, ⟨by decide, by decide⟩, z_mj1 (i := 1) rfl (by decide +kernel)⟩
theorem ln_Lw_21 : Cond.methodLink "IronpourLaw" 21 M_Ip_part.1 ∈ z_gw := z_mj4 (i := 39) rfl (by decide +kernel)
theorem w_im_Ip_part : Cond.instanceMethod M_Ip_part.1 ∈ z_gw := z_mj4 (i := 40) rfl (by decide +kernel)
theorem w_se_Ip_part : Cond.selects M_Ip_part.1.cls M_Ip_part.1 M_Ip_part.1 ∈ z_gw := z_mj4 (i := 41) rfl (by decide +kernel)
theorem d_Lw_part_12 : decode method_5_code 12 = .ok (.astore_n 3, 1) := zo_78 (zd_b zq_method_5_code_0 12 rfl rfl rfl)
theorem d_Lw_part_13 : decode method_5_code 13 = .ok (.iconst 1, 1) := zo_4 (zd_b zq_method_5_code_0 13 rfl rfl rfl)
theorem d_Lw_part_14 : decode method_5_code 14 = .ok (.ireturn, 1) := zo_172 (zd_b zq_method_5_code_0 14 rfl rfl rfl)
theorem d_Lw_part_7 : decode method_5_code 7 = .ok (.i2l, 1) := zo_133 (zd_b zq_method_5_code_0 7 rfl rfl rfl)
theorem d_Lw_part_8 : decode method_5_code 8 = .ok (.lastore, 1) := zo_80 (zd_b zq_method_5_code_0 8 rfl rfl rfl)
theorem d_Lw_part_9 : decode method_5_code 9 = .ok (.goto 6, 3) := zo_167 (d := 0) (e := 6) (zd_b zq_method_5_code_0 9 rfl rfl rfl) (zd_b zq_method_5_code_0 10 rfl rfl rfl) (zd_b zq_method_5_code_0 11 rfl rfl rfl) (by decide +kernel)
theorem d_Lw_part_15 : decode method_5_code 15 = .ok (.iconst 0, 1) := zo_3 (zd_b zq_method_5_code_0 15 rfl rfl rfl)
theorem d_Lw_part_16 : decode method_5_code 16 = .ok (.ireturn, 1) := zo_172 (zd_b zq_method_5_code_0 16 rfl rfl rfl)
set_option maxHeartbeats 4000000 in
set_option maxRecDepth 100000 in
theorem W_part {g : zG} {ad : Nat → Nat} {t : zTT} {u : zNN} {w : zW} (hI : IVm g ad t u w) (r : Int32) : zMB g M_Lw_part [.ref (ad 0), .int r, .ref (ad 69)] w (fun o w1 => MKx g ad (tK_Ip_part r t) u.1 o w1) 10 300 := by
  obtain ⟨s, hI⟩ := hI
  obtain ⟨e_a, wf_a, k_a⟩ := hI.1.2 0 (by decide)
  obtain rfl := kd_0.mp k_a
  obtain ⟨e_o1, wf_o1, k_o1⟩ := hI.1.2 69 (by decide)
  obtain rfl := kd_69.mp k_o1
  refine y_ofH (by decide) (by decide) (Nat.le_of_ble_eq_true rfl) (y_base (cs := [((ad 0), .inr (11, [.ref (ad 1), .ref (ad 5), .ref (ad 18), .ref (ad 31), .ref (ad 32), .ref (ad 36), .ref (ad 42), .ref (ad 45), .ref (ad 47), .ref (ad 49), .ref (ad 50), .ref (ad 51)])), ((ad 69), .inl (3, 1, .inr (.inl (((mg t s).1 69).2.1))))]) (hI.1.I [0, 69] _ rfl (by decide) (by decide) (List.forall_mem_cons.mpr ⟨wf_a, (List.forall_mem_cons.mpr ⟨wf_o1, (fun _ h => nomatch h)⟩)⟩)) ?_)
  refine y_lvE (lv2 := [(0, .ref (ad 0)), (1, .int r), (2, .ref (ad 69))]) rfl ?_
  refine y_aload_n d_Lw_part_0 rfl 2 rfl ?_
  refine y_iconst d_Lw_part_1 (v := 0) (by decide) ?_
  refine y_aload_n d_Lw_part_2 rfl 0 rfl ?_
  refine y_iload_n d_Lw_part_3 rfl 1 rfl ?_
  refine yw_callVH (As := [.int r]) (rest := [.int 0, .ref (ad 69)]) (q0 := 0) rfl rfl ln_Lw_21 w_im_Ip_part w_se_Ip_part ok_Lw_part_Ip_part d_Lw_part_4 (fun wA hA => K_Ip_part ⟨_, (hI.gen (t2 := (mg t s)) (is := [0, 69]) (L2 := []) hA rfl ⟨kd_0.mpr rfl, kd_69.mpr rfl, trivial⟩ (by decide) (by decide) (fun _ h => nomatch h) (fun _ h => nomatch h) (fun _ _ _ => rfl) (fun h => h) rfl)⟩ r) rfl rfl (Nat.le_of_ble_eq_true rfl) (by omega) (by omega) (fun wA4 hA4 E wB4 hx => ?_) (fun wA4 hA4 v wB4 hx => ?_)
  · obtain ⟨h1, u2, hu, hI2⟩ := hx
    obtain rfl := List.mem_singleton.mp (zriE h1)
    refine ⟨"java/lang/IllegalArgumentException", [], [], (0, 9, 12, 13), rfl, (fun z hz => nomatch hz), by decide, by decide, lx_Lw_13, ce_13, fun qx => ?_⟩
    refine y_base (cs := []) (z_I.nil wB4) ?_
    refine y_astore_n (lv' := [(3, .ref qx), (0, .ref (ad 0)), (1, .int r), (2, .ref (ad 69))]) d_Lw_part_12 rfl (by decide) rfl ?_
    refine y_iconst d_Lw_part_13 (v := 1) (by decide) ?_
    refine y_iret d_Lw_part_14 rfl rfl ?_
    exact fun w1 h1 => ⟨⟨_, rfl⟩, u2, hu, (z_I.same (z_I.nil _) h1).symm ▸ hI2⟩
  · obtain ⟨h1, u2, hu, hI2⟩ := hx
    obtain ⟨v9, rfl⟩ := zriV h1
    refine yw_st (st2 := [.int v9, .int 0, .ref (ad 69)]) rfl ?_
    obtain ⟨s9, hI⟩ := hI2
    obtain ⟨e_o1, wf_o1, k_o1⟩ := hI.1.2 69 (by decide)
    obtain rfl := kd_69.mp k_o1
    refine y_base (cs := [((ad 69), .inl (3, 1, .inr (.inl (((mg (tK_Ip_part r t) s9).1 69).2.1))))]) (hI.1.I [69] _ rfl (by decide) (by decide) (List.forall_mem_cons.mpr ⟨wf_o1, (fun _ h => nomatch h)⟩)) ?_
    refine y_i2l d_Lw_part_7 (v := v9.toInt64) rfl ?_
    refine y_last d_Lw_part_8 (q0 := 0) rfl (fun q => q.elim (by decide) (by decide)) (f' := vp_updL (((mg (tK_Ip_part r t) s9).1 69).2.1) 0 v9.toInt64) rfl (cs' := [((ad 69), .inl (3, 1, .inr (.inl (vp_updL (((mg (tK_Ip_part r t) s9).1 69).2.1) 0 v9.toInt64))))]) rfl ?_
    refine y_goto (tgt := 15) d_Lw_part_9 (by decide) ?_
    refine y_iconst d_Lw_part_15 (v := 0) (by decide) ?_
    refine y_iret d_Lw_part_16 rfl rfl ?_
    exact fun w1 h1 => ⟨⟨_, rfl⟩, u2, hu, IVm.tz ((hI.gen (t2 := (zup (mg (tK_Ip_part r t) s9).1 [(69, (((mg (tK_Ip_part r t) s9).1 69).1, vp_updL (((mg (tK_Ip_part r t) s9).1 69).2.1) 0 v9.toInt64, ((mg (tK_Ip_part r t) s9).1 69).2.2))], (mg (tK_Ip_part r t) s9).2)) (is := [69]) (L2 := []) h1 rfl ⟨kd_69.mpr rfl, trivial⟩ (by decide) (by decide) (fun _ h => nomatch h) (fun _ h => nomatch h) (fun i hi hn => zup_out (fun q => hn ((by decide : ∀ j ∈ ([69] : List Nat), j ∈ ([69] : List Nat)) i q))) (fun h => h) rfl)) (tx_all rfl)⟩
abbrev M_Lw_filledIn : zM := (⟨"IronpourLaw", "filledIn", "(LIronpour;II[J)I"⟩, method_6_code, 5, (Option.some FieldType.int), 8, 144, [((0 : Nat), (10 : Nat), (13 : Nat), (19 : Nat))])
theorem d_Lw_filledIn_0 : decode method_6_code 0 = .ok (.aload_n 3, 1) := zo_45 (zd_b zq_method_6_code_0 0 rfl rfl rfl)
theorem d_Lw_filledIn_1 : decode method_6_code 1 = .ok (.iconst 0, 1) := zo_3 (zd_b zq_method_6_code_0 1 rfl rfl rfl)
theorem d_Lw_filledIn_2 : decode method_6_code 2 = .ok (.aload_n 0, 1) := zo_42 (zd_b zq_method_6_code_0 2 rfl rfl rfl)
theorem d_Lw_filledIn_3 : decode method_6_code 3 = .ok (.iload_n 1, 1) := zo_27 (zd_b zq_method_6_code_0 3 rfl rfl rfl)
theorem d_Lw_filledIn_4 : decode method_6_code 4 = .ok (.iload_n 2, 1) := zo_28 (zd_b zq_method_6_code_0 4 rfl rfl rfl)
theorem d_Lw_filledIn_5 : decode method_6_code 5 = .ok (.invokevirtual 25, 3) := zo_182 (d := 0) (e := 25) (zd_b zq_method_6_code_0 5 rfl rfl rfl) (zd_b zq_method_6_code_0 6 rfl rfl rfl) (zd_b zq_method_6_code_0 7 rfl rfl rfl)
theorem ok_Lw_filledIn_Ip_filledIn : z_okH M_Lw_filledIn M_Ip_filledIn 2 := ⟨z_mj4 (i := 50) rfl (by decide +kernel), rfl, ⟨by decide +kernel, by decide +kernel, by decide +kernel⟩, ⟨by decide, by decide⟩, z_mj1 (i := 1) rfl (by decide +kernel)⟩
theorem ln_Lw_25 : Cond.methodLink "IronpourLaw" 25 M_Ip_filledIn.1 ∈ z_gw := z_mj4 (i := 47) rfl (by decide +kernel)
theorem w_im_Ip_filledIn : Cond.instanceMethod M_Ip_filledIn.1 ∈ z_gw := z_mj4 (i := 48) rfl (by decide +kernel)
theorem w_se_Ip_filledIn : Cond.selects M_Ip_filledIn.1.cls M_Ip_filledIn.1 M_Ip_filledIn.1 ∈ z_gw := z_mj4 (i := 49) rfl (by decide +kernel)
theorem d_Lw_filledIn_13 : decode method_6_code 13 = .ok (.astore 4, 2) := zo_58 (d := 4) (zd_b zq_method_6_code_0 13 rfl rfl rfl) (zd_b zq_method_6_code_0 14 rfl rfl rfl)
theorem d_Lw_filledIn_15 : decode method_6_code 15 = .ok (.iconst 1, 1) := zo_4 (zd_b zq_method_6_code_0 15 rfl rfl rfl)
theorem d_Lw_filledIn_16 : decode method_6_code 16 = .ok (.ireturn, 1) := zo_172 (zd_b zq_method_6_code_0 16 rfl rfl rfl)
theorem d_Lw_filledIn_8 : decode method_6_code 8 = .ok (.i2l, 1) := zo_133 (zd_b zq_method_6_code_0 8 rfl rfl rfl)
theorem d_Lw_filledIn_9 : decode method_6_code 9 = .ok (.lastore, 1) := zo_80 (zd_b zq_method_6_code_0 9 rfl rfl rfl)
theorem d_Lw_filledIn_10 : decode method_6_code 10 = .ok (.goto 7, 3) := zo_167 (d := 0) (e := 7) (zd_b zq_method_6_code_0 10 rfl rfl rfl) (zd_b zq_method_6_code_0 11 rfl rfl rfl) (zd_b zq_method_6_code_0 12 rfl rfl rfl) (by decide +kernel)
theorem d_Lw_filledIn_17 : decode method_6_code 17 = .ok (.iconst 0, 1) := zo_3 (zd_b zq_method_6_code_0 17 rfl rfl rfl)
theorem d_Lw_filledIn_18 : decode method_6_code 18 = .ok (.ireturn, 1) := zo_172 (zd_b zq_method_6_code_0 18 rfl rfl rfl)
set_option maxHeartbeats 4000000 in
set_option maxRecDepth 100000 in
theorem W_filledIn {g : zG} {ad : Nat → Nat} {t : zTT} {u : zNN} {w : zW} (hI : IVm g ad t u w) (x y : Int32) : zMB g M_Lw_filledIn [.ref (ad 0), .int x, .int y, .ref (ad 69)] w (fun o w1 => MKx g ad t u.1 o w1) 10 300 := by
  obtain ⟨s, hI⟩ := hI
  obtain ⟨e_a, wf_a, k_a⟩ := hI.1.2 0 (by decide)
  obtain rfl := kd_0.mp k_a
  obtain ⟨e_o1, wf_o1, k_o1⟩ := hI.1.2 69 (by decide)
  obtain rfl := kd_69.mp k_o1
  refine y_ofH (by decide) (by decide) (Nat.le_of_ble_eq_true rfl) (y_base (cs := [((ad 0), .inr (11, [.ref (ad 1), .ref (ad 5), .ref (ad 18), .ref (ad 31), .ref (ad 32), .ref (ad 36), .ref (ad 42), .ref (ad 45), .ref (ad 47), .ref (ad 49), .ref (ad 50), .ref (ad 51)])), ((ad 69), .inl (3, 1, .inr (.inl (((mg t s).1 69).2.1))))]) (hI.1.I [0, 69] _ rfl (by decide) (by decide) (List.forall_mem_cons.mpr ⟨wf_a, (List.forall_mem_cons.mpr ⟨wf_o1, (fun _ h => nomatch h)⟩)⟩)) ?_)
  refine y_lvE (lv2 := [(0, .ref (ad 0)), (1, .int x), (2, .int y), (3, .ref (ad 69))]) rfl ?_
  refine y_aload_n d_Lw_filledIn_0 rfl 3 rfl ?_
  refine y_iconst d_Lw_filledIn_1 (v := 0) (by decide) ?_
  refine y_aload_n d_Lw_filledIn_2 rfl 0 rfl ?_
  refine y_iload_n d_Lw_filledIn_3 rfl 1 rfl ?_
  refine y_iload_n d_Lw_filledIn_4 rfl 2 rfl ?_
  refine yw_callVH (As := [.int x, .int y]) (rest := [.int 0, .ref (ad 69)]) (q0 := 0) rfl rfl ln_Lw_25 w_im_Ip_filledIn w_se_Ip_filledIn ok_Lw_filledIn_Ip_filledIn d_Lw_filledIn_5 (fun wA hA => K_Ip_filledIn ⟨_, (hI.gen (t2 := (mg t s)) (is := [0, 69]) (L2 := []) hA rfl ⟨kd_0.mpr rfl, kd_69.mpr rfl, trivial⟩ (by decide) (by decide) (fun _ h => nomatch h) (fun _ h => nomatch h) (fun _ _ _ => rfl) (fun h => h) rfl)⟩ x y) rfl rfl (Nat.le_of_ble_eq_true rfl) (by omega) (by omega) (fun wA5 hA5 E wB5 hx => ?_) (fun wA5 hA5 v wB5 hx => ?_)
  · obtain ⟨h1, u2, hu, hI2⟩ := hx
    obtain rfl := List.mem_singleton.mp (zriE h1)
    refine ⟨"java/lang/IndexOutOfBoundsException", [], [], (0, 10, 13, 19), rfl, (fun z hz => nomatch hz), by decide, by decide, lx_Lw_19, ce_19, fun qx => ?_⟩
    refine y_base (cs := []) (z_I.nil wB5) ?_
    refine y_astore (lv' := [(4, .ref qx), (0, .ref (ad 0)), (1, .int x), (2, .int y), (3, .ref (ad 69))]) d_Lw_filledIn_13 (by decide) rfl ?_
    refine y_iconst d_Lw_filledIn_15 (v := 1) (by decide) ?_
    refine y_iret d_Lw_filledIn_16 rfl rfl ?_
    exact fun w1 h1 => ⟨⟨_, rfl⟩, u2, hu, (z_I.same (z_I.nil _) h1).symm ▸ hI2⟩
  · obtain ⟨h1, u2, hu, hI2⟩ := hx
    obtain ⟨v9, rfl⟩ := zriV h1
    refine yw_st (st2 := [.int v9, .int 0, .ref (ad 69)]) rfl ?_
    obtain ⟨s9, hI⟩ := hI2
    obtain ⟨e_o1, wf_o1, k_o1⟩ := hI.1.2 69 (by decide)
    obtain rfl := kd_69.mp k_o1
    refine y_base (cs := [((ad 69), .inl (3, 1, .inr (.inl (((mg t s9).1 69).2.1))))]) (hI.1.I [69] _ rfl (by decide) (by decide) (List.forall_mem_cons.mpr ⟨wf_o1, (fun _ h => nomatch h)⟩)) ?_
    refine y_i2l d_Lw_filledIn_8 (v := v9.toInt64) rfl ?_
    refine y_last d_Lw_filledIn_9 (q0 := 0) rfl (fun q => q.elim (by decide) (by decide)) (f' := vp_updL (((mg t s9).1 69).2.1) 0 v9.toInt64) rfl (cs' := [((ad 69), .inl (3, 1, .inr (.inl (vp_updL (((mg t s9).1 69).2.1) 0 v9.toInt64))))]) rfl ?_
    refine y_goto (tgt := 17) d_Lw_filledIn_10 (by decide) ?_
    refine y_iconst d_Lw_filledIn_17 (v := 0) (by decide) ?_
    refine y_iret d_Lw_filledIn_18 rfl rfl ?_
    exact fun w1 h1 => ⟨⟨_, rfl⟩, u2, hu, IVm.tz ((hI.gen (t2 := (zup (mg t s9).1 [(69, (((mg t s9).1 69).1, vp_updL (((mg t s9).1 69).2.1) 0 v9.toInt64, ((mg t s9).1 69).2.2))], (mg t s9).2)) (is := [69]) (L2 := []) h1 rfl ⟨kd_69.mpr rfl, trivial⟩ (by decide) (by decide) (fun _ h => nomatch h) (fun _ h => nomatch h) (fun i hi hn => zup_out (fun q => hn ((by decide : ∀ j ∈ ([69] : List Nat), j ∈ ([69] : List Nat)) i q))) (fun h => h) rfl)) (tx_all rfl)⟩
abbrev M_Lw_speed : zM := (⟨"IronpourLaw", "speed", "(LIronpour;[J)I"⟩, method_7_code, 3, (Option.some FieldType.int), 7, 120, [((0 : Nat), (8 : Nat), (11 : Nat), (33 : Nat))])
theorem d_Lw_speed_0 : decode method_7_code 0 = .ok (.aload_n 1, 1) := zo_43 (zd_b zq_method_7_code_0 0 rfl rfl rfl)
theorem d_Lw_speed_1 : decode method_7_code 1 = .ok (.iconst 0, 1) := zo_3 (zd_b zq_method_7_code_0 1 rfl rfl rfl)
theorem d_Lw_speed_2 : decode method_7_code 2 = .ok (.aload_n 0, 1) := zo_42 (zd_b zq_method_7_code_0 2 rfl rfl rfl)
theorem d_Lw_speed_3 : decode method_7_code 3 = .ok (.invokevirtual 29, 3) := zo_182 (d := 0) (e := 29) (zd_b zq_method_7_code_0 3 rfl rfl rfl) (zd_b zq_method_7_code_0 4 rfl rfl rfl) (zd_b zq_method_7_code_0 5 rfl rfl rfl)
theorem ok_Lw_speed_Ip_speed : z_okH M_Lw_speed M_Ip_speed 0 := ⟨z_mj4 (i := 59) rfl (by decide +kernel), rfl, ⟨by decide +kernel, by decide +kernel, by decide +kernel⟩, ⟨by decide, by decide⟩, z_mj1 (i := 1) rfl (by decide +kernel)⟩
theorem ln_Lw_29 : Cond.methodLink "IronpourLaw" 29 M_Ip_speed.1 ∈ z_gw := z_mj4 (i := 56) rfl (by decide +kernel)
theorem w_im_Ip_speed : Cond.instanceMethod M_Ip_speed.1 ∈ z_gw := z_mj4 (i := 57) rfl (by decide +kernel)
theorem w_se_Ip_speed : Cond.selects M_Ip_speed.1.cls M_Ip_speed.1 M_Ip_speed.1 ∈ z_gw := z_mj4 (i := 58) rfl (by decide +kernel)
theorem ce_33 : Cond.castable "java/util/NoSuchElementException" "java/util/NoSuchElementException" ∈ z_nw := z_mk4 (i := 66) rfl (by decide +kernel)
theorem lx_Lw_33 : Cond.classLink "IronpourLaw" 33 "java/util/NoSuchElementException" ∈ z_gw := z_mj4 (i := 55) rfl (by decide +kernel)
theorem d_Lw_speed_11 : decode method_7_code 11 = .ok (.astore_n 2, 1) := zo_77 (zd_b zq_method_7_code_0 11 rfl rfl rfl)
theorem d_Lw_speed_12 : decode method_7_code 12 = .ok (.iconst 1, 1) := zo_4 (zd_b zq_method_7_code_0 12 rfl rfl rfl)
theorem d_Lw_speed_13 : decode method_7_code 13 = .ok (.ireturn, 1) := zo_172 (zd_b zq_method_7_code_0 13 rfl rfl rfl)
theorem d_Lw_speed_6 : decode method_7_code 6 = .ok (.i2l, 1) := zo_133 (zd_b zq_method_7_code_0 6 rfl rfl rfl)
theorem d_Lw_speed_7 : decode method_7_code 7 = .ok (.lastore, 1) := zo_80 (zd_b zq_method_7_code_0 7 rfl rfl rfl)
theorem d_Lw_speed_8 : decode method_7_code 8 = .ok (.goto 6, 3) := zo_167 (d := 0) (e := 6) (zd_b zq_method_7_code_0 8 rfl rfl rfl) (zd_b zq_method_7_code_0 9 rfl rfl rfl) (zd_b zq_method_7_code_0 10 rfl rfl rfl) (by decide +kernel)
theorem d_Lw_speed_14 : decode method_7_code 14 = .ok (.iconst 0, 1) := zo_3 (zd_b zq_method_7_code_0 14 rfl rfl rfl)
theorem d_Lw_speed_15 : decode method_7_code 15 = .ok (.ireturn, 1) := zo_172 (zd_b zq_method_7_code_0 15 rfl rfl rfl)
set_option maxHeartbeats 4000000 in
set_option maxRecDepth 100000 in
theorem W_speed {g : zG} {ad : Nat → Nat} {t : zTT} {u : zNN} {w : zW} (hI : IVm g ad t u w) : zMB g M_Lw_speed [.ref (ad 0), .ref (ad 69)] w (fun o w1 => MKx g ad t u.1 o w1) 10 300 := by
  obtain ⟨s, hI⟩ := hI
  obtain ⟨e_a, wf_a, k_a⟩ := hI.1.2 0 (by decide)
  obtain rfl := kd_0.mp k_a
  obtain ⟨e_o1, wf_o1, k_o1⟩ := hI.1.2 69 (by decide)
  obtain rfl := kd_69.mp k_o1
  refine y_ofH (by decide) (by decide) (Nat.le_of_ble_eq_true rfl) (y_base (cs := [((ad 0), .inr (11, [.ref (ad 1), .ref (ad 5), .ref (ad 18), .ref (ad 31), .ref (ad 32), .ref (ad 36), .ref (ad 42), .ref (ad 45), .ref (ad 47), .ref (ad 49), .ref (ad 50), .ref (ad 51)])), ((ad 69), .inl (3, 1, .inr (.inl (((mg t s).1 69).2.1))))]) (hI.1.I [0, 69] _ rfl (by decide) (by decide) (List.forall_mem_cons.mpr ⟨wf_a, (List.forall_mem_cons.mpr ⟨wf_o1, (fun _ h => nomatch h)⟩)⟩)) ?_)
  refine y_lvE (lv2 := [(0, .ref (ad 0)), (1, .ref (ad 69))]) rfl ?_
  refine y_aload_n d_Lw_speed_0 rfl 1 rfl ?_
  refine y_iconst d_Lw_speed_1 (v := 0) (by decide) ?_
  refine y_aload_n d_Lw_speed_2 rfl 0 rfl ?_
  refine yw_callVH (As := []) (rest := [.int 0, .ref (ad 69)]) (q0 := 0) rfl rfl ln_Lw_29 w_im_Ip_speed w_se_Ip_speed ok_Lw_speed_Ip_speed d_Lw_speed_3 (fun wA hA => K_Ip_speed ⟨_, (hI.gen (t2 := (mg t s)) (is := [0, 69]) (L2 := []) hA rfl ⟨kd_0.mpr rfl, kd_69.mpr rfl, trivial⟩ (by decide) (by decide) (fun _ h => nomatch h) (fun _ h => nomatch h) (fun _ _ _ => rfl) (fun h => h) rfl)⟩) rfl rfl (Nat.le_of_ble_eq_true rfl) (by omega) (by omega) (fun wA3 hA3 E wB3 hx => ?_) (fun wA3 hA3 v wB3 hx => ?_)
  · obtain ⟨h1, u2, hu, hI2⟩ := hx
    obtain rfl := List.mem_singleton.mp (zriE h1)
    refine ⟨"java/util/NoSuchElementException", [], [], (0, 8, 11, 33), rfl, (fun z hz => nomatch hz), by decide, by decide, lx_Lw_33, ce_33, fun qx => ?_⟩
    refine y_base (cs := []) (z_I.nil wB3) ?_
    refine y_astore_n (lv' := [(2, .ref qx), (0, .ref (ad 0)), (1, .ref (ad 69))]) d_Lw_speed_11 rfl (by decide) rfl ?_
    refine y_iconst d_Lw_speed_12 (v := 1) (by decide) ?_
    refine y_iret d_Lw_speed_13 rfl rfl ?_
    exact fun w1 h1 => ⟨⟨_, rfl⟩, u2, hu, (z_I.same (z_I.nil _) h1).symm ▸ hI2⟩
  · obtain ⟨h1, u2, hu, hI2⟩ := hx
    obtain ⟨v9, rfl⟩ := zriV h1
    refine yw_st (st2 := [.int v9, .int 0, .ref (ad 69)]) rfl ?_
    obtain ⟨s9, hI⟩ := hI2
    obtain ⟨e_o1, wf_o1, k_o1⟩ := hI.1.2 69 (by decide)
    obtain rfl := kd_69.mp k_o1
    refine y_base (cs := [((ad 69), .inl (3, 1, .inr (.inl (((mg t s9).1 69).2.1))))]) (hI.1.I [69] _ rfl (by decide) (by decide) (List.forall_mem_cons.mpr ⟨wf_o1, (fun _ h => nomatch h)⟩)) ?_
    refine y_i2l d_Lw_speed_6 (v := v9.toInt64) rfl ?_
    refine y_last d_Lw_speed_7 (q0 := 0) rfl (fun q => q.elim (by decide) (by decide)) (f' := vp_updL (((mg t s9).1 69).2.1) 0 v9.toInt64) rfl (cs' := [((ad 69), .inl (3, 1, .inr (.inl (vp_updL (((mg t s9).1 69).2.1) 0 v9.toInt64))))]) rfl ?_
    refine y_goto (tgt := 14) d_Lw_speed_8 (by decide) ?_
    refine y_iconst d_Lw_speed_14 (v := 0) (by decide) ?_
    refine y_iret d_Lw_speed_15 rfl rfl ?_
    exact fun w1 h1 => ⟨⟨_, rfl⟩, u2, hu, IVm.tz ((hI.gen (t2 := (zup (mg t s9).1 [(69, (((mg t s9).1 69).1, vp_updL (((mg t s9).1 69).2.1) 0 v9.toInt64, ((mg t s9).1 69).2.2))], (mg t s9).2)) (is := [69]) (L2 := []) h1 rfl ⟨kd_69.mpr rfl, trivial⟩ (by decide) (by decide) (fun _ h => nomatch h) (fun _ h => nomatch h) (fun i hi hn => zup_out (fun q => hn ((by decide : ∀ j ∈ ([69] : List Nat), j ∈ ([69] : List Nat)) i q))) (fun h => h) rfl)) (tx_all rfl)⟩
abbrev M_Lw_frozenIn : zM := (⟨"IronpourLaw", "frozenIn", "(LIronpour;III[J)I"⟩, method_8_code, 6, (Option.some FieldType.int), 8, 160, [((0 : Nat), (12 : Nat), (15 : Nat), (19 : Nat)), ((0 : Nat), (12 : Nat), (19 : Nat), (13 : Nat))])
theorem d_Lw_frozenIn_0 : decode method_8_code 0 = .ok (.aload 4, 2) := zo_25 (d := 4) (zd_b zq_method_8_code_0 0 rfl rfl rfl) (zd_b zq_method_8_code_0 1 rfl rfl rfl)
theorem d_Lw_frozenIn_2 : decode method_8_code 2 = .ok (.iconst 0, 1) := zo_3 (zd_b zq_method_8_code_0 2 rfl rfl rfl)
theorem d_Lw_frozenIn_3 : decode method_8_code 3 = .ok (.aload_n 0, 1) := zo_42 (zd_b zq_method_8_code_0 3 rfl rfl rfl)
theorem d_Lw_frozenIn_4 : decode method_8_code 4 = .ok (.iload_n 1, 1) := zo_27 (zd_b zq_method_8_code_0 4 rfl rfl rfl)
theorem d_Lw_frozenIn_5 : decode method_8_code 5 = .ok (.iload_n 2, 1) := zo_28 (zd_b zq_method_8_code_0 5 rfl rfl rfl)
theorem d_Lw_frozenIn_6 : decode method_8_code 6 = .ok (.iload_n 3, 1) := zo_29 (zd_b zq_method_8_code_0 6 rfl rfl rfl)
theorem d_Lw_frozenIn_7 : decode method_8_code 7 = .ok (.invokevirtual 35, 3) := zo_182 (d := 0) (e := 35) (zd_b zq_method_8_code_0 7 rfl rfl rfl) (zd_b zq_method_8_code_0 8 rfl rfl rfl) (zd_b zq_method_8_code_0 9 rfl rfl rfl)
theorem ok_Lw_frozenIn_Ip_frozenIn : z_okH M_Lw_frozenIn M_Ip_frozenIn 3 := ⟨z_mj4 (i := 91) rfl (by decide +kernel), rfl, ⟨by decide +kernel, by decide +kernel, by decide +kernel⟩, ⟨by decide, by decide⟩, z_mj1 (i := 1) rfl (by decide +kernel)⟩
theorem ln_Lw_35 : Cond.methodLink "IronpourLaw" 35 M_Ip_frozenIn.1 ∈ z_gw := z_mj4 (i := 88) rfl (by decide +kernel)
theorem w_im_Ip_frozenIn : Cond.instanceMethod M_Ip_frozenIn.1 ∈ z_gw := z_mj4 (i := 89) rfl (by decide +kernel)
theorem w_se_Ip_frozenIn : Cond.selects M_Ip_frozenIn.1.cls M_Ip_frozenIn.1 M_Ip_frozenIn.1 ∈ z_gw := z_mj4 (i := 90) rfl (by decide +kernel)
theorem d_Lw_frozenIn_15 : decode method_8_code 15 = .ok (.astore 5, 2) := zo_58 (d := 5) (zd_b zq_method_8_code_0 15 rfl rfl rfl) (zd_b zq_method_8_code_0 16 rfl rfl rfl)
theorem d_Lw_frozenIn_17 : decode method_8_code 17 = .ok (.iconst 1, 1) := zo_4 (zd_b zq_method_8_code_0 17 rfl rfl rfl)
theorem d_Lw_frozenIn_18 : decode method_8_code 18 = .ok (.ireturn, 1) := zo_172 (zd_b zq_method_8_code_0 18 rfl rfl rfl)
theorem d_Lw_frozenIn_19 : decode method_8_code 19 = .ok (.astore 5, 2) := zo_58 (d := 5) (zd_b zq_method_8_code_0 19 rfl rfl rfl) (zd_b zq_method_8_code_0 20 rfl rfl rfl)
theorem d_Lw_frozenIn_21 : decode method_8_code 21 = .ok (.iconst 2, 1) := zo_5 (zd_b zq_method_8_code_0 21 rfl rfl rfl)
theorem d_Lw_frozenIn_22 : decode method_8_code 22 = .ok (.ireturn, 1) := zo_172 (zd_b zq_method_8_code_0 22 rfl rfl rfl)
theorem d_Lw_frozenIn_10 : decode method_8_code 10 = .ok (.i2l, 1) := zo_133 (zd_b zq_method_8_code_0 10 rfl rfl rfl)
theorem d_Lw_frozenIn_11 : decode method_8_code 11 = .ok (.lastore, 1) := zo_80 (zd_b zq_method_8_code_0 11 rfl rfl rfl)
theorem d_Lw_frozenIn_12 : decode method_8_code 12 = .ok (.goto 11, 3) := zo_167 (d := 0) (e := 11) (zd_b zq_method_8_code_0 12 rfl rfl rfl) (zd_b zq_method_8_code_0 13 rfl rfl rfl) (zd_b zq_method_8_code_0 14 rfl rfl rfl) (by decide +kernel)
theorem d_Lw_frozenIn_23 : decode method_8_code 23 = .ok (.iconst 0, 1) := zo_3 (zd_b zq_method_8_code_0 23 rfl rfl rfl)
theorem d_Lw_frozenIn_24 : decode method_8_code 24 = .ok (.ireturn, 1) := zo_172 (zd_b zq_method_8_code_0 24 rfl rfl rfl)
set_option maxHeartbeats 4000000 in
set_option maxRecDepth 100000 in
theorem W_frozenIn {g : zG} {ad : Nat → Nat} {t : zTT} {u : zNN} {w : zW} (hI : IVm g ad t u w) (x y h : Int32) : zMB g M_Lw_frozenIn [.ref (ad 0), .int x, .int y, .int h, .ref (ad 69)] w (fun o w1 => MKx g ad t u.1 o w1) 10 300 := by
  obtain ⟨s, hI⟩ := hI
  obtain ⟨e_a, wf_a, k_a⟩ := hI.1.2 0 (by decide)
  obtain rfl := kd_0.mp k_a
  obtain ⟨e_o1, wf_o1, k_o1⟩ := hI.1.2 69 (by decide)
  obtain rfl := kd_69.mp k_o1
  refine y_ofH (by decide) (by decide) (Nat.le_of_ble_eq_true rfl) (y_base (cs := [((ad 0), .inr (11, [.ref (ad 1), .ref (ad 5), .ref (ad 18), .ref (ad 31), .ref (ad 32), .ref (ad 36), .ref (ad 42), .ref (ad 45), .ref (ad 47), .ref (ad 49), .ref (ad 50), .ref (ad 51)])), ((ad 69), .inl (3, 1, .inr (.inl (((mg t s).1 69).2.1))))]) (hI.1.I [0, 69] _ rfl (by decide) (by decide) (List.forall_mem_cons.mpr ⟨wf_a, (List.forall_mem_cons.mpr ⟨wf_o1, (fun _ h => nomatch h)⟩)⟩)) ?_)
  refine y_lvE (lv2 := [(0, .ref (ad 0)), (1, .int x), (2, .int y), (3, .int h), (4, .ref (ad 69))]) rfl ?_
  refine y_aload d_Lw_frozenIn_0 4 rfl ?_
  refine y_iconst d_Lw_frozenIn_2 (v := 0) (by decide) ?_
  refine y_aload_n d_Lw_frozenIn_3 rfl 0 rfl ?_
  refine y_iload_n d_Lw_frozenIn_4 rfl 1 rfl ?_
  refine y_iload_n d_Lw_frozenIn_5 rfl 2 rfl ?_
  refine y_iload_n d_Lw_frozenIn_6 rfl 3 rfl ?_
  refine yw_callVH (As := [.int x, .int y, .int h]) (rest := [.int 0, .ref (ad 69)]) (q0 := 0) rfl rfl ln_Lw_35 w_im_Ip_frozenIn w_se_Ip_frozenIn ok_Lw_frozenIn_Ip_frozenIn d_Lw_frozenIn_7 (fun wA hA => K_Ip_frozenIn ⟨_, (hI.gen (t2 := (mg t s)) (is := [0, 69]) (L2 := []) hA rfl ⟨kd_0.mpr rfl, kd_69.mpr rfl, trivial⟩ (by decide) (by decide) (fun _ h => nomatch h) (fun _ h => nomatch h) (fun _ _ _ => rfl) (fun h => h) rfl)⟩ x y h) rfl rfl (Nat.le_of_ble_eq_true rfl) (by omega) (by omega) (fun wA7 hA7 E wB7 hx => ?_) (fun wA7 hA7 v wB7 hx => ?_)
  · obtain ⟨h1, u2, hu, hI2⟩ := hx
    rcases List.mem_cons.mp (zriE h1) with rfl | g2
    · refine ⟨"java/lang/IndexOutOfBoundsException", [], [(0, 12, 19, 13)], (0, 12, 15, 19), rfl, (fun z hz => nomatch hz), by decide, by decide, lx_Lw_19, ce_19, fun qx => ?_⟩
      refine y_base (cs := []) (z_I.nil wB7) ?_
      refine y_astore (lv' := [(5, .ref qx), (0, .ref (ad 0)), (1, .int x), (2, .int y), (3, .int h), (4, .ref (ad 69))]) d_Lw_frozenIn_15 (by decide) rfl ?_
      refine y_iconst d_Lw_frozenIn_17 (v := 1) (by decide) ?_
      refine y_iret d_Lw_frozenIn_18 rfl rfl ?_
      exact fun w1 h1 => ⟨⟨_, rfl⟩, u2, hu, (z_I.same (z_I.nil _) h1).symm ▸ hI2⟩
    · obtain rfl := List.mem_singleton.mp g2
      refine ⟨"java/lang/IllegalArgumentException", [(0, 12, 15, 19)], [], (0, 12, 19, 13), rfl, (fun z hz => by simp only [List.mem_cons, List.not_mem_nil, or_false] at hz; rcases hz with rfl; exact Or.inr ⟨by decide, _, lx_Lw_19, by decide⟩), by decide, by decide, lx_Lw_13, ce_13, fun qx => ?_⟩
      refine y_base (cs := []) (z_I.nil wB7) ?_
      refine y_astore (lv' := [(5, .ref qx), (0, .ref (ad 0)), (1, .int x), (2, .int y), (3, .int h), (4, .ref (ad 69))]) d_Lw_frozenIn_19 (by decide) rfl ?_
      refine y_iconst d_Lw_frozenIn_21 (v := 2) (by decide) ?_
      refine y_iret d_Lw_frozenIn_22 rfl rfl ?_
      exact fun w1 h1 => ⟨⟨_, rfl⟩, u2, hu, (z_I.same (z_I.nil _) h1).symm ▸ hI2⟩
  · obtain ⟨h1, u2, hu, hI2⟩ := hx
    obtain ⟨v9, rfl⟩ := zriV h1
    refine yw_st (st2 := [.int v9, .int 0, .ref (ad 69)]) rfl ?_
    obtain ⟨s9, hI⟩ := hI2
    obtain ⟨e_o1, wf_o1, k_o1⟩ := hI.1.2 69 (by decide)
    obtain rfl := kd_69.mp k_o1
    refine y_base (cs := [((ad 69), .inl (3, 1, .inr (.inl (((mg t s9).1 69).2.1))))]) (hI.1.I [69] _ rfl (by decide) (by decide) (List.forall_mem_cons.mpr ⟨wf_o1, (fun _ h => nomatch h)⟩)) ?_
    refine y_i2l d_Lw_frozenIn_10 (v := v9.toInt64) rfl ?_
    refine y_last d_Lw_frozenIn_11 (q0 := 0) rfl (fun q => q.elim (by decide) (by decide)) (f' := vp_updL (((mg t s9).1 69).2.1) 0 v9.toInt64) rfl (cs' := [((ad 69), .inl (3, 1, .inr (.inl (vp_updL (((mg t s9).1 69).2.1) 0 v9.toInt64))))]) rfl ?_
    refine y_goto (tgt := 23) d_Lw_frozenIn_12 (by decide) ?_
    refine y_iconst d_Lw_frozenIn_23 (v := 0) (by decide) ?_
    refine y_iret d_Lw_frozenIn_24 rfl rfl ?_
    exact fun w1 h1 => ⟨⟨_, rfl⟩, u2, hu, IVm.tz ((hI.gen (t2 := (zup (mg t s9).1 [(69, (((mg t s9).1 69).1, vp_updL (((mg t s9).1 69).2.1) 0 v9.toInt64, ((mg t s9).1 69).2.2))], (mg t s9).2)) (is := [69]) (L2 := []) h1 rfl ⟨kd_69.mpr rfl, trivial⟩ (by decide) (by decide) (fun _ h => nomatch h) (fun _ h => nomatch h) (fun i hi hn => zup_out (fun q => hn ((by decide : ∀ j ∈ ([69] : List Nat), j ∈ ([69] : List Nat)) i q))) (fun h => h) rfl)) (tx_all rfl)⟩
abbrev M_Lw_isFed : zM := (⟨"IronpourLaw", "isFed", "(LIronpour;III[J)I"⟩, method_10_code, 6, (Option.some FieldType.int), 8, 160, [((0 : Nat), (19 : Nat), (22 : Nat), (19 : Nat)), ((0 : Nat), (19 : Nat), (26 : Nat), (13 : Nat))])
theorem d_Lw_isFed_0 : decode method_10_code 0 = .ok (.aload 4, 2) := zo_25 (d := 4) (zd_b zq_method_10_code_0 0 rfl rfl rfl) (zd_b zq_method_10_code_0 1 rfl rfl rfl)
theorem d_Lw_isFed_2 : decode method_10_code 2 = .ok (.iconst 0, 1) := zo_3 (zd_b zq_method_10_code_0 2 rfl rfl rfl)
theorem d_Lw_isFed_3 : decode method_10_code 3 = .ok (.aload_n 0, 1) := zo_42 (zd_b zq_method_10_code_0 3 rfl rfl rfl)
theorem d_Lw_isFed_4 : decode method_10_code 4 = .ok (.iload_n 1, 1) := zo_27 (zd_b zq_method_10_code_0 4 rfl rfl rfl)
theorem d_Lw_isFed_5 : decode method_10_code 5 = .ok (.iload_n 2, 1) := zo_28 (zd_b zq_method_10_code_0 5 rfl rfl rfl)
theorem d_Lw_isFed_6 : decode method_10_code 6 = .ok (.iload_n 3, 1) := zo_29 (zd_b zq_method_10_code_0 6 rfl rfl rfl)
theorem d_Lw_isFed_7 : decode method_10_code 7 = .ok (.invokevirtual 43, 3) := zo_182 (d := 0) (e := 43) (zd_b zq_method_10_code_0 7 rfl rfl rfl) (zd_b zq_method_10_code_0 8 rfl rfl rfl) (zd_b zq_method_10_code_0 9 rfl rfl rfl)
theorem ok_Lw_isFed_Ip_isFed : z_okH M_Lw_isFed M_Ip_isFed 3 := ⟨z_mj4 (i := 117) rfl (by decide +kernel), rfl, ⟨by decide +kernel, by decide +kernel, by decide +kernel⟩, ⟨by decide, by decide⟩, z_mj1 (i := 1) rfl (by decide +kernel)⟩
theorem ln_Lw_43 : Cond.methodLink "IronpourLaw" 43 M_Ip_isFed.1 ∈ z_gw := z_mj4 (i := 114) rfl (by decide +kernel)
theorem w_im_Ip_isFed : Cond.instanceMethod M_Ip_isFed.1 ∈ z_gw := z_mj4 (i := 115) rfl (by decide +kernel)
theorem w_se_Ip_isFed : Cond.selects M_Ip_isFed.1.cls M_Ip_isFed.1 M_Ip_isFed.1 ∈ z_gw := z_mj4 (i := 116) rfl (by decide +kernel)
theorem d_Lw_isFed_22 : decode method_10_code 22 = .ok (.astore 5, 2) := zo_58 (d := 5) (zd_b zq_method_10_code_0 22 rfl rfl rfl) (zd_b zq_method_10_code_0 23 rfl rfl rfl)
theorem d_Lw_isFed_24 : decode method_10_code 24 = .ok (.iconst 1, 1) := zo_4 (zd_b zq_method_10_code_0 24 rfl rfl rfl)
theorem d_Lw_isFed_25 : decode method_10_code 25 = .ok (.ireturn, 1) := zo_172 (zd_b zq_method_10_code_0 25 rfl rfl rfl)
theorem d_Lw_isFed_26 : decode method_10_code 26 = .ok (.astore 5, 2) := zo_58 (d := 5) (zd_b zq_method_10_code_0 26 rfl rfl rfl) (zd_b zq_method_10_code_0 27 rfl rfl rfl)
theorem d_Lw_isFed_28 : decode method_10_code 28 = .ok (.iconst 2, 1) := zo_5 (zd_b zq_method_10_code_0 28 rfl rfl rfl)
theorem d_Lw_isFed_29 : decode method_10_code 29 = .ok (.ireturn, 1) := zo_172 (zd_b zq_method_10_code_0 29 rfl rfl rfl)
theorem d_Lw_isFed_10 : decode method_10_code 10 = .ok (.ifCond .eq 7, 3) := zo_153 (d := 0) (e := 7) (zd_b zq_method_10_code_0 10 rfl rfl rfl) (zd_b zq_method_10_code_0 11 rfl rfl rfl) (zd_b zq_method_10_code_0 12 rfl rfl rfl) (by decide +kernel)
theorem d_Lw_isFed_17 : decode method_10_code 17 = .ok (.lconst 0, 1) := zo_9 (zd_b zq_method_10_code_0 17 rfl rfl rfl)
theorem d_Lw_isFed_18 : decode method_10_code 18 = .ok (.lastore, 1) := zo_80 (zd_b zq_method_10_code_0 18 rfl rfl rfl)
theorem d_Lw_isFed_19 : decode method_10_code 19 = .ok (.goto 11, 3) := zo_167 (d := 0) (e := 11) (zd_b zq_method_10_code_0 19 rfl rfl rfl) (zd_b zq_method_10_code_0 20 rfl rfl rfl) (zd_b zq_method_10_code_0 21 rfl rfl rfl) (by decide +kernel)
theorem d_Lw_isFed_30 : decode method_10_code 30 = .ok (.iconst 0, 1) := zo_3 (zd_b zq_method_10_code_0 30 rfl rfl rfl)
theorem d_Lw_isFed_31 : decode method_10_code 31 = .ok (.ireturn, 1) := zo_172 (zd_b zq_method_10_code_0 31 rfl rfl rfl)
theorem d_Lw_isFed_13 : decode method_10_code 13 = .ok (.lconst 1, 1) := zo_10 (zd_b zq_method_10_code_0 13 rfl rfl rfl)
theorem d_Lw_isFed_14 : decode method_10_code 14 = .ok (.goto 4, 3) := zo_167 (d := 0) (e := 4) (zd_b zq_method_10_code_0 14 rfl rfl rfl) (zd_b zq_method_10_code_0 15 rfl rfl rfl) (zd_b zq_method_10_code_0 16 rfl rfl rfl) (by decide +kernel)
set_option maxHeartbeats 4000000 in
set_option maxRecDepth 100000 in
theorem W_isFed {g : zG} {ad : Nat → Nat} {t : zTT} {u : zNN} {w : zW} (hI : IVm g ad t u w) (x y h : Int32) : zMB g M_Lw_isFed [.ref (ad 0), .int x, .int y, .int h, .ref (ad 69)] w (fun o w1 => MKx g ad t u.1 o w1) 10 300 := by
  obtain ⟨s, hI⟩ := hI
  obtain ⟨e_a, wf_a, k_a⟩ := hI.1.2 0 (by decide)
  obtain rfl := kd_0.mp k_a
  obtain ⟨e_o1, wf_o1, k_o1⟩ := hI.1.2 69 (by decide)
  obtain rfl := kd_69.mp k_o1
  refine y_ofH (by decide) (by decide) (Nat.le_of_ble_eq_true rfl) (y_base (cs := [((ad 0), .inr (11, [.ref (ad 1), .ref (ad 5), .ref (ad 18), .ref (ad 31), .ref (ad 32), .ref (ad 36), .ref (ad 42), .ref (ad 45), .ref (ad 47), .ref (ad 49), .ref (ad 50), .ref (ad 51)])), ((ad 69), .inl (3, 1, .inr (.inl (((mg t s).1 69).2.1))))]) (hI.1.I [0, 69] _ rfl (by decide) (by decide) (List.forall_mem_cons.mpr ⟨wf_a, (List.forall_mem_cons.mpr ⟨wf_o1, (fun _ h => nomatch h)⟩)⟩)) ?_)
  refine y_lvE (lv2 := [(0, .ref (ad 0)), (1, .int x), (2, .int y), (3, .int h), (4, .ref (ad 69))]) rfl ?_
  refine y_aload d_Lw_isFed_0 4 rfl ?_
  refine y_iconst d_Lw_isFed_2 (v := 0) (by decide) ?_
  refine y_aload_n d_Lw_isFed_3 rfl 0 rfl ?_
  refine y_iload_n d_Lw_isFed_4 rfl 1 rfl ?_
  refine y_iload_n d_Lw_isFed_5 rfl 2 rfl ?_
  refine y_iload_n d_Lw_isFed_6 rfl 3 rfl ?_
  refine yw_callVH (As := [.int x, .int y, .int h]) (rest := [.int 0, .ref (ad 69)]) (q0 := 0) rfl rfl ln_Lw_43 w_im_Ip_isFed w_se_Ip_isFed ok_Lw_isFed_Ip_isFed d_Lw_isFed_7 (fun wA hA => K_Ip_isFed ⟨_, (hI.gen (t2 := (mg t s)) (is := [0, 69]) (L2 := []) hA rfl ⟨kd_0.mpr rfl, kd_69.mpr rfl, trivial⟩ (by decide) (by decide) (fun _ h => nomatch h) (fun _ h => nomatch h) (fun _ _ _ => rfl) (fun h => h) rfl)⟩ x y h) rfl rfl (Nat.le_of_ble_eq_true rfl) (by omega) (by omega) (fun wA7 hA7 E wB7 hx => ?_) (fun wA7 hA7 v wB7 hx => ?_)
  · obtain ⟨h1, u2, hu, hI2⟩ := hx
    rcases List.mem_cons.mp (zriE h1) with rfl | g2
    · refine ⟨"java/lang/IndexOutOfBoundsException", [], [(0, 19, 26, 13)], (0, 19, 22, 19), rfl, (fun z hz => nomatch hz), by decide, by decide, lx_Lw_19, ce_19, fun qx => ?_⟩
      refine y_base (cs := []) (z_I.nil wB7) ?_
      refine y_astore (lv' := [(5, .ref qx), (0, .ref (ad 0)), (1, .int x), (2, .int y), (3, .int h), (4, .ref (ad 69))]) d_Lw_isFed_22 (by decide) rfl ?_
      refine y_iconst d_Lw_isFed_24 (v := 1) (by decide) ?_
      refine y_iret d_Lw_isFed_25 rfl rfl ?_
      exact fun w1 h1 => ⟨⟨_, rfl⟩, u2, hu, (z_I.same (z_I.nil _) h1).symm ▸ hI2⟩
    · obtain rfl := List.mem_singleton.mp g2
      refine ⟨"java/lang/IllegalArgumentException", [(0, 19, 22, 19)], [], (0, 19, 26, 13), rfl, (fun z hz => by simp only [List.mem_cons, List.not_mem_nil, or_false] at hz; rcases hz with rfl; exact Or.inr ⟨by decide, _, lx_Lw_19, by decide⟩), by decide, by decide, lx_Lw_13, ce_13, fun qx => ?_⟩
      refine y_base (cs := []) (z_I.nil wB7) ?_
      refine y_astore (lv' := [(5, .ref qx), (0, .ref (ad 0)), (1, .int x), (2, .int y), (3, .int h), (4, .ref (ad 69))]) d_Lw_isFed_26 (by decide) rfl ?_
      refine y_iconst d_Lw_isFed_28 (v := 2) (by decide) ?_
      refine y_iret d_Lw_isFed_29 rfl rfl ?_
      exact fun w1 h1 => ⟨⟨_, rfl⟩, u2, hu, (z_I.same (z_I.nil _) h1).symm ▸ hI2⟩
  · obtain ⟨h1, u2, hu, hI2⟩ := hx
    obtain ⟨v9, rfl⟩ := zriV h1
    refine yw_st (st2 := [.int v9, .int 0, .ref (ad 69)]) rfl ?_
    obtain ⟨s9, hI⟩ := hI2
    obtain ⟨e_o1, wf_o1, k_o1⟩ := hI.1.2 69 (by decide)
    obtain rfl := kd_69.mp k_o1
    refine y_base (cs := [((ad 69), .inl (3, 1, .inr (.inl (((mg t s9).1 69).2.1))))]) (hI.1.I [69] _ rfl (by decide) (by decide) (List.forall_mem_cons.mpr ⟨wf_o1, (fun _ h => nomatch h)⟩)) ?_
    refine y_if_eq (tgt := 17) d_Lw_isFed_10 (by decide) (fun c_10 => ?_) (fun c_10 => ?_)
    · refine y_lconst d_Lw_isFed_17 (v := 0) (by decide) ?_
      refine y_last d_Lw_isFed_18 (q0 := 0) rfl (fun q => q.elim (by decide) (by decide)) (f' := vp_updL (((mg t s9).1 69).2.1) 0 0) rfl (cs' := [((ad 69), .inl (3, 1, .inr (.inl (vp_updL (((mg t s9).1 69).2.1) 0 0))))]) rfl ?_
      refine y_goto (tgt := 30) d_Lw_isFed_19 (by decide) ?_
      refine y_iconst d_Lw_isFed_30 (v := 0) (by decide) ?_
      refine y_iret d_Lw_isFed_31 rfl rfl ?_
      exact fun w1 h1 => ⟨⟨_, rfl⟩, u2, hu, IVm.tz ((hI.gen (t2 := (zup (mg t s9).1 [(69, (((mg t s9).1 69).1, vp_updL (((mg t s9).1 69).2.1) 0 0, ((mg t s9).1 69).2.2))], (mg t s9).2)) (is := [69]) (L2 := []) h1 rfl ⟨kd_69.mpr rfl, trivial⟩ (by decide) (by decide) (fun _ h => nomatch h) (fun _ h => nomatch h) (fun i hi hn => zup_out (fun q => hn ((by decide : ∀ j ∈ ([69] : List Nat), j ∈ ([69] : List Nat)) i q))) (fun h => h) rfl)) (tx_all rfl)⟩
    · refine y_lconst d_Lw_isFed_13 (v := 1) (by decide) ?_
      refine y_goto (tgt := 18) d_Lw_isFed_14 (by decide) ?_
      refine y_last d_Lw_isFed_18 (q0 := 0) rfl (fun q => q.elim (by decide) (by decide)) (f' := vp_updL (((mg t s9).1 69).2.1) 0 1) rfl (cs' := [((ad 69), .inl (3, 1, .inr (.inl (vp_updL (((mg t s9).1 69).2.1) 0 1))))]) rfl ?_
      refine y_goto (tgt := 30) d_Lw_isFed_19 (by decide) ?_
      refine y_iconst d_Lw_isFed_30 (v := 0) (by decide) ?_
      refine y_iret d_Lw_isFed_31 rfl rfl ?_
      exact fun w1 h1 => ⟨⟨_, rfl⟩, u2, hu, IVm.tz ((hI.gen (t2 := (zup (mg t s9).1 [(69, (((mg t s9).1 69).1, vp_updL (((mg t s9).1 69).2.1) 0 1, ((mg t s9).1 69).2.2))], (mg t s9).2)) (is := [69]) (L2 := []) h1 rfl ⟨kd_69.mpr rfl, trivial⟩ (by decide) (by decide) (fun _ h => nomatch h) (fun _ h => nomatch h) (fun i hi hn => zup_out (fun q => hn ((by decide : ∀ j ∈ ([69] : List Nat), j ∈ ([69] : List Nat)) i q))) (fun h => h) rfl)) (tx_all rfl)⟩
abbrev M_Lw_heatAt : zM := (⟨"IronpourLaw", "heatAt", "(LIronpour;IIII[J)I"⟩, method_9_code, 7, (Option.some FieldType.int), 8, 162, [((0 : Nat), (14 : Nat), (17 : Nat), (19 : Nat)), ((0 : Nat), (14 : Nat), (21 : Nat), (13 : Nat))])
theorem d_Lw_heatAt_0 : decode method_9_code 0 = .ok (.aload 5, 2) := zo_25 (d := 5) (zd_b zq_method_9_code_0 0 rfl rfl rfl) (zd_b zq_method_9_code_0 1 rfl rfl rfl)
theorem d_Lw_heatAt_2 : decode method_9_code 2 = .ok (.iconst 0, 1) := zo_3 (zd_b zq_method_9_code_0 2 rfl rfl rfl)
theorem d_Lw_heatAt_3 : decode method_9_code 3 = .ok (.aload_n 0, 1) := zo_42 (zd_b zq_method_9_code_0 3 rfl rfl rfl)
theorem d_Lw_heatAt_4 : decode method_9_code 4 = .ok (.iload_n 1, 1) := zo_27 (zd_b zq_method_9_code_0 4 rfl rfl rfl)
theorem d_Lw_heatAt_5 : decode method_9_code 5 = .ok (.iload_n 2, 1) := zo_28 (zd_b zq_method_9_code_0 5 rfl rfl rfl)
theorem d_Lw_heatAt_6 : decode method_9_code 6 = .ok (.iload_n 3, 1) := zo_29 (zd_b zq_method_9_code_0 6 rfl rfl rfl)
theorem d_Lw_heatAt_7 : decode method_9_code 7 = .ok (.iload 4, 2) := zo_21 (d := 4) (zd_b zq_method_9_code_0 7 rfl rfl rfl) (zd_b zq_method_9_code_0 8 rfl rfl rfl)
theorem d_Lw_heatAt_9 : decode method_9_code 9 = .ok (.invokevirtual 39, 3) := zo_182 (d := 0) (e := 39) (zd_b zq_method_9_code_0 9 rfl rfl rfl) (zd_b zq_method_9_code_0 10 rfl rfl rfl) (zd_b zq_method_9_code_0 11 rfl rfl rfl)
theorem ok_Lw_heatAt_Ip_heatAt : z_okH M_Lw_heatAt M_Ip_heatAt 4 := ⟨z_mj4 (i := 105) rfl (by decide +kernel), rfl, ⟨by decide +kernel, by decide +kernel, by decide +kernel⟩, ⟨by decide, by decide⟩, z_mj1 (i := 1) rfl (by decide +kernel)⟩
theorem ln_Lw_39 : Cond.methodLink "IronpourLaw" 39 M_Ip_heatAt.1 ∈ z_gw := z_mj4 (i := 102) rfl (by decide +kernel)
theorem w_im_Ip_heatAt : Cond.instanceMethod M_Ip_heatAt.1 ∈ z_gw := z_mj4 (i := 103) rfl (by decide +kernel)
theorem w_se_Ip_heatAt : Cond.selects M_Ip_heatAt.1.cls M_Ip_heatAt.1 M_Ip_heatAt.1 ∈ z_gw := z_mj4 (i := 104) rfl (by decide +kernel)
theorem d_Lw_heatAt_17 : decode method_9_code 17 = .ok (.astore 6, 2) := zo_58 (d := 6) (zd_b zq_method_9_code_0 17 rfl rfl rfl) (zd_b zq_method_9_code_0 18 rfl rfl rfl)
theorem d_Lw_heatAt_19 : decode method_9_code 19 = .ok (.iconst 1, 1) := zo_4 (zd_b zq_method_9_code_0 19 rfl rfl rfl)
theorem d_Lw_heatAt_20 : decode method_9_code 20 = .ok (.ireturn, 1) := zo_172 (zd_b zq_method_9_code_0 20 rfl rfl rfl)
theorem d_Lw_heatAt_21 : decode method_9_code 21 = .ok (.astore 6, 2) := zo_58 (d := 6) (zd_b zq_method_9_code_0 21 rfl rfl rfl) (zd_b zq_method_9_code_0 22 rfl rfl rfl)
theorem d_Lw_heatAt_23 : decode method_9_code 23 = .ok (.iconst 2, 1) := zo_5 (zd_b zq_method_9_code_0 23 rfl rfl rfl)
theorem d_Lw_heatAt_24 : decode method_9_code 24 = .ok (.ireturn, 1) := zo_172 (zd_b zq_method_9_code_0 24 rfl rfl rfl)
theorem d_Lw_heatAt_12 : decode method_9_code 12 = .ok (.i2l, 1) := zo_133 (zd_b zq_method_9_code_0 12 rfl rfl rfl)
theorem d_Lw_heatAt_13 : decode method_9_code 13 = .ok (.lastore, 1) := zo_80 (zd_b zq_method_9_code_0 13 rfl rfl rfl)
theorem d_Lw_heatAt_14 : decode method_9_code 14 = .ok (.goto 11, 3) := zo_167 (d := 0) (e := 11) (zd_b zq_method_9_code_0 14 rfl rfl rfl) (zd_b zq_method_9_code_0 15 rfl rfl rfl) (zd_b zq_method_9_code_0 16 rfl rfl rfl) (by decide +kernel)
theorem d_Lw_heatAt_25 : decode method_9_code 25 = .ok (.iconst 0, 1) := zo_3 (zd_b zq_method_9_code_0 25 rfl rfl rfl)
theorem d_Lw_heatAt_26 : decode method_9_code 26 = .ok (.ireturn, 1) := zo_172 (zd_b zq_method_9_code_0 26 rfl rfl rfl)
set_option maxHeartbeats 4000000 in
set_option maxRecDepth 100000 in
theorem W_heatAt {g : zG} {ad : Nat → Nat} {t : zTT} {u : zNN} {w : zW} (hI : IVm g ad t u w) (x y h st : Int32) : zMB g M_Lw_heatAt [.ref (ad 0), .int x, .int y, .int h, .int st, .ref (ad 69)] w (fun o w1 => MKx g ad t u.1 o w1) 10 300 := by
  obtain ⟨s, hI⟩ := hI
  obtain ⟨e_a, wf_a, k_a⟩ := hI.1.2 0 (by decide)
  obtain rfl := kd_0.mp k_a
  obtain ⟨e_o1, wf_o1, k_o1⟩ := hI.1.2 69 (by decide)
  obtain rfl := kd_69.mp k_o1
  refine y_ofH (by decide) (by decide) (Nat.le_of_ble_eq_true rfl) (y_base (cs := [((ad 0), .inr (11, [.ref (ad 1), .ref (ad 5), .ref (ad 18), .ref (ad 31), .ref (ad 32), .ref (ad 36), .ref (ad 42), .ref (ad 45), .ref (ad 47), .ref (ad 49), .ref (ad 50), .ref (ad 51)])), ((ad 69), .inl (3, 1, .inr (.inl (((mg t s).1 69).2.1))))]) (hI.1.I [0, 69] _ rfl (by decide) (by decide) (List.forall_mem_cons.mpr ⟨wf_a, (List.forall_mem_cons.mpr ⟨wf_o1, (fun _ h => nomatch h)⟩)⟩)) ?_)
  refine y_lvE (lv2 := [(0, .ref (ad 0)), (1, .int x), (2, .int y), (3, .int h), (4, .int st), (5, .ref (ad 69))]) rfl ?_
  refine y_aload d_Lw_heatAt_0 5 rfl ?_
  refine y_iconst d_Lw_heatAt_2 (v := 0) (by decide) ?_
  refine y_aload_n d_Lw_heatAt_3 rfl 0 rfl ?_
  refine y_iload_n d_Lw_heatAt_4 rfl 1 rfl ?_
  refine y_iload_n d_Lw_heatAt_5 rfl 2 rfl ?_
  refine y_iload_n d_Lw_heatAt_6 rfl 3 rfl ?_
  refine y_iload d_Lw_heatAt_7 4 rfl ?_
  refine yw_callVH (As := [.int x, .int y, .int h, .int st]) (rest := [.int 0, .ref (ad 69)]) (q0 := 0) rfl rfl ln_Lw_39 w_im_Ip_heatAt w_se_Ip_heatAt ok_Lw_heatAt_Ip_heatAt d_Lw_heatAt_9 (fun wA hA => K_Ip_heatAt ⟨_, (hI.gen (t2 := (mg t s)) (is := [0, 69]) (L2 := []) hA rfl ⟨kd_0.mpr rfl, kd_69.mpr rfl, trivial⟩ (by decide) (by decide) (fun _ h => nomatch h) (fun _ h => nomatch h) (fun _ _ _ => rfl) (fun h => h) rfl)⟩ x y h st) rfl rfl (Nat.le_of_ble_eq_true rfl) (by omega) (by omega) (fun wA9 hA9 E wB9 hx => ?_) (fun wA9 hA9 v wB9 hx => ?_)
  · obtain ⟨h1, u2, hu, hI2⟩ := hx
    rcases List.mem_cons.mp (zriE h1) with rfl | g2
    · refine ⟨"java/lang/IndexOutOfBoundsException", [], [(0, 14, 21, 13)], (0, 14, 17, 19), rfl, (fun z hz => nomatch hz), by decide, by decide, lx_Lw_19, ce_19, fun qx => ?_⟩
      refine y_base (cs := []) (z_I.nil wB9) ?_
      refine y_astore (lv' := [(6, .ref qx), (0, .ref (ad 0)), (1, .int x), (2, .int y), (3, .int h), (4, .int st), (5, .ref (ad 69))]) d_Lw_heatAt_17 (by decide) rfl ?_
      refine y_iconst d_Lw_heatAt_19 (v := 1) (by decide) ?_
      refine y_iret d_Lw_heatAt_20 rfl rfl ?_
      exact fun w1 h1 => ⟨⟨_, rfl⟩, u2, hu, (z_I.same (z_I.nil _) h1).symm ▸ hI2⟩
    · obtain rfl := List.mem_singleton.mp g2
      refine ⟨"java/lang/IllegalArgumentException", [(0, 14, 17, 19)], [], (0, 14, 21, 13), rfl, (fun z hz => by simp only [List.mem_cons, List.not_mem_nil, or_false] at hz; rcases hz with rfl; exact Or.inr ⟨by decide, _, lx_Lw_19, by decide⟩), by decide, by decide, lx_Lw_13, ce_13, fun qx => ?_⟩
      refine y_base (cs := []) (z_I.nil wB9) ?_
      refine y_astore (lv' := [(6, .ref qx), (0, .ref (ad 0)), (1, .int x), (2, .int y), (3, .int h), (4, .int st), (5, .ref (ad 69))]) d_Lw_heatAt_21 (by decide) rfl ?_
      refine y_iconst d_Lw_heatAt_23 (v := 2) (by decide) ?_
      refine y_iret d_Lw_heatAt_24 rfl rfl ?_
      exact fun w1 h1 => ⟨⟨_, rfl⟩, u2, hu, (z_I.same (z_I.nil _) h1).symm ▸ hI2⟩
  · obtain ⟨h1, u2, hu, hI2⟩ := hx
    obtain ⟨v9, rfl⟩ := zriV h1
    refine yw_st (st2 := [.int v9, .int 0, .ref (ad 69)]) rfl ?_
    obtain ⟨s9, hI⟩ := hI2
    obtain ⟨e_o1, wf_o1, k_o1⟩ := hI.1.2 69 (by decide)
    obtain rfl := kd_69.mp k_o1
    refine y_base (cs := [((ad 69), .inl (3, 1, .inr (.inl (((mg t s9).1 69).2.1))))]) (hI.1.I [69] _ rfl (by decide) (by decide) (List.forall_mem_cons.mpr ⟨wf_o1, (fun _ h => nomatch h)⟩)) ?_
    refine y_i2l d_Lw_heatAt_12 (v := v9.toInt64) rfl ?_
    refine y_last d_Lw_heatAt_13 (q0 := 0) rfl (fun q => q.elim (by decide) (by decide)) (f' := vp_updL (((mg t s9).1 69).2.1) 0 v9.toInt64) rfl (cs' := [((ad 69), .inl (3, 1, .inr (.inl (vp_updL (((mg t s9).1 69).2.1) 0 v9.toInt64))))]) rfl ?_
    refine y_goto (tgt := 25) d_Lw_heatAt_14 (by decide) ?_
    refine y_iconst d_Lw_heatAt_25 (v := 0) (by decide) ?_
    refine y_iret d_Lw_heatAt_26 rfl rfl ?_
    exact fun w1 h1 => ⟨⟨_, rfl⟩, u2, hu, IVm.tz ((hI.gen (t2 := (zup (mg t s9).1 [(69, (((mg t s9).1 69).1, vp_updL (((mg t s9).1 69).2.1) 0 v9.toInt64, ((mg t s9).1 69).2.2))], (mg t s9).2)) (is := [69]) (L2 := []) h1 rfl ⟨kd_69.mpr rfl, trivial⟩ (by decide) (by decide) (fun _ h => nomatch h) (fun _ h => nomatch h) (fun i hi hn => zup_out (fun q => hn ((by decide : ∀ j ∈ ([69] : List Nat), j ∈ ([69] : List Nat)) i q))) (fun h => h) rfl)) (tx_all rfl)⟩
abbrev M_Lw_shrunk : zM := (⟨"IronpourLaw", "shrunk", "(LIronpour;I[J)I"⟩, method_11_code, 4, (Option.some FieldType.int), 8, 157, [((0 : Nat), (9 : Nat), (12 : Nat), (13 : Nat))])
theorem d_Lw_shrunk_0 : decode method_11_code 0 = .ok (.aload_n 2, 1) := zo_44 (zd_b zq_method_11_code_0 0 rfl rfl rfl)
theorem d_Lw_shrunk_1 : decode method_11_code 1 = .ok (.iconst 0, 1) := zo_3 (zd_b zq_method_11_code_0 1 rfl rfl rfl)
theorem d_Lw_shrunk_2 : decode method_11_code 2 = .ok (.aload_n 0, 1) := zo_42 (zd_b zq_method_11_code_0 2 rfl rfl rfl)
theorem d_Lw_shrunk_3 : decode method_11_code 3 = .ok (.iload_n 1, 1) := zo_27 (zd_b zq_method_11_code_0 3 rfl rfl rfl)
theorem d_Lw_shrunk_4 : decode method_11_code 4 = .ok (.invokevirtual 47, 3) := zo_182 (d := 0) (e := 47) (zd_b zq_method_11_code_0 4 rfl rfl rfl) (zd_b zq_method_11_code_0 5 rfl rfl rfl) (zd_b zq_method_11_code_0 6 rfl rfl rfl)
theorem ok_Lw_shrunk_Ip_shrunk : z_okH M_Lw_shrunk M_Ip_shrunk 1 := ⟨z_mj4 (i := 124) rfl (by decide +kernel), rfl, ⟨by decide +kernel, by decide +kernel, by decide +kernel⟩, ⟨by decide, by decide⟩, z_mj1 (i := 1) rfl (by decide +kernel)⟩
theorem ln_Lw_47 : Cond.methodLink "IronpourLaw" 47 M_Ip_shrunk.1 ∈ z_gw := z_mj4 (i := 121) rfl (by decide +kernel)
theorem w_im_Ip_shrunk : Cond.instanceMethod M_Ip_shrunk.1 ∈ z_gw := z_mj4 (i := 122) rfl (by decide +kernel)
theorem w_se_Ip_shrunk : Cond.selects M_Ip_shrunk.1.cls M_Ip_shrunk.1 M_Ip_shrunk.1 ∈ z_gw := z_mj4 (i := 123) rfl (by decide +kernel)
theorem d_Lw_shrunk_12 : decode method_11_code 12 = .ok (.astore_n 3, 1) := zo_78 (zd_b zq_method_11_code_0 12 rfl rfl rfl)
theorem d_Lw_shrunk_13 : decode method_11_code 13 = .ok (.iconst 1, 1) := zo_4 (zd_b zq_method_11_code_0 13 rfl rfl rfl)
theorem d_Lw_shrunk_14 : decode method_11_code 14 = .ok (.ireturn, 1) := zo_172 (zd_b zq_method_11_code_0 14 rfl rfl rfl)
theorem d_Lw_shrunk_7 : decode method_11_code 7 = .ok (.i2l, 1) := zo_133 (zd_b zq_method_11_code_0 7 rfl rfl rfl)
theorem d_Lw_shrunk_8 : decode method_11_code 8 = .ok (.lastore, 1) := zo_80 (zd_b zq_method_11_code_0 8 rfl rfl rfl)
theorem d_Lw_shrunk_9 : decode method_11_code 9 = .ok (.goto 6, 3) := zo_167 (d := 0) (e := 6) (zd_b zq_method_11_code_0 9 rfl rfl rfl) (zd_b zq_method_11_code_0 10 rfl rfl rfl) (zd_b zq_method_11_code_0 11 rfl rfl rfl) (by decide +kernel)
theorem d_Lw_shrunk_15 : decode method_11_code 15 = .ok (.iconst 0, 1) := zo_3 (zd_b zq_method_11_code_0 15 rfl rfl rfl)
theorem d_Lw_shrunk_16 : decode method_11_code 16 = .ok (.ireturn, 1) := zo_172 (zd_b zq_method_11_code_0 16 rfl rfl rfl)
set_option maxHeartbeats 4000000 in
set_option maxRecDepth 100000 in
theorem W_shrunk {g : zG} {ad : Nat → Nat} {t : zTT} {u : zNN} {w : zW} (hI : IVm g ad t u w) (h : Int32) : zMB g M_Lw_shrunk [.ref (ad 0), .int h, .ref (ad 69)] w (fun o w1 => MKx g ad t u.1 o w1) 10 300 := by
  obtain ⟨s, hI⟩ := hI
  obtain ⟨e_a, wf_a, k_a⟩ := hI.1.2 0 (by decide)
  obtain rfl := kd_0.mp k_a
  obtain ⟨e_o1, wf_o1, k_o1⟩ := hI.1.2 69 (by decide)
  obtain rfl := kd_69.mp k_o1
  refine y_ofH (by decide) (by decide) (Nat.le_of_ble_eq_true rfl) (y_base (cs := [((ad 0), .inr (11, [.ref (ad 1), .ref (ad 5), .ref (ad 18), .ref (ad 31), .ref (ad 32), .ref (ad 36), .ref (ad 42), .ref (ad 45), .ref (ad 47), .ref (ad 49), .ref (ad 50), .ref (ad 51)])), ((ad 69), .inl (3, 1, .inr (.inl (((mg t s).1 69).2.1))))]) (hI.1.I [0, 69] _ rfl (by decide) (by decide) (List.forall_mem_cons.mpr ⟨wf_a, (List.forall_mem_cons.mpr ⟨wf_o1, (fun _ h => nomatch h)⟩)⟩)) ?_)
  refine y_lvE (lv2 := [(0, .ref (ad 0)), (1, .int h), (2, .ref (ad 69))]) rfl ?_
  refine y_aload_n d_Lw_shrunk_0 rfl 2 rfl ?_
  refine y_iconst d_Lw_shrunk_1 (v := 0) (by decide) ?_
  refine y_aload_n d_Lw_shrunk_2 rfl 0 rfl ?_
  refine y_iload_n d_Lw_shrunk_3 rfl 1 rfl ?_
  refine yw_callVH (As := [.int h]) (rest := [.int 0, .ref (ad 69)]) (q0 := 0) rfl rfl ln_Lw_47 w_im_Ip_shrunk w_se_Ip_shrunk ok_Lw_shrunk_Ip_shrunk d_Lw_shrunk_4 (fun wA hA => K_Ip_shrunk ⟨_, (hI.gen (t2 := (mg t s)) (is := [0, 69]) (L2 := []) hA rfl ⟨kd_0.mpr rfl, kd_69.mpr rfl, trivial⟩ (by decide) (by decide) (fun _ h => nomatch h) (fun _ h => nomatch h) (fun _ _ _ => rfl) (fun h => h) rfl)⟩ h) rfl rfl (Nat.le_of_ble_eq_true rfl) (by omega) (by omega) (fun wA4 hA4 E wB4 hx => ?_) (fun wA4 hA4 v wB4 hx => ?_)
  · obtain ⟨h1, u2, hu, hI2⟩ := hx
    obtain rfl := List.mem_singleton.mp (zriE h1)
    refine ⟨"java/lang/IllegalArgumentException", [], [], (0, 9, 12, 13), rfl, (fun z hz => nomatch hz), by decide, by decide, lx_Lw_13, ce_13, fun qx => ?_⟩
    refine y_base (cs := []) (z_I.nil wB4) ?_
    refine y_astore_n (lv' := [(3, .ref qx), (0, .ref (ad 0)), (1, .int h), (2, .ref (ad 69))]) d_Lw_shrunk_12 rfl (by decide) rfl ?_
    refine y_iconst d_Lw_shrunk_13 (v := 1) (by decide) ?_
    refine y_iret d_Lw_shrunk_14 rfl rfl ?_
    exact fun w1 h1 => ⟨⟨_, rfl⟩, u2, hu, (z_I.same (z_I.nil _) h1).symm ▸ hI2⟩
  · obtain ⟨h1, u2, hu, hI2⟩ := hx
    obtain ⟨v9, rfl⟩ := zriV h1
    refine yw_st (st2 := [.int v9, .int 0, .ref (ad 69)]) rfl ?_
    obtain ⟨s9, hI⟩ := hI2
    obtain ⟨e_o1, wf_o1, k_o1⟩ := hI.1.2 69 (by decide)
    obtain rfl := kd_69.mp k_o1
    refine y_base (cs := [((ad 69), .inl (3, 1, .inr (.inl (((mg t s9).1 69).2.1))))]) (hI.1.I [69] _ rfl (by decide) (by decide) (List.forall_mem_cons.mpr ⟨wf_o1, (fun _ h => nomatch h)⟩)) ?_
    refine y_i2l d_Lw_shrunk_7 (v := v9.toInt64) rfl ?_
    refine y_last d_Lw_shrunk_8 (q0 := 0) rfl (fun q => q.elim (by decide) (by decide)) (f' := vp_updL (((mg t s9).1 69).2.1) 0 v9.toInt64) rfl (cs' := [((ad 69), .inl (3, 1, .inr (.inl (vp_updL (((mg t s9).1 69).2.1) 0 v9.toInt64))))]) rfl ?_
    refine y_goto (tgt := 15) d_Lw_shrunk_9 (by decide) ?_
    refine y_iconst d_Lw_shrunk_15 (v := 0) (by decide) ?_
    refine y_iret d_Lw_shrunk_16 rfl rfl ?_
    exact fun w1 h1 => ⟨⟨_, rfl⟩, u2, hu, IVm.tz ((hI.gen (t2 := (zup (mg t s9).1 [(69, (((mg t s9).1 69).1, vp_updL (((mg t s9).1 69).2.1) 0 v9.toInt64, ((mg t s9).1 69).2.2))], (mg t s9).2)) (is := [69]) (L2 := []) h1 rfl ⟨kd_69.mpr rfl, trivial⟩ (by decide) (by decide) (fun _ h => nomatch h) (fun _ h => nomatch h) (fun i hi hn => zup_out (fun q => hn ((by decide : ∀ j ∈ ([69] : List Nat), j ∈ ([69] : List Nat)) i q))) (fun h => h) rfl)) (tx_all rfl)⟩
abbrev M_Lw_shrunkAnew : zM := (⟨"IronpourLaw", "shrunkAnew", "(LIronpour;I[J)I"⟩, method_12_code, 4, (Option.some FieldType.int), 8, 157, [((0 : Nat), (9 : Nat), (12 : Nat), (13 : Nat))])
theorem d_Lw_shrunkAnew_0 : decode method_12_code 0 = .ok (.aload_n 2, 1) := zo_44 (zd_b zq_method_12_code_0 0 rfl rfl rfl)
theorem d_Lw_shrunkAnew_1 : decode method_12_code 1 = .ok (.iconst 0, 1) := zo_3 (zd_b zq_method_12_code_0 1 rfl rfl rfl)
theorem d_Lw_shrunkAnew_2 : decode method_12_code 2 = .ok (.aload_n 0, 1) := zo_42 (zd_b zq_method_12_code_0 2 rfl rfl rfl)
theorem d_Lw_shrunkAnew_3 : decode method_12_code 3 = .ok (.iload_n 1, 1) := zo_27 (zd_b zq_method_12_code_0 3 rfl rfl rfl)
theorem d_Lw_shrunkAnew_4 : decode method_12_code 4 = .ok (.invokevirtual 50, 3) := zo_182 (d := 0) (e := 50) (zd_b zq_method_12_code_0 4 rfl rfl rfl) (zd_b zq_method_12_code_0 5 rfl rfl rfl) (zd_b zq_method_12_code_0 6 rfl rfl rfl)
theorem ok_Lw_shrunkAnew_Ip_shrunkAnew : z_okH M_Lw_shrunkAnew M_Ip_shrunkAnew 1 := ⟨z_mj4 (i := 135) rfl (by decide +kernel), rfl, ⟨by decide +kernel, by decide +kernel, by decide +kernel⟩, ⟨by decide, by decide⟩, z_mj1 (i := 1) rfl (by decide +kernel)⟩
theorem ln_Lw_50 : Cond.methodLink "IronpourLaw" 50 M_Ip_shrunkAnew.1 ∈ z_gw := z_mj4 (i := 132) rfl (by decide +kernel)
theorem w_im_Ip_shrunkAnew : Cond.instanceMethod M_Ip_shrunkAnew.1 ∈ z_gw := z_mj4 (i := 133) rfl (by decide +kernel)
theorem w_se_Ip_shrunkAnew : Cond.selects M_Ip_shrunkAnew.1.cls M_Ip_shrunkAnew.1 M_Ip_shrunkAnew.1 ∈ z_gw := z_mj4 (i := 134) rfl (by decide +kernel)
theorem d_Lw_shrunkAnew_12 : decode method_12_code 12 = .ok (.astore_n 3, 1) := zo_78 (zd_b zq_method_12_code_0 12 rfl rfl rfl)
theorem d_Lw_shrunkAnew_13 : decode method_12_code 13 = .ok (.iconst 1, 1) := zo_4 (zd_b zq_method_12_code_0 13 rfl rfl rfl)
theorem d_Lw_shrunkAnew_14 : decode method_12_code 14 = .ok (.ireturn, 1) := zo_172 (zd_b zq_method_12_code_0 14 rfl rfl rfl)
theorem d_Lw_shrunkAnew_7 : decode method_12_code 7 = .ok (.i2l, 1) := zo_133 (zd_b zq_method_12_code_0 7 rfl rfl rfl)
theorem d_Lw_shrunkAnew_8 : decode method_12_code 8 = .ok (.lastore, 1) := zo_80 (zd_b zq_method_12_code_0 8 rfl rfl rfl)
theorem d_Lw_shrunkAnew_9 : decode method_12_code 9 = .ok (.goto 6, 3) := zo_167 (d := 0) (e := 6) (zd_b zq_method_12_code_0 9 rfl rfl rfl) (zd_b zq_method_12_code_0 10 rfl rfl rfl) (zd_b zq_method_12_code_0 11 rfl rfl rfl) (by decide +kernel)
theorem d_Lw_shrunkAnew_15 : decode method_12_code 15 = .ok (.iconst 0, 1) := zo_3 (zd_b zq_method_12_code_0 15 rfl rfl rfl)
theorem d_Lw_shrunkAnew_16 : decode method_12_code 16 = .ok (.ireturn, 1) := zo_172 (zd_b zq_method_12_code_0 16 rfl rfl rfl)
set_option maxHeartbeats 4000000 in
set_option maxRecDepth 100000 in
theorem W_shrunkAnew {g : zG} {ad : Nat → Nat} {t : zTT} {u : zNN} {w : zW} (hI : IVm g ad t u w) (h : Int32) : zMB g M_Lw_shrunkAnew [.ref (ad 0), .int h, .ref (ad 69)] w (fun o w1 => MKx g ad t u.1 o w1) 10 300 := by
  obtain ⟨s, hI⟩ := hI
  obtain ⟨e_a, wf_a, k_a⟩ := hI.1.2 0 (by decide)
  obtain rfl := kd_0.mp k_a
  obtain ⟨e_o1, wf_o1, k_o1⟩ := hI.1.2 69 (by decide)
  obtain rfl := kd_69.mp k_o1
  refine y_ofH (by decide) (by decide) (Nat.le_of_ble_eq_true rfl) (y_base (cs := [((ad 0), .inr (11, [.ref (ad 1), .ref (ad 5), .ref (ad 18), .ref (ad 31), .ref (ad 32), .ref (ad 36), .ref (ad 42), .ref (ad 45), .ref (ad 47), .ref (ad 49), .ref (ad 50), .ref (ad 51)])), ((ad 69), .inl (3, 1, .inr (.inl (((mg t s).1 69).2.1))))]) (hI.1.I [0, 69] _ rfl (by decide) (by decide) (List.forall_mem_cons.mpr ⟨wf_a, (List.forall_mem_cons.mpr ⟨wf_o1, (fun _ h => nomatch h)⟩)⟩)) ?_)
  refine y_lvE (lv2 := [(0, .ref (ad 0)), (1, .int h), (2, .ref (ad 69))]) rfl ?_
  refine y_aload_n d_Lw_shrunkAnew_0 rfl 2 rfl ?_
  refine y_iconst d_Lw_shrunkAnew_1 (v := 0) (by decide) ?_
  refine y_aload_n d_Lw_shrunkAnew_2 rfl 0 rfl ?_
  refine y_iload_n d_Lw_shrunkAnew_3 rfl 1 rfl ?_
  refine yw_callVH (As := [.int h]) (rest := [.int 0, .ref (ad 69)]) (q0 := 0) rfl rfl ln_Lw_50 w_im_Ip_shrunkAnew w_se_Ip_shrunkAnew ok_Lw_shrunkAnew_Ip_shrunkAnew d_Lw_shrunkAnew_4 (fun wA hA => K_Ip_shrunkAnew ⟨_, (hI.gen (t2 := (mg t s)) (is := [0, 69]) (L2 := []) hA rfl ⟨kd_0.mpr rfl, kd_69.mpr rfl, trivial⟩ (by decide) (by decide) (fun _ h => nomatch h) (fun _ h => nomatch h) (fun _ _ _ => rfl) (fun h => h) rfl)⟩ h) rfl rfl (Nat.le_of_ble_eq_true rfl) (by omega) (by omega) (fun wA4 hA4 E wB4 hx => ?_) (fun wA4 hA4 v wB4 hx => ?_)
  · obtain ⟨h1, u2, hu, hI2⟩ := hx
    obtain rfl := List.mem_singleton.mp (zriE h1)
    refine ⟨"java/lang/IllegalArgumentException", [], [], (0, 9, 12, 13), rfl, (fun z hz => nomatch hz), by decide, by decide, lx_Lw_13, ce_13, fun qx => ?_⟩
    refine y_base (cs := []) (z_I.nil wB4) ?_
    refine y_astore_n (lv' := [(3, .ref qx), (0, .ref (ad 0)), (1, .int h), (2, .ref (ad 69))]) d_Lw_shrunkAnew_12 rfl (by decide) rfl ?_
    refine y_iconst d_Lw_shrunkAnew_13 (v := 1) (by decide) ?_
    refine y_iret d_Lw_shrunkAnew_14 rfl rfl ?_
    exact fun w1 h1 => ⟨⟨_, rfl⟩, u2, hu, (z_I.same (z_I.nil _) h1).symm ▸ hI2⟩
  · obtain ⟨h1, u2, hu, hI2⟩ := hx
    obtain ⟨v9, rfl⟩ := zriV h1
    refine yw_st (st2 := [.int v9, .int 0, .ref (ad 69)]) rfl ?_
    obtain ⟨s9, hI⟩ := hI2
    obtain ⟨e_o1, wf_o1, k_o1⟩ := hI.1.2 69 (by decide)
    obtain rfl := kd_69.mp k_o1
    refine y_base (cs := [((ad 69), .inl (3, 1, .inr (.inl (((mg t s9).1 69).2.1))))]) (hI.1.I [69] _ rfl (by decide) (by decide) (List.forall_mem_cons.mpr ⟨wf_o1, (fun _ h => nomatch h)⟩)) ?_
    refine y_i2l d_Lw_shrunkAnew_7 (v := v9.toInt64) rfl ?_
    refine y_last d_Lw_shrunkAnew_8 (q0 := 0) rfl (fun q => q.elim (by decide) (by decide)) (f' := vp_updL (((mg t s9).1 69).2.1) 0 v9.toInt64) rfl (cs' := [((ad 69), .inl (3, 1, .inr (.inl (vp_updL (((mg t s9).1 69).2.1) 0 v9.toInt64))))]) rfl ?_
    refine y_goto (tgt := 15) d_Lw_shrunkAnew_9 (by decide) ?_
    refine y_iconst d_Lw_shrunkAnew_15 (v := 0) (by decide) ?_
    refine y_iret d_Lw_shrunkAnew_16 rfl rfl ?_
    exact fun w1 h1 => ⟨⟨_, rfl⟩, u2, hu, IVm.tz ((hI.gen (t2 := (zup (mg t s9).1 [(69, (((mg t s9).1 69).1, vp_updL (((mg t s9).1 69).2.1) 0 v9.toInt64, ((mg t s9).1 69).2.2))], (mg t s9).2)) (is := [69]) (L2 := []) h1 rfl ⟨kd_69.mpr rfl, trivial⟩ (by decide) (by decide) (fun _ h => nomatch h) (fun _ h => nomatch h) (fun i hi hn => zup_out (fun q => hn ((by decide : ∀ j ∈ ([69] : List Nat), j ∈ ([69] : List Nat)) i q))) (fun h => h) rfl)) (tx_all rfl)⟩
abbrev M_Lw_lastPlace : zM := (⟨"IronpourLaw", "lastPlace", "(LIronpour;I[J)I"⟩, method_13_code, 4, (Option.some FieldType.int), 8, 158, [((0 : Nat), (9 : Nat), (12 : Nat), (13 : Nat)), ((0 : Nat), (9 : Nat), (15 : Nat), (33 : Nat))])
theorem d_Lw_lastPlace_0 : decode method_13_code 0 = .ok (.aload_n 2, 1) := zo_44 (zd_b zq_method_13_code_0 0 rfl rfl rfl)
theorem d_Lw_lastPlace_1 : decode method_13_code 1 = .ok (.iconst 0, 1) := zo_3 (zd_b zq_method_13_code_0 1 rfl rfl rfl)
theorem d_Lw_lastPlace_2 : decode method_13_code 2 = .ok (.aload_n 0, 1) := zo_42 (zd_b zq_method_13_code_0 2 rfl rfl rfl)
theorem d_Lw_lastPlace_3 : decode method_13_code 3 = .ok (.iload_n 1, 1) := zo_27 (zd_b zq_method_13_code_0 3 rfl rfl rfl)
theorem d_Lw_lastPlace_4 : decode method_13_code 4 = .ok (.invokevirtual 53, 3) := zo_182 (d := 0) (e := 53) (zd_b zq_method_13_code_0 4 rfl rfl rfl) (zd_b zq_method_13_code_0 5 rfl rfl rfl) (zd_b zq_method_13_code_0 6 rfl rfl rfl)
theorem ok_Lw_lastPlace_Ip_lastPlace : z_okH M_Lw_lastPlace M_Ip_lastPlace 1 := ⟨z_mj4 (i := 146) rfl (by decide +kernel), rfl, ⟨by decide +kernel, by decide +kernel, by decide +kernel⟩, ⟨by decide, by decide⟩, z_mj1 (i := 1) rfl (by decide +kernel)⟩
theorem ln_Lw_53 : Cond.methodLink "IronpourLaw" 53 M_Ip_lastPlace.1 ∈ z_gw := z_mj4 (i := 143) rfl (by decide +kernel)
theorem w_im_Ip_lastPlace : Cond.instanceMethod M_Ip_lastPlace.1 ∈ z_gw := z_mj4 (i := 144) rfl (by decide +kernel)
theorem w_se_Ip_lastPlace : Cond.selects M_Ip_lastPlace.1.cls M_Ip_lastPlace.1 M_Ip_lastPlace.1 ∈ z_gw := z_mj4 (i := 145) rfl (by decide +kernel)
theorem d_Lw_lastPlace_12 : decode method_13_code 12 = .ok (.astore_n 3, 1) := zo_78 (zd_b zq_method_13_code_0 12 rfl rfl rfl)
theorem d_Lw_lastPlace_13 : decode method_13_code 13 = .ok (.iconst 1, 1) := zo_4 (zd_b zq_method_13_code_0 13 rfl rfl rfl)
theorem d_Lw_lastPlace_14 : decode method_13_code 14 = .ok (.ireturn, 1) := zo_172 (zd_b zq_method_13_code_0 14 rfl rfl rfl)
theorem d_Lw_lastPlace_15 : decode method_13_code 15 = .ok (.astore_n 3, 1) := zo_78 (zd_b zq_method_13_code_0 15 rfl rfl rfl)
theorem d_Lw_lastPlace_16 : decode method_13_code 16 = .ok (.iconst 2, 1) := zo_5 (zd_b zq_method_13_code_0 16 rfl rfl rfl)
theorem d_Lw_lastPlace_17 : decode method_13_code 17 = .ok (.ireturn, 1) := zo_172 (zd_b zq_method_13_code_0 17 rfl rfl rfl)
theorem d_Lw_lastPlace_7 : decode method_13_code 7 = .ok (.i2l, 1) := zo_133 (zd_b zq_method_13_code_0 7 rfl rfl rfl)
theorem d_Lw_lastPlace_8 : decode method_13_code 8 = .ok (.lastore, 1) := zo_80 (zd_b zq_method_13_code_0 8 rfl rfl rfl)
theorem d_Lw_lastPlace_9 : decode method_13_code 9 = .ok (.goto 9, 3) := zo_167 (d := 0) (e := 9) (zd_b zq_method_13_code_0 9 rfl rfl rfl) (zd_b zq_method_13_code_0 10 rfl rfl rfl) (zd_b zq_method_13_code_0 11 rfl rfl rfl) (by decide +kernel)
theorem d_Lw_lastPlace_18 : decode method_13_code 18 = .ok (.iconst 0, 1) := zo_3 (zd_b zq_method_13_code_0 18 rfl rfl rfl)
theorem d_Lw_lastPlace_19 : decode method_13_code 19 = .ok (.ireturn, 1) := zo_172 (zd_b zq_method_13_code_0 19 rfl rfl rfl)
set_option maxHeartbeats 4000000 in
set_option maxRecDepth 100000 in
theorem W_lastPlace {g : zG} {ad : Nat → Nat} {t : zTT} {u : zNN} {w : zW} (hI : IVm g ad t u w) (h : Int32) : zMB g M_Lw_lastPlace [.ref (ad 0), .int h, .ref (ad 69)] w (fun o w1 => MKx g ad t u.1 o w1) 10 300 := by
  obtain ⟨s, hI⟩ := hI
  obtain ⟨e_a, wf_a, k_a⟩ := hI.1.2 0 (by decide)
  obtain rfl := kd_0.mp k_a
  obtain ⟨e_o1, wf_o1, k_o1⟩ := hI.1.2 69 (by decide)
  obtain rfl := kd_69.mp k_o1
  refine y_ofH (by decide) (by decide) (Nat.le_of_ble_eq_true rfl) (y_base (cs := [((ad 0), .inr (11, [.ref (ad 1), .ref (ad 5), .ref (ad 18), .ref (ad 31), .ref (ad 32), .ref (ad 36), .ref (ad 42), .ref (ad 45), .ref (ad 47), .ref (ad 49), .ref (ad 50), .ref (ad 51)])), ((ad 69), .inl (3, 1, .inr (.inl (((mg t s).1 69).2.1))))]) (hI.1.I [0, 69] _ rfl (by decide) (by decide) (List.forall_mem_cons.mpr ⟨wf_a, (List.forall_mem_cons.mpr ⟨wf_o1, (fun _ h => nomatch h)⟩)⟩)) ?_)
  refine y_lvE (lv2 := [(0, .ref (ad 0)), (1, .int h), (2, .ref (ad 69))]) rfl ?_
  refine y_aload_n d_Lw_lastPlace_0 rfl 2 rfl ?_
  refine y_iconst d_Lw_lastPlace_1 (v := 0) (by decide) ?_
  refine y_aload_n d_Lw_lastPlace_2 rfl 0 rfl ?_
  refine y_iload_n d_Lw_lastPlace_3 rfl 1 rfl ?_
  refine yw_callVH (As := [.int h]) (rest := [.int 0, .ref (ad 69)]) (q0 := 0) rfl rfl ln_Lw_53 w_im_Ip_lastPlace w_se_Ip_lastPlace ok_Lw_lastPlace_Ip_lastPlace d_Lw_lastPlace_4 (fun wA hA => K_Ip_lastPlace ⟨_, (hI.gen (t2 := (mg t s)) (is := [0, 69]) (L2 := []) hA rfl ⟨kd_0.mpr rfl, kd_69.mpr rfl, trivial⟩ (by decide) (by decide) (fun _ h => nomatch h) (fun _ h => nomatch h) (fun _ _ _ => rfl) (fun h => h) rfl)⟩ h) rfl rfl (Nat.le_of_ble_eq_true rfl) (by omega) (by omega) (fun wA4 hA4 E wB4 hx => ?_) (fun wA4 hA4 v wB4 hx => ?_)
  · obtain ⟨h1, u2, hu, hI2⟩ := hx
    rcases List.mem_cons.mp (zriE h1) with rfl | g2
    · refine ⟨"java/lang/IllegalArgumentException", [], [(0, 9, 15, 33)], (0, 9, 12, 13), rfl, (fun z hz => nomatch hz), by decide, by decide, lx_Lw_13, ce_13, fun qx => ?_⟩
      refine y_base (cs := []) (z_I.nil wB4) ?_
      refine y_astore_n (lv' := [(3, .ref qx), (0, .ref (ad 0)), (1, .int h), (2, .ref (ad 69))]) d_Lw_lastPlace_12 rfl (by decide) rfl ?_
      refine y_iconst d_Lw_lastPlace_13 (v := 1) (by decide) ?_
      refine y_iret d_Lw_lastPlace_14 rfl rfl ?_
      exact fun w1 h1 => ⟨⟨_, rfl⟩, u2, hu, (z_I.same (z_I.nil _) h1).symm ▸ hI2⟩
    · obtain rfl := List.mem_singleton.mp g2
      refine ⟨"java/util/NoSuchElementException", [(0, 9, 12, 13)], [], (0, 9, 15, 33), rfl, (fun z hz => by simp only [List.mem_cons, List.not_mem_nil, or_false] at hz; rcases hz with rfl; exact Or.inr ⟨by decide, _, lx_Lw_13, by decide⟩), by decide, by decide, lx_Lw_33, ce_33, fun qx => ?_⟩
      refine y_base (cs := []) (z_I.nil wB4) ?_
      refine y_astore_n (lv' := [(3, .ref qx), (0, .ref (ad 0)), (1, .int h), (2, .ref (ad 69))]) d_Lw_lastPlace_15 rfl (by decide) rfl ?_
      refine y_iconst d_Lw_lastPlace_16 (v := 2) (by decide) ?_
      refine y_iret d_Lw_lastPlace_17 rfl rfl ?_
      exact fun w1 h1 => ⟨⟨_, rfl⟩, u2, hu, (z_I.same (z_I.nil _) h1).symm ▸ hI2⟩
  · obtain ⟨h1, u2, hu, hI2⟩ := hx
    obtain ⟨v9, rfl⟩ := zriV h1
    refine yw_st (st2 := [.int v9, .int 0, .ref (ad 69)]) rfl ?_
    obtain ⟨s9, hI⟩ := hI2
    obtain ⟨e_o1, wf_o1, k_o1⟩ := hI.1.2 69 (by decide)
    obtain rfl := kd_69.mp k_o1
    refine y_base (cs := [((ad 69), .inl (3, 1, .inr (.inl (((mg t s9).1 69).2.1))))]) (hI.1.I [69] _ rfl (by decide) (by decide) (List.forall_mem_cons.mpr ⟨wf_o1, (fun _ h => nomatch h)⟩)) ?_
    refine y_i2l d_Lw_lastPlace_7 (v := v9.toInt64) rfl ?_
    refine y_last d_Lw_lastPlace_8 (q0 := 0) rfl (fun q => q.elim (by decide) (by decide)) (f' := vp_updL (((mg t s9).1 69).2.1) 0 v9.toInt64) rfl (cs' := [((ad 69), .inl (3, 1, .inr (.inl (vp_updL (((mg t s9).1 69).2.1) 0 v9.toInt64))))]) rfl ?_
    refine y_goto (tgt := 18) d_Lw_lastPlace_9 (by decide) ?_
    refine y_iconst d_Lw_lastPlace_18 (v := 0) (by decide) ?_
    refine y_iret d_Lw_lastPlace_19 rfl rfl ?_
    exact fun w1 h1 => ⟨⟨_, rfl⟩, u2, hu, IVm.tz ((hI.gen (t2 := (zup (mg t s9).1 [(69, (((mg t s9).1 69).1, vp_updL (((mg t s9).1 69).2.1) 0 v9.toInt64, ((mg t s9).1 69).2.2))], (mg t s9).2)) (is := [69]) (L2 := []) h1 rfl ⟨kd_69.mpr rfl, trivial⟩ (by decide) (by decide) (fun _ h => nomatch h) (fun _ h => nomatch h) (fun i hi hn => zup_out (fun q => hn ((by decide : ∀ j ∈ ([69] : List Nat), j ∈ ([69] : List Nat)) i q))) (fun h => h) rfl)) (tx_all rfl)⟩
abbrev M_Lw_bestFeeder : zM := (⟨"IronpourLaw", "bestFeeder", "(LIronpour;I[J)I"⟩, method_14_code, 4, (Option.some FieldType.int), 8, 184, [((0 : Nat), (9 : Nat), (12 : Nat), (13 : Nat)), ((0 : Nat), (9 : Nat), (15 : Nat), (33 : Nat))])
theorem d_Lw_bestFeeder_0 : decode method_14_code 0 = .ok (.aload_n 2, 1) := zo_44 (zd_b zq_method_14_code_0 0 rfl rfl rfl)
theorem d_Lw_bestFeeder_1 : decode method_14_code 1 = .ok (.iconst 0, 1) := zo_3 (zd_b zq_method_14_code_0 1 rfl rfl rfl)
theorem d_Lw_bestFeeder_2 : decode method_14_code 2 = .ok (.aload_n 0, 1) := zo_42 (zd_b zq_method_14_code_0 2 rfl rfl rfl)
theorem d_Lw_bestFeeder_3 : decode method_14_code 3 = .ok (.iload_n 1, 1) := zo_27 (zd_b zq_method_14_code_0 3 rfl rfl rfl)
theorem d_Lw_bestFeeder_4 : decode method_14_code 4 = .ok (.invokevirtual 56, 3) := zo_182 (d := 0) (e := 56) (zd_b zq_method_14_code_0 4 rfl rfl rfl) (zd_b zq_method_14_code_0 5 rfl rfl rfl) (zd_b zq_method_14_code_0 6 rfl rfl rfl)
theorem ok_Lw_bestFeeder_Ip_bestFeeder : z_okH M_Lw_bestFeeder M_Ip_bestFeeder 1 := ⟨z_mj4 (i := 158) rfl (by decide +kernel), rfl, ⟨by decide +kernel, by decide +kernel, by decide +kernel⟩, ⟨by decide, by decide⟩, z_mj1 (i := 1) rfl (by decide +kernel)⟩
theorem ln_Lw_56 : Cond.methodLink "IronpourLaw" 56 M_Ip_bestFeeder.1 ∈ z_gw := z_mj4 (i := 155) rfl (by decide +kernel)
theorem w_im_Ip_bestFeeder : Cond.instanceMethod M_Ip_bestFeeder.1 ∈ z_gw := z_mj4 (i := 156) rfl (by decide +kernel)
theorem w_se_Ip_bestFeeder : Cond.selects M_Ip_bestFeeder.1.cls M_Ip_bestFeeder.1 M_Ip_bestFeeder.1 ∈ z_gw := z_mj4 (i := 157) rfl (by decide +kernel)
theorem d_Lw_bestFeeder_12 : decode method_14_code 12 = .ok (.astore_n 3, 1) := zo_78 (zd_b zq_method_14_code_0 12 rfl rfl rfl)
theorem d_Lw_bestFeeder_13 : decode method_14_code 13 = .ok (.iconst 1, 1) := zo_4 (zd_b zq_method_14_code_0 13 rfl rfl rfl)
theorem d_Lw_bestFeeder_14 : decode method_14_code 14 = .ok (.ireturn, 1) := zo_172 (zd_b zq_method_14_code_0 14 rfl rfl rfl)
theorem d_Lw_bestFeeder_15 : decode method_14_code 15 = .ok (.astore_n 3, 1) := zo_78 (zd_b zq_method_14_code_0 15 rfl rfl rfl)
theorem d_Lw_bestFeeder_16 : decode method_14_code 16 = .ok (.iconst 2, 1) := zo_5 (zd_b zq_method_14_code_0 16 rfl rfl rfl)
theorem d_Lw_bestFeeder_17 : decode method_14_code 17 = .ok (.ireturn, 1) := zo_172 (zd_b zq_method_14_code_0 17 rfl rfl rfl)
theorem d_Lw_bestFeeder_7 : decode method_14_code 7 = .ok (.i2l, 1) := zo_133 (zd_b zq_method_14_code_0 7 rfl rfl rfl)
theorem d_Lw_bestFeeder_8 : decode method_14_code 8 = .ok (.lastore, 1) := zo_80 (zd_b zq_method_14_code_0 8 rfl rfl rfl)
theorem d_Lw_bestFeeder_9 : decode method_14_code 9 = .ok (.goto 9, 3) := zo_167 (d := 0) (e := 9) (zd_b zq_method_14_code_0 9 rfl rfl rfl) (zd_b zq_method_14_code_0 10 rfl rfl rfl) (zd_b zq_method_14_code_0 11 rfl rfl rfl) (by decide +kernel)
theorem d_Lw_bestFeeder_18 : decode method_14_code 18 = .ok (.iconst 0, 1) := zo_3 (zd_b zq_method_14_code_0 18 rfl rfl rfl)
theorem d_Lw_bestFeeder_19 : decode method_14_code 19 = .ok (.ireturn, 1) := zo_172 (zd_b zq_method_14_code_0 19 rfl rfl rfl)
set_option maxHeartbeats 4000000 in
set_option maxRecDepth 100000 in
theorem W_bestFeeder {g : zG} {ad : Nat → Nat} {t : zTT} {u : zNN} {w : zW} (hI : IVm g ad t u w) (h : Int32) : zMB g M_Lw_bestFeeder [.ref (ad 0), .int h, .ref (ad 69)] w (fun o w1 => MKx g ad t u.1 o w1) 10 300 := by
  obtain ⟨s, hI⟩ := hI
  obtain ⟨e_a, wf_a, k_a⟩ := hI.1.2 0 (by decide)
  obtain rfl := kd_0.mp k_a
  obtain ⟨e_o1, wf_o1, k_o1⟩ := hI.1.2 69 (by decide)
  obtain rfl := kd_69.mp k_o1
  refine y_ofH (by decide) (by decide) (Nat.le_of_ble_eq_true rfl) (y_base (cs := [((ad 0), .inr (11, [.ref (ad 1), .ref (ad 5), .ref (ad 18), .ref (ad 31), .ref (ad 32), .ref (ad 36), .ref (ad 42), .ref (ad 45), .ref (ad 47), .ref (ad 49), .ref (ad 50), .ref (ad 51)])), ((ad 69), .inl (3, 1, .inr (.inl (((mg t s).1 69).2.1))))]) (hI.1.I [0, 69] _ rfl (by decide) (by decide) (List.forall_mem_cons.mpr ⟨wf_a, (List.forall_mem_cons.mpr ⟨wf_o1, (fun _ h => nomatch h)⟩)⟩)) ?_)
  refine y_lvE (lv2 := [(0, .ref (ad 0)), (1, .int h), (2, .ref (ad 69))]) rfl ?_
  refine y_aload_n d_Lw_bestFeeder_0 rfl 2 rfl ?_
  refine y_iconst d_Lw_bestFeeder_1 (v := 0) (by decide) ?_
  refine y_aload_n d_Lw_bestFeeder_2 rfl 0 rfl ?_
  refine y_iload_n d_Lw_bestFeeder_3 rfl 1 rfl ?_
  refine yw_callVH (As := [.int h]) (rest := [.int 0, .ref (ad 69)]) (q0 := 0) rfl rfl ln_Lw_56 w_im_Ip_bestFeeder w_se_Ip_bestFeeder ok_Lw_bestFeeder_Ip_bestFeeder d_Lw_bestFeeder_4 (fun wA hA => K_Ip_bestFeeder ⟨_, (hI.gen (t2 := (mg t s)) (is := [0, 69]) (L2 := []) hA rfl ⟨kd_0.mpr rfl, kd_69.mpr rfl, trivial⟩ (by decide) (by decide) (fun _ h => nomatch h) (fun _ h => nomatch h) (fun _ _ _ => rfl) (fun h => h) rfl)⟩ h) rfl rfl (Nat.le_of_ble_eq_true rfl) (by omega) (by omega) (fun wA4 hA4 E wB4 hx => ?_) (fun wA4 hA4 v wB4 hx => ?_)
  · obtain ⟨h1, u2, hu, hI2⟩ := hx
    rcases List.mem_cons.mp (zriE h1) with rfl | g2
    · refine ⟨"java/lang/IllegalArgumentException", [], [(0, 9, 15, 33)], (0, 9, 12, 13), rfl, (fun z hz => nomatch hz), by decide, by decide, lx_Lw_13, ce_13, fun qx => ?_⟩
      refine y_base (cs := []) (z_I.nil wB4) ?_
      refine y_astore_n (lv' := [(3, .ref qx), (0, .ref (ad 0)), (1, .int h), (2, .ref (ad 69))]) d_Lw_bestFeeder_12 rfl (by decide) rfl ?_
      refine y_iconst d_Lw_bestFeeder_13 (v := 1) (by decide) ?_
      refine y_iret d_Lw_bestFeeder_14 rfl rfl ?_
      exact fun w1 h1 => ⟨⟨_, rfl⟩, u2, hu, (z_I.same (z_I.nil _) h1).symm ▸ hI2⟩
    · obtain rfl := List.mem_singleton.mp g2
      refine ⟨"java/util/NoSuchElementException", [(0, 9, 12, 13)], [], (0, 9, 15, 33), rfl, (fun z hz => by simp only [List.mem_cons, List.not_mem_nil, or_false] at hz; rcases hz with rfl; exact Or.inr ⟨by decide, _, lx_Lw_13, by decide⟩), by decide, by decide, lx_Lw_33, ce_33, fun qx => ?_⟩
      refine y_base (cs := []) (z_I.nil wB4) ?_
      refine y_astore_n (lv' := [(3, .ref qx), (0, .ref (ad 0)), (1, .int h), (2, .ref (ad 69))]) d_Lw_bestFeeder_15 rfl (by decide) rfl ?_
      refine y_iconst d_Lw_bestFeeder_16 (v := 2) (by decide) ?_
      refine y_iret d_Lw_bestFeeder_17 rfl rfl ?_
      exact fun w1 h1 => ⟨⟨_, rfl⟩, u2, hu, (z_I.same (z_I.nil _) h1).symm ▸ hI2⟩
  · obtain ⟨h1, u2, hu, hI2⟩ := hx
    obtain ⟨v9, rfl⟩ := zriV h1
    refine yw_st (st2 := [.int v9, .int 0, .ref (ad 69)]) rfl ?_
    obtain ⟨s9, hI⟩ := hI2
    obtain ⟨e_o1, wf_o1, k_o1⟩ := hI.1.2 69 (by decide)
    obtain rfl := kd_69.mp k_o1
    refine y_base (cs := [((ad 69), .inl (3, 1, .inr (.inl (((mg t s9).1 69).2.1))))]) (hI.1.I [69] _ rfl (by decide) (by decide) (List.forall_mem_cons.mpr ⟨wf_o1, (fun _ h => nomatch h)⟩)) ?_
    refine y_i2l d_Lw_bestFeeder_7 (v := v9.toInt64) rfl ?_
    refine y_last d_Lw_bestFeeder_8 (q0 := 0) rfl (fun q => q.elim (by decide) (by decide)) (f' := vp_updL (((mg t s9).1 69).2.1) 0 v9.toInt64) rfl (cs' := [((ad 69), .inl (3, 1, .inr (.inl (vp_updL (((mg t s9).1 69).2.1) 0 v9.toInt64))))]) rfl ?_
    refine y_goto (tgt := 18) d_Lw_bestFeeder_9 (by decide) ?_
    refine y_iconst d_Lw_bestFeeder_18 (v := 0) (by decide) ?_
    refine y_iret d_Lw_bestFeeder_19 rfl rfl ?_
    exact fun w1 h1 => ⟨⟨_, rfl⟩, u2, hu, IVm.tz ((hI.gen (t2 := (zup (mg t s9).1 [(69, (((mg t s9).1 69).1, vp_updL (((mg t s9).1 69).2.1) 0 v9.toInt64, ((mg t s9).1 69).2.2))], (mg t s9).2)) (is := [69]) (L2 := []) h1 rfl ⟨kd_69.mpr rfl, trivial⟩ (by decide) (by decide) (fun _ h => nomatch h) (fun _ h => nomatch h) (fun i hi hn => zup_out (fun q => hn ((by decide : ∀ j ∈ ([69] : List Nat), j ∈ ([69] : List Nat)) i q))) (fun h => h) rfl)) (tx_all rfl)⟩
abbrev M_Lw_mill : zM := (⟨"IronpourLaw", "mill", "(LIronpour;IIII[J)I"⟩, method_15_code, 7, (Option.some FieldType.int), 7, 124, [((0 : Nat), (14 : Nat), (17 : Nat), (13 : Nat))])
theorem d_Lw_mill_0 : decode method_15_code 0 = .ok (.aload 5, 2) := zo_25 (d := 5) (zd_b zq_method_15_code_0 0 rfl rfl rfl) (zd_b zq_method_15_code_0 1 rfl rfl rfl)
theorem d_Lw_mill_2 : decode method_15_code 2 = .ok (.iconst 0, 1) := zo_3 (zd_b zq_method_15_code_0 2 rfl rfl rfl)
theorem d_Lw_mill_3 : decode method_15_code 3 = .ok (.aload_n 0, 1) := zo_42 (zd_b zq_method_15_code_0 3 rfl rfl rfl)
theorem d_Lw_mill_4 : decode method_15_code 4 = .ok (.iload_n 1, 1) := zo_27 (zd_b zq_method_15_code_0 4 rfl rfl rfl)
theorem d_Lw_mill_5 : decode method_15_code 5 = .ok (.iload_n 2, 1) := zo_28 (zd_b zq_method_15_code_0 5 rfl rfl rfl)
theorem d_Lw_mill_6 : decode method_15_code 6 = .ok (.iload_n 3, 1) := zo_29 (zd_b zq_method_15_code_0 6 rfl rfl rfl)
theorem d_Lw_mill_7 : decode method_15_code 7 = .ok (.iload 4, 2) := zo_21 (d := 4) (zd_b zq_method_15_code_0 7 rfl rfl rfl) (zd_b zq_method_15_code_0 8 rfl rfl rfl)
theorem d_Lw_mill_9 : decode method_15_code 9 = .ok (.invokevirtual 59, 3) := zo_182 (d := 0) (e := 59) (zd_b zq_method_15_code_0 9 rfl rfl rfl) (zd_b zq_method_15_code_0 10 rfl rfl rfl) (zd_b zq_method_15_code_0 11 rfl rfl rfl)
theorem ok_Lw_mill_Ip_mill : z_okH M_Lw_mill M_Ip_mill 4 := ⟨z_mj4 (i := 174) rfl (by decide +kernel), rfl, ⟨by decide +kernel, by decide +kernel, by decide +kernel⟩, ⟨by decide, by decide⟩, z_mj1 (i := 1) rfl (by decide +kernel)⟩
theorem ln_Lw_59 : Cond.methodLink "IronpourLaw" 59 M_Ip_mill.1 ∈ z_gw := z_mj4 (i := 171) rfl (by decide +kernel)
theorem w_im_Ip_mill : Cond.instanceMethod M_Ip_mill.1 ∈ z_gw := z_mj4 (i := 172) rfl (by decide +kernel)
theorem w_se_Ip_mill : Cond.selects M_Ip_mill.1.cls M_Ip_mill.1 M_Ip_mill.1 ∈ z_gw := z_mj4 (i := 173) rfl (by decide +kernel)
theorem d_Lw_mill_17 : decode method_15_code 17 = .ok (.astore 6, 2) := zo_58 (d := 6) (zd_b zq_method_15_code_0 17 rfl rfl rfl) (zd_b zq_method_15_code_0 18 rfl rfl rfl)
theorem d_Lw_mill_19 : decode method_15_code 19 = .ok (.iconst 1, 1) := zo_4 (zd_b zq_method_15_code_0 19 rfl rfl rfl)
theorem d_Lw_mill_20 : decode method_15_code 20 = .ok (.ireturn, 1) := zo_172 (zd_b zq_method_15_code_0 20 rfl rfl rfl)
theorem d_Lw_mill_12 : decode method_15_code 12 = .ok (.i2l, 1) := zo_133 (zd_b zq_method_15_code_0 12 rfl rfl rfl)
theorem d_Lw_mill_13 : decode method_15_code 13 = .ok (.lastore, 1) := zo_80 (zd_b zq_method_15_code_0 13 rfl rfl rfl)
theorem d_Lw_mill_14 : decode method_15_code 14 = .ok (.goto 7, 3) := zo_167 (d := 0) (e := 7) (zd_b zq_method_15_code_0 14 rfl rfl rfl) (zd_b zq_method_15_code_0 15 rfl rfl rfl) (zd_b zq_method_15_code_0 16 rfl rfl rfl) (by decide +kernel)
theorem d_Lw_mill_21 : decode method_15_code 21 = .ok (.iconst 0, 1) := zo_3 (zd_b zq_method_15_code_0 21 rfl rfl rfl)
theorem d_Lw_mill_22 : decode method_15_code 22 = .ok (.ireturn, 1) := zo_172 (zd_b zq_method_15_code_0 22 rfl rfl rfl)
set_option maxHeartbeats 4000000 in
set_option maxRecDepth 100000 in
theorem W_mill {g : zG} {ad : Nat → Nat} {t : zTT} {u : zNN} {w : zW} (hI : IVm g ad t u w) (m1 m2 m3 m4 : Int32) : zMB g M_Lw_mill [.ref (ad 0), .int m1, .int m2, .int m3, .int m4, .ref (ad 69)] w (fun o w1 => MKx g ad (tK_Ip_mill m1 m2 m3 m4 t) u.1 o w1) 10 300 := by
  obtain ⟨s, hI⟩ := hI
  obtain ⟨e_a, wf_a, k_a⟩ := hI.1.2 0 (by decide)
  obtain rfl := kd_0.mp k_a
  obtain ⟨e_o1, wf_o1, k_o1⟩ := hI.1.2 69 (by decide)
  obtain rfl := kd_69.mp k_o1
  refine y_ofH (by decide) (by decide) (Nat.le_of_ble_eq_true rfl) (y_base (cs := [((ad 0), .inr (11, [.ref (ad 1), .ref (ad 5), .ref (ad 18), .ref (ad 31), .ref (ad 32), .ref (ad 36), .ref (ad 42), .ref (ad 45), .ref (ad 47), .ref (ad 49), .ref (ad 50), .ref (ad 51)])), ((ad 69), .inl (3, 1, .inr (.inl (((mg t s).1 69).2.1))))]) (hI.1.I [0, 69] _ rfl (by decide) (by decide) (List.forall_mem_cons.mpr ⟨wf_a, (List.forall_mem_cons.mpr ⟨wf_o1, (fun _ h => nomatch h)⟩)⟩)) ?_)
  refine y_lvE (lv2 := [(0, .ref (ad 0)), (1, .int m1), (2, .int m2), (3, .int m3), (4, .int m4), (5, .ref (ad 69))]) rfl ?_
  refine y_aload d_Lw_mill_0 5 rfl ?_
  refine y_iconst d_Lw_mill_2 (v := 0) (by decide) ?_
  refine y_aload_n d_Lw_mill_3 rfl 0 rfl ?_
  refine y_iload_n d_Lw_mill_4 rfl 1 rfl ?_
  refine y_iload_n d_Lw_mill_5 rfl 2 rfl ?_
  refine y_iload_n d_Lw_mill_6 rfl 3 rfl ?_
  refine y_iload d_Lw_mill_7 4 rfl ?_
  refine yw_callVH (As := [.int m1, .int m2, .int m3, .int m4]) (rest := [.int 0, .ref (ad 69)]) (q0 := 0) rfl rfl ln_Lw_59 w_im_Ip_mill w_se_Ip_mill ok_Lw_mill_Ip_mill d_Lw_mill_9 (fun wA hA => K_Ip_mill ⟨_, (hI.gen (t2 := (mg t s)) (is := [0, 69]) (L2 := []) hA rfl ⟨kd_0.mpr rfl, kd_69.mpr rfl, trivial⟩ (by decide) (by decide) (fun _ h => nomatch h) (fun _ h => nomatch h) (fun _ _ _ => rfl) (fun h => h) rfl)⟩ m1 m2 m3 m4) rfl rfl (Nat.le_of_ble_eq_true rfl) (by omega) (by omega) (fun wA9 hA9 E wB9 hx => ?_) (fun wA9 hA9 v wB9 hx => ?_)
  · obtain ⟨h1, u2, hu, hI2⟩ := hx
    obtain rfl := List.mem_singleton.mp (zriE h1)
    refine ⟨"java/lang/IllegalArgumentException", [], [], (0, 14, 17, 13), rfl, (fun z hz => nomatch hz), by decide, by decide, lx_Lw_13, ce_13, fun qx => ?_⟩
    refine y_base (cs := []) (z_I.nil wB9) ?_
    refine y_astore (lv' := [(6, .ref qx), (0, .ref (ad 0)), (1, .int m1), (2, .int m2), (3, .int m3), (4, .int m4), (5, .ref (ad 69))]) d_Lw_mill_17 (by decide) rfl ?_
    refine y_iconst d_Lw_mill_19 (v := 1) (by decide) ?_
    refine y_iret d_Lw_mill_20 rfl rfl ?_
    exact fun w1 h1 => ⟨⟨_, rfl⟩, u2, hu, (z_I.same (z_I.nil _) h1).symm ▸ hI2⟩
  · obtain ⟨h1, u2, hu, hI2⟩ := hx
    obtain ⟨v9, rfl⟩ := zriV h1
    refine yw_st (st2 := [.int v9, .int 0, .ref (ad 69)]) rfl ?_
    obtain ⟨s9, hI⟩ := hI2
    obtain ⟨e_o1, wf_o1, k_o1⟩ := hI.1.2 69 (by decide)
    obtain rfl := kd_69.mp k_o1
    refine y_base (cs := [((ad 69), .inl (3, 1, .inr (.inl (((mg (tK_Ip_mill m1 m2 m3 m4 t) s9).1 69).2.1))))]) (hI.1.I [69] _ rfl (by decide) (by decide) (List.forall_mem_cons.mpr ⟨wf_o1, (fun _ h => nomatch h)⟩)) ?_
    refine y_i2l d_Lw_mill_12 (v := v9.toInt64) rfl ?_
    refine y_last d_Lw_mill_13 (q0 := 0) rfl (fun q => q.elim (by decide) (by decide)) (f' := vp_updL (((mg (tK_Ip_mill m1 m2 m3 m4 t) s9).1 69).2.1) 0 v9.toInt64) rfl (cs' := [((ad 69), .inl (3, 1, .inr (.inl (vp_updL (((mg (tK_Ip_mill m1 m2 m3 m4 t) s9).1 69).2.1) 0 v9.toInt64))))]) rfl ?_
    refine y_goto (tgt := 21) d_Lw_mill_14 (by decide) ?_
    refine y_iconst d_Lw_mill_21 (v := 0) (by decide) ?_
    refine y_iret d_Lw_mill_22 rfl rfl ?_
    exact fun w1 h1 => ⟨⟨_, rfl⟩, u2, hu, IVm.tz ((hI.gen (t2 := (zup (mg (tK_Ip_mill m1 m2 m3 m4 t) s9).1 [(69, (((mg (tK_Ip_mill m1 m2 m3 m4 t) s9).1 69).1, vp_updL (((mg (tK_Ip_mill m1 m2 m3 m4 t) s9).1 69).2.1) 0 v9.toInt64, ((mg (tK_Ip_mill m1 m2 m3 m4 t) s9).1 69).2.2))], (mg (tK_Ip_mill m1 m2 m3 m4 t) s9).2)) (is := [69]) (L2 := []) h1 rfl ⟨kd_69.mpr rfl, trivial⟩ (by decide) (by decide) (fun _ h => nomatch h) (fun _ h => nomatch h) (fun i hi hn => zup_out (fun q => hn ((by decide : ∀ j ∈ ([69] : List Nat), j ∈ ([69] : List Nat)) i q))) (fun h => h) rfl)) (tx_all rfl)⟩
abbrev M_Lw_sand : zM := (⟨"IronpourLaw", "sand", "(LIronpour;C[J)I"⟩, method_16_code, 4, (Option.some FieldType.int), 7, 121, [((0 : Nat), (9 : Nat), (12 : Nat), (13 : Nat))])
theorem d_Lw_sand_0 : decode method_16_code 0 = .ok (.aload_n 2, 1) := zo_44 (zd_b zq_method_16_code_0 0 rfl rfl rfl)
theorem d_Lw_sand_1 : decode method_16_code 1 = .ok (.iconst 0, 1) := zo_3 (zd_b zq_method_16_code_0 1 rfl rfl rfl)
theorem d_Lw_sand_2 : decode method_16_code 2 = .ok (.aload_n 0, 1) := zo_42 (zd_b zq_method_16_code_0 2 rfl rfl rfl)
theorem d_Lw_sand_3 : decode method_16_code 3 = .ok (.iload_n 1, 1) := zo_27 (zd_b zq_method_16_code_0 3 rfl rfl rfl)
theorem d_Lw_sand_4 : decode method_16_code 4 = .ok (.invokevirtual 62, 3) := zo_182 (d := 0) (e := 62) (zd_b zq_method_16_code_0 4 rfl rfl rfl) (zd_b zq_method_16_code_0 5 rfl rfl rfl) (zd_b zq_method_16_code_0 6 rfl rfl rfl)
theorem ok_Lw_sand_Ip_sand : z_okH M_Lw_sand M_Ip_sand 1 := ⟨z_mj4 (i := 195) rfl (by decide +kernel), rfl, ⟨by decide +kernel, by decide +kernel, by decide +kernel⟩, ⟨by decide, by decide⟩, z_mj1 (i := 1) rfl (by decide +kernel)⟩
theorem ln_Lw_62 : Cond.methodLink "IronpourLaw" 62 M_Ip_sand.1 ∈ z_gw := z_mj4 (i := 192) rfl (by decide +kernel)
theorem w_im_Ip_sand : Cond.instanceMethod M_Ip_sand.1 ∈ z_gw := z_mj4 (i := 193) rfl (by decide +kernel)
theorem w_se_Ip_sand : Cond.selects M_Ip_sand.1.cls M_Ip_sand.1 M_Ip_sand.1 ∈ z_gw := z_mj4 (i := 194) rfl (by decide +kernel)
theorem d_Lw_sand_12 : decode method_16_code 12 = .ok (.astore_n 3, 1) := zo_78 (zd_b zq_method_16_code_0 12 rfl rfl rfl)
theorem d_Lw_sand_13 : decode method_16_code 13 = .ok (.iconst 1, 1) := zo_4 (zd_b zq_method_16_code_0 13 rfl rfl rfl)
theorem d_Lw_sand_14 : decode method_16_code 14 = .ok (.ireturn, 1) := zo_172 (zd_b zq_method_16_code_0 14 rfl rfl rfl)
theorem d_Lw_sand_7 : decode method_16_code 7 = .ok (.i2l, 1) := zo_133 (zd_b zq_method_16_code_0 7 rfl rfl rfl)
theorem d_Lw_sand_8 : decode method_16_code 8 = .ok (.lastore, 1) := zo_80 (zd_b zq_method_16_code_0 8 rfl rfl rfl)
theorem d_Lw_sand_9 : decode method_16_code 9 = .ok (.goto 6, 3) := zo_167 (d := 0) (e := 6) (zd_b zq_method_16_code_0 9 rfl rfl rfl) (zd_b zq_method_16_code_0 10 rfl rfl rfl) (zd_b zq_method_16_code_0 11 rfl rfl rfl) (by decide +kernel)
theorem d_Lw_sand_15 : decode method_16_code 15 = .ok (.iconst 0, 1) := zo_3 (zd_b zq_method_16_code_0 15 rfl rfl rfl)
theorem d_Lw_sand_16 : decode method_16_code 16 = .ok (.ireturn, 1) := zo_172 (zd_b zq_method_16_code_0 16 rfl rfl rfl)
set_option maxHeartbeats 4000000 in
set_option maxRecDepth 100000 in
theorem W_sand {g : zG} {ad : Nat → Nat} {t : zTT} {u : zNN} {w : zW} (hI : IVm g ad t u w) (w9 : Int32) : zMB g M_Lw_sand [.ref (ad 0), .int w9, .ref (ad 69)] w (fun o w1 => MKx g ad t u.1 o w1) 10 300 := by
  obtain ⟨s, hI⟩ := hI
  obtain ⟨e_a, wf_a, k_a⟩ := hI.1.2 0 (by decide)
  obtain rfl := kd_0.mp k_a
  obtain ⟨e_o1, wf_o1, k_o1⟩ := hI.1.2 69 (by decide)
  obtain rfl := kd_69.mp k_o1
  refine y_ofH (by decide) (by decide) (Nat.le_of_ble_eq_true rfl) (y_base (cs := [((ad 0), .inr (11, [.ref (ad 1), .ref (ad 5), .ref (ad 18), .ref (ad 31), .ref (ad 32), .ref (ad 36), .ref (ad 42), .ref (ad 45), .ref (ad 47), .ref (ad 49), .ref (ad 50), .ref (ad 51)])), ((ad 69), .inl (3, 1, .inr (.inl (((mg t s).1 69).2.1))))]) (hI.1.I [0, 69] _ rfl (by decide) (by decide) (List.forall_mem_cons.mpr ⟨wf_a, (List.forall_mem_cons.mpr ⟨wf_o1, (fun _ h => nomatch h)⟩)⟩)) ?_)
  refine y_lvE (lv2 := [(0, .ref (ad 0)), (1, .int w9), (2, .ref (ad 69))]) rfl ?_
  refine y_aload_n d_Lw_sand_0 rfl 2 rfl ?_
  refine y_iconst d_Lw_sand_1 (v := 0) (by decide) ?_
  refine y_aload_n d_Lw_sand_2 rfl 0 rfl ?_
  refine y_iload_n d_Lw_sand_3 rfl 1 rfl ?_
  refine yw_callVH (As := [.int w9]) (rest := [.int 0, .ref (ad 69)]) (q0 := 0) rfl rfl ln_Lw_62 w_im_Ip_sand w_se_Ip_sand ok_Lw_sand_Ip_sand d_Lw_sand_4 (fun wA hA => K_Ip_sand ⟨_, (hI.gen (t2 := (mg t s)) (is := [0, 69]) (L2 := []) hA rfl ⟨kd_0.mpr rfl, kd_69.mpr rfl, trivial⟩ (by decide) (by decide) (fun _ h => nomatch h) (fun _ h => nomatch h) (fun _ _ _ => rfl) (fun h => h) rfl)⟩ w9) rfl rfl (Nat.le_of_ble_eq_true rfl) (by omega) (by omega) (fun wA4 hA4 E wB4 hx => ?_) (fun wA4 hA4 v wB4 hx => ?_)
  · obtain ⟨h1, u2, hu, hI2⟩ := hx
    obtain rfl := List.mem_singleton.mp (zriE h1)
    refine ⟨"java/lang/IllegalArgumentException", [], [], (0, 9, 12, 13), rfl, (fun z hz => nomatch hz), by decide, by decide, lx_Lw_13, ce_13, fun qx => ?_⟩
    refine y_base (cs := []) (z_I.nil wB4) ?_
    refine y_astore_n (lv' := [(3, .ref qx), (0, .ref (ad 0)), (1, .int w9), (2, .ref (ad 69))]) d_Lw_sand_12 rfl (by decide) rfl ?_
    refine y_iconst d_Lw_sand_13 (v := 1) (by decide) ?_
    refine y_iret d_Lw_sand_14 rfl rfl ?_
    exact fun w1 h1 => ⟨⟨_, rfl⟩, u2, hu, (z_I.same (z_I.nil _) h1).symm ▸ hI2⟩
  · obtain ⟨h1, u2, hu, hI2⟩ := hx
    obtain ⟨v9, rfl⟩ := zriV h1
    refine yw_st (st2 := [.int v9, .int 0, .ref (ad 69)]) rfl ?_
    obtain ⟨s9, hI⟩ := hI2
    obtain ⟨e_o1, wf_o1, k_o1⟩ := hI.1.2 69 (by decide)
    obtain rfl := kd_69.mp k_o1
    refine y_base (cs := [((ad 69), .inl (3, 1, .inr (.inl (((mg t s9).1 69).2.1))))]) (hI.1.I [69] _ rfl (by decide) (by decide) (List.forall_mem_cons.mpr ⟨wf_o1, (fun _ h => nomatch h)⟩)) ?_
    refine y_i2l d_Lw_sand_7 (v := v9.toInt64) rfl ?_
    refine y_last d_Lw_sand_8 (q0 := 0) rfl (fun q => q.elim (by decide) (by decide)) (f' := vp_updL (((mg t s9).1 69).2.1) 0 v9.toInt64) rfl (cs' := [((ad 69), .inl (3, 1, .inr (.inl (vp_updL (((mg t s9).1 69).2.1) 0 v9.toInt64))))]) rfl ?_
    refine y_goto (tgt := 15) d_Lw_sand_9 (by decide) ?_
    refine y_iconst d_Lw_sand_15 (v := 0) (by decide) ?_
    refine y_iret d_Lw_sand_16 rfl rfl ?_
    exact fun w1 h1 => ⟨⟨_, rfl⟩, u2, hu, IVm.tz ((hI.gen (t2 := (zup (mg t s9).1 [(69, (((mg t s9).1 69).1, vp_updL (((mg t s9).1 69).2.1) 0 v9.toInt64, ((mg t s9).1 69).2.2))], (mg t s9).2)) (is := [69]) (L2 := []) h1 rfl ⟨kd_69.mpr rfl, trivial⟩ (by decide) (by decide) (fun _ h => nomatch h) (fun _ h => nomatch h) (fun i hi hn => zup_out (fun q => hn ((by decide : ∀ j ∈ ([69] : List Nat), j ∈ ([69] : List Nat)) i q))) (fun h => h) rfl)) (tx_all rfl)⟩
abbrev M_Lw_makeCores : zM := (⟨"IronpourLaw", "makeCores", "(LIronpour;II[J)I"⟩, method_17_code, 5, (Option.some FieldType.int), 7, 122, [((0 : Nat), (10 : Nat), (13 : Nat), (13 : Nat)), ((0 : Nat), (10 : Nat), (17 : Nat), (69 : Nat))])
theorem d_Lw_makeCores_0 : decode method_17_code 0 = .ok (.aload_n 3, 1) := zo_45 (zd_b zq_method_17_code_0 0 rfl rfl rfl)
theorem d_Lw_makeCores_1 : decode method_17_code 1 = .ok (.iconst 0, 1) := zo_3 (zd_b zq_method_17_code_0 1 rfl rfl rfl)
theorem d_Lw_makeCores_2 : decode method_17_code 2 = .ok (.aload_n 0, 1) := zo_42 (zd_b zq_method_17_code_0 2 rfl rfl rfl)
theorem d_Lw_makeCores_3 : decode method_17_code 3 = .ok (.iload_n 1, 1) := zo_27 (zd_b zq_method_17_code_0 3 rfl rfl rfl)
theorem d_Lw_makeCores_4 : decode method_17_code 4 = .ok (.iload_n 2, 1) := zo_28 (zd_b zq_method_17_code_0 4 rfl rfl rfl)
theorem d_Lw_makeCores_5 : decode method_17_code 5 = .ok (.invokevirtual 66, 3) := zo_182 (d := 0) (e := 66) (zd_b zq_method_17_code_0 5 rfl rfl rfl) (zd_b zq_method_17_code_0 6 rfl rfl rfl) (zd_b zq_method_17_code_0 7 rfl rfl rfl)
theorem ok_Lw_makeCores_Ip_makeCores : z_okH M_Lw_makeCores M_Ip_makeCores 2 := ⟨z_mj4 (i := 208) rfl (by decide +kernel), rfl, ⟨by decide +kernel, by decide +kernel, by decide +kernel⟩, ⟨by decide, by decide⟩, z_mj1 (i := 1) rfl (by decide +kernel)⟩
theorem ln_Lw_66 : Cond.methodLink "IronpourLaw" 66 M_Ip_makeCores.1 ∈ z_gw := z_mj4 (i := 205) rfl (by decide +kernel)
theorem w_im_Ip_makeCores : Cond.instanceMethod M_Ip_makeCores.1 ∈ z_gw := z_mj4 (i := 206) rfl (by decide +kernel)
theorem w_se_Ip_makeCores : Cond.selects M_Ip_makeCores.1.cls M_Ip_makeCores.1 M_Ip_makeCores.1 ∈ z_gw := z_mj4 (i := 207) rfl (by decide +kernel)
theorem d_Lw_makeCores_13 : decode method_17_code 13 = .ok (.astore 4, 2) := zo_58 (d := 4) (zd_b zq_method_17_code_0 13 rfl rfl rfl) (zd_b zq_method_17_code_0 14 rfl rfl rfl)
theorem d_Lw_makeCores_15 : decode method_17_code 15 = .ok (.iconst 1, 1) := zo_4 (zd_b zq_method_17_code_0 15 rfl rfl rfl)
theorem d_Lw_makeCores_16 : decode method_17_code 16 = .ok (.ireturn, 1) := zo_172 (zd_b zq_method_17_code_0 16 rfl rfl rfl)
theorem ce_69 : Cond.castable "java/lang/IllegalStateException" "java/lang/IllegalStateException" ∈ z_nw := z_mk4 (i := 216) rfl (by decide +kernel)
theorem lx_Lw_69 : Cond.classLink "IronpourLaw" 69 "java/lang/IllegalStateException" ∈ z_gw := z_mj4 (i := 204) rfl (by decide +kernel)
theorem d_Lw_makeCores_17 : decode method_17_code 17 = .ok (.astore 4, 2) := zo_58 (d := 4) (zd_b zq_method_17_code_0 17 rfl rfl rfl) (zd_b zq_method_17_code_0 18 rfl rfl rfl)
theorem d_Lw_makeCores_19 : decode method_17_code 19 = .ok (.iconst 2, 1) := zo_5 (zd_b zq_method_17_code_0 19 rfl rfl rfl)
theorem d_Lw_makeCores_20 : decode method_17_code 20 = .ok (.ireturn, 1) := zo_172 (zd_b zq_method_17_code_0 20 rfl rfl rfl)
theorem d_Lw_makeCores_8 : decode method_17_code 8 = .ok (.i2l, 1) := zo_133 (zd_b zq_method_17_code_0 8 rfl rfl rfl)
theorem d_Lw_makeCores_9 : decode method_17_code 9 = .ok (.lastore, 1) := zo_80 (zd_b zq_method_17_code_0 9 rfl rfl rfl)
theorem d_Lw_makeCores_10 : decode method_17_code 10 = .ok (.goto 11, 3) := zo_167 (d := 0) (e := 11) (zd_b zq_method_17_code_0 10 rfl rfl rfl) (zd_b zq_method_17_code_0 11 rfl rfl rfl) (zd_b zq_method_17_code_0 12 rfl rfl rfl) (by decide +kernel)
theorem d_Lw_makeCores_21 : decode method_17_code 21 = .ok (.iconst 0, 1) := zo_3 (zd_b zq_method_17_code_0 21 rfl rfl rfl)
theorem d_Lw_makeCores_22 : decode method_17_code 22 = .ok (.ireturn, 1) := zo_172 (zd_b zq_method_17_code_0 22 rfl rfl rfl)
set_option maxHeartbeats 4000000 in
set_option maxRecDepth 100000 in
theorem W_makeCores {g : zG} {ad : Nat → Nat} {t : zTT} {u : zNN} {w : zW} (hI : IVm g ad t u w) (c k : Int32) : zMB g M_Lw_makeCores [.ref (ad 0), .int c, .int k, .ref (ad 69)] w (fun o w1 => MKx g ad (tK_Ip_makeCores c k t) u.1 o w1) 10 300 := by
  obtain ⟨s, hI⟩ := hI
  obtain ⟨e_a, wf_a, k_a⟩ := hI.1.2 0 (by decide)
  obtain rfl := kd_0.mp k_a
  obtain ⟨e_o1, wf_o1, k_o1⟩ := hI.1.2 69 (by decide)
  obtain rfl := kd_69.mp k_o1
  refine y_ofH (by decide) (by decide) (Nat.le_of_ble_eq_true rfl) (y_base (cs := [((ad 0), .inr (11, [.ref (ad 1), .ref (ad 5), .ref (ad 18), .ref (ad 31), .ref (ad 32), .ref (ad 36), .ref (ad 42), .ref (ad 45), .ref (ad 47), .ref (ad 49), .ref (ad 50), .ref (ad 51)])), ((ad 69), .inl (3, 1, .inr (.inl (((mg t s).1 69).2.1))))]) (hI.1.I [0, 69] _ rfl (by decide) (by decide) (List.forall_mem_cons.mpr ⟨wf_a, (List.forall_mem_cons.mpr ⟨wf_o1, (fun _ h => nomatch h)⟩)⟩)) ?_)
  refine y_lvE (lv2 := [(0, .ref (ad 0)), (1, .int c), (2, .int k), (3, .ref (ad 69))]) rfl ?_
  refine y_aload_n d_Lw_makeCores_0 rfl 3 rfl ?_
  refine y_iconst d_Lw_makeCores_1 (v := 0) (by decide) ?_
  refine y_aload_n d_Lw_makeCores_2 rfl 0 rfl ?_
  refine y_iload_n d_Lw_makeCores_3 rfl 1 rfl ?_
  refine y_iload_n d_Lw_makeCores_4 rfl 2 rfl ?_
  refine yw_callVH (As := [.int c, .int k]) (rest := [.int 0, .ref (ad 69)]) (q0 := 0) rfl rfl ln_Lw_66 w_im_Ip_makeCores w_se_Ip_makeCores ok_Lw_makeCores_Ip_makeCores d_Lw_makeCores_5 (fun wA hA => K_Ip_makeCores ⟨_, (hI.gen (t2 := (mg t s)) (is := [0, 69]) (L2 := []) hA rfl ⟨kd_0.mpr rfl, kd_69.mpr rfl, trivial⟩ (by decide) (by decide) (fun _ h => nomatch h) (fun _ h => nomatch h) (fun _ _ _ => rfl) (fun h => h) rfl)⟩ c k) rfl rfl (Nat.le_of_ble_eq_true rfl) (by omega) (by omega) (fun wA5 hA5 E wB5 hx => ?_) (fun wA5 hA5 v wB5 hx => ?_)
  · obtain ⟨h1, u2, hu, hI2⟩ := hx
    rcases List.mem_cons.mp (zriE h1) with rfl | g2
    · refine ⟨"java/lang/IllegalArgumentException", [], [(0, 10, 17, 69)], (0, 10, 13, 13), rfl, (fun z hz => nomatch hz), by decide, by decide, lx_Lw_13, ce_13, fun qx => ?_⟩
      refine y_base (cs := []) (z_I.nil wB5) ?_
      refine y_astore (lv' := [(4, .ref qx), (0, .ref (ad 0)), (1, .int c), (2, .int k), (3, .ref (ad 69))]) d_Lw_makeCores_13 (by decide) rfl ?_
      refine y_iconst d_Lw_makeCores_15 (v := 1) (by decide) ?_
      refine y_iret d_Lw_makeCores_16 rfl rfl ?_
      exact fun w1 h1 => ⟨⟨_, rfl⟩, u2, hu, (z_I.same (z_I.nil _) h1).symm ▸ hI2⟩
    · obtain rfl := List.mem_singleton.mp g2
      refine ⟨"java/lang/IllegalStateException", [(0, 10, 13, 13)], [], (0, 10, 17, 69), rfl, (fun z hz => by simp only [List.mem_cons, List.not_mem_nil, or_false] at hz; rcases hz with rfl; exact Or.inr ⟨by decide, _, lx_Lw_13, by decide⟩), by decide, by decide, lx_Lw_69, ce_69, fun qx => ?_⟩
      refine y_base (cs := []) (z_I.nil wB5) ?_
      refine y_astore (lv' := [(4, .ref qx), (0, .ref (ad 0)), (1, .int c), (2, .int k), (3, .ref (ad 69))]) d_Lw_makeCores_17 (by decide) rfl ?_
      refine y_iconst d_Lw_makeCores_19 (v := 2) (by decide) ?_
      refine y_iret d_Lw_makeCores_20 rfl rfl ?_
      exact fun w1 h1 => ⟨⟨_, rfl⟩, u2, hu, (z_I.same (z_I.nil _) h1).symm ▸ hI2⟩
  · obtain ⟨h1, u2, hu, hI2⟩ := hx
    obtain ⟨v9, rfl⟩ := zriV h1
    refine yw_st (st2 := [.int v9, .int 0, .ref (ad 69)]) rfl ?_
    obtain ⟨s9, hI⟩ := hI2
    obtain ⟨e_o1, wf_o1, k_o1⟩ := hI.1.2 69 (by decide)
    obtain rfl := kd_69.mp k_o1
    refine y_base (cs := [((ad 69), .inl (3, 1, .inr (.inl (((mg (tK_Ip_makeCores c k t) s9).1 69).2.1))))]) (hI.1.I [69] _ rfl (by decide) (by decide) (List.forall_mem_cons.mpr ⟨wf_o1, (fun _ h => nomatch h)⟩)) ?_
    refine y_i2l d_Lw_makeCores_8 (v := v9.toInt64) rfl ?_
    refine y_last d_Lw_makeCores_9 (q0 := 0) rfl (fun q => q.elim (by decide) (by decide)) (f' := vp_updL (((mg (tK_Ip_makeCores c k t) s9).1 69).2.1) 0 v9.toInt64) rfl (cs' := [((ad 69), .inl (3, 1, .inr (.inl (vp_updL (((mg (tK_Ip_makeCores c k t) s9).1 69).2.1) 0 v9.toInt64))))]) rfl ?_
    refine y_goto (tgt := 21) d_Lw_makeCores_10 (by decide) ?_
    refine y_iconst d_Lw_makeCores_21 (v := 0) (by decide) ?_
    refine y_iret d_Lw_makeCores_22 rfl rfl ?_
    exact fun w1 h1 => ⟨⟨_, rfl⟩, u2, hu, IVm.tz ((hI.gen (t2 := (zup (mg (tK_Ip_makeCores c k t) s9).1 [(69, (((mg (tK_Ip_makeCores c k t) s9).1 69).1, vp_updL (((mg (tK_Ip_makeCores c k t) s9).1 69).2.1) 0 v9.toInt64, ((mg (tK_Ip_makeCores c k t) s9).1 69).2.2))], (mg (tK_Ip_makeCores c k t) s9).2)) (is := [69]) (L2 := []) h1 rfl ⟨kd_69.mpr rfl, trivial⟩ (by decide) (by decide) (fun _ h => nomatch h) (fun _ h => nomatch h) (fun i hi hn => zup_out (fun q => hn ((by decide : ∀ j ∈ ([69] : List Nat), j ∈ ([69] : List Nat)) i q))) (fun h => h) rfl)) (tx_all rfl)⟩
abbrev M_Lw_hours : zM := (⟨"IronpourLaw", "hours", "(LIronpour;I[J)I"⟩, method_18_code, 4, (Option.some FieldType.int), 7, 121, [((0 : Nat), (9 : Nat), (12 : Nat), (13 : Nat))])
theorem d_Lw_hours_0 : decode method_18_code 0 = .ok (.aload_n 2, 1) := zo_44 (zd_b zq_method_18_code_0 0 rfl rfl rfl)
theorem d_Lw_hours_1 : decode method_18_code 1 = .ok (.iconst 0, 1) := zo_3 (zd_b zq_method_18_code_0 1 rfl rfl rfl)
theorem d_Lw_hours_2 : decode method_18_code 2 = .ok (.aload_n 0, 1) := zo_42 (zd_b zq_method_18_code_0 2 rfl rfl rfl)
theorem d_Lw_hours_3 : decode method_18_code 3 = .ok (.iload_n 1, 1) := zo_27 (zd_b zq_method_18_code_0 3 rfl rfl rfl)
theorem d_Lw_hours_4 : decode method_18_code 4 = .ok (.invokevirtual 71, 3) := zo_182 (d := 0) (e := 71) (zd_b zq_method_18_code_0 4 rfl rfl rfl) (zd_b zq_method_18_code_0 5 rfl rfl rfl) (zd_b zq_method_18_code_0 6 rfl rfl rfl)
theorem ok_Lw_hours_Ip_hours : z_okH M_Lw_hours M_Ip_hours 1 := ⟨z_mj5 (i := 4) rfl (by decide +kernel), rfl, ⟨by decide +kernel, by decide +kernel, by decide +kernel⟩, ⟨by decide, by decide⟩, z_mj1 (i := 1) rfl (by decide +kernel)⟩
theorem ln_Lw_71 : Cond.methodLink "IronpourLaw" 71 M_Ip_hours.1 ∈ z_gw := z_mj5 (i := 1) rfl (by decide +kernel)
theorem w_im_Ip_hours : Cond.instanceMethod M_Ip_hours.1 ∈ z_gw := z_mj5 (i := 2) rfl (by decide +kernel)
theorem w_se_Ip_hours : Cond.selects M_Ip_hours.1.cls M_Ip_hours.1 M_Ip_hours.1 ∈ z_gw := z_mj5 (i := 3) rfl (by decide +kernel)
theorem d_Lw_hours_12 : decode method_18_code 12 = .ok (.astore_n 3, 1) := zo_78 (zd_b zq_method_18_code_0 12 rfl rfl rfl)
theorem d_Lw_hours_13 : decode method_18_code 13 = .ok (.iconst 1, 1) := zo_4 (zd_b zq_method_18_code_0 13 rfl rfl rfl)
theorem d_Lw_hours_14 : decode method_18_code 14 = .ok (.ireturn, 1) := zo_172 (zd_b zq_method_18_code_0 14 rfl rfl rfl)
theorem d_Lw_hours_7 : decode method_18_code 7 = .ok (.i2l, 1) := zo_133 (zd_b zq_method_18_code_0 7 rfl rfl rfl)
theorem d_Lw_hours_8 : decode method_18_code 8 = .ok (.lastore, 1) := zo_80 (zd_b zq_method_18_code_0 8 rfl rfl rfl)
theorem d_Lw_hours_9 : decode method_18_code 9 = .ok (.goto 6, 3) := zo_167 (d := 0) (e := 6) (zd_b zq_method_18_code_0 9 rfl rfl rfl) (zd_b zq_method_18_code_0 10 rfl rfl rfl) (zd_b zq_method_18_code_0 11 rfl rfl rfl) (by decide +kernel)
theorem d_Lw_hours_15 : decode method_18_code 15 = .ok (.iconst 0, 1) := zo_3 (zd_b zq_method_18_code_0 15 rfl rfl rfl)
theorem d_Lw_hours_16 : decode method_18_code 16 = .ok (.ireturn, 1) := zo_172 (zd_b zq_method_18_code_0 16 rfl rfl rfl)
set_option maxHeartbeats 4000000 in
set_option maxRecDepth 100000 in
theorem W_hours {g : zG} {ad : Nat → Nat} {t : zTT} {u : zNN} {w : zW} (hI : IVm g ad t u w) (h : Int32) : zMB g M_Lw_hours [.ref (ad 0), .int h, .ref (ad 69)] w (fun o w1 => MKx g ad (tK_Ip_hours h t) u.1 o w1) 10 300 := by
  obtain ⟨s, hI⟩ := hI
  obtain ⟨e_a, wf_a, k_a⟩ := hI.1.2 0 (by decide)
  obtain rfl := kd_0.mp k_a
  obtain ⟨e_o1, wf_o1, k_o1⟩ := hI.1.2 69 (by decide)
  obtain rfl := kd_69.mp k_o1
  refine y_ofH (by decide) (by decide) (Nat.le_of_ble_eq_true rfl) (y_base (cs := [((ad 0), .inr (11, [.ref (ad 1), .ref (ad 5), .ref (ad 18), .ref (ad 31), .ref (ad 32), .ref (ad 36), .ref (ad 42), .ref (ad 45), .ref (ad 47), .ref (ad 49), .ref (ad 50), .ref (ad 51)])), ((ad 69), .inl (3, 1, .inr (.inl (((mg t s).1 69).2.1))))]) (hI.1.I [0, 69] _ rfl (by decide) (by decide) (List.forall_mem_cons.mpr ⟨wf_a, (List.forall_mem_cons.mpr ⟨wf_o1, (fun _ h => nomatch h)⟩)⟩)) ?_)
  refine y_lvE (lv2 := [(0, .ref (ad 0)), (1, .int h), (2, .ref (ad 69))]) rfl ?_
  refine y_aload_n d_Lw_hours_0 rfl 2 rfl ?_
  refine y_iconst d_Lw_hours_1 (v := 0) (by decide) ?_
  refine y_aload_n d_Lw_hours_2 rfl 0 rfl ?_
  refine y_iload_n d_Lw_hours_3 rfl 1 rfl ?_
  refine yw_callVH (As := [.int h]) (rest := [.int 0, .ref (ad 69)]) (q0 := 0) rfl rfl ln_Lw_71 w_im_Ip_hours w_se_Ip_hours ok_Lw_hours_Ip_hours d_Lw_hours_4 (fun wA hA => K_Ip_hours ⟨_, (hI.gen (t2 := (mg t s)) (is := [0, 69]) (L2 := []) hA rfl ⟨kd_0.mpr rfl, kd_69.mpr rfl, trivial⟩ (by decide) (by decide) (fun _ h => nomatch h) (fun _ h => nomatch h) (fun _ _ _ => rfl) (fun h => h) rfl)⟩ h) rfl rfl (Nat.le_of_ble_eq_true rfl) (by omega) (by omega) (fun wA4 hA4 E wB4 hx => ?_) (fun wA4 hA4 v wB4 hx => ?_)
  · obtain ⟨h1, u2, hu, hI2⟩ := hx
    obtain rfl := List.mem_singleton.mp (zriE h1)
    refine ⟨"java/lang/IllegalArgumentException", [], [], (0, 9, 12, 13), rfl, (fun z hz => nomatch hz), by decide, by decide, lx_Lw_13, ce_13, fun qx => ?_⟩
    refine y_base (cs := []) (z_I.nil wB4) ?_
    refine y_astore_n (lv' := [(3, .ref qx), (0, .ref (ad 0)), (1, .int h), (2, .ref (ad 69))]) d_Lw_hours_12 rfl (by decide) rfl ?_
    refine y_iconst d_Lw_hours_13 (v := 1) (by decide) ?_
    refine y_iret d_Lw_hours_14 rfl rfl ?_
    exact fun w1 h1 => ⟨⟨_, rfl⟩, u2, hu, (z_I.same (z_I.nil _) h1).symm ▸ hI2⟩
  · obtain ⟨h1, u2, hu, hI2⟩ := hx
    obtain ⟨v9, rfl⟩ := zriV h1
    refine yw_st (st2 := [.int v9, .int 0, .ref (ad 69)]) rfl ?_
    obtain ⟨s9, hI⟩ := hI2
    obtain ⟨e_o1, wf_o1, k_o1⟩ := hI.1.2 69 (by decide)
    obtain rfl := kd_69.mp k_o1
    refine y_base (cs := [((ad 69), .inl (3, 1, .inr (.inl (((mg (tK_Ip_hours h t) s9).1 69).2.1))))]) (hI.1.I [69] _ rfl (by decide) (by decide) (List.forall_mem_cons.mpr ⟨wf_o1, (fun _ h => nomatch h)⟩)) ?_
    refine y_i2l d_Lw_hours_7 (v := v9.toInt64) rfl ?_
    refine y_last d_Lw_hours_8 (q0 := 0) rfl (fun q => q.elim (by decide) (by decide)) (f' := vp_updL (((mg (tK_Ip_hours h t) s9).1 69).2.1) 0 v9.toInt64) rfl (cs' := [((ad 69), .inl (3, 1, .inr (.inl (vp_updL (((mg (tK_Ip_hours h t) s9).1 69).2.1) 0 v9.toInt64))))]) rfl ?_
    refine y_goto (tgt := 15) d_Lw_hours_9 (by decide) ?_
    refine y_iconst d_Lw_hours_15 (v := 0) (by decide) ?_
    refine y_iret d_Lw_hours_16 rfl rfl ?_
    exact fun w1 h1 => ⟨⟨_, rfl⟩, u2, hu, IVm.tz ((hI.gen (t2 := (zup (mg (tK_Ip_hours h t) s9).1 [(69, (((mg (tK_Ip_hours h t) s9).1 69).1, vp_updL (((mg (tK_Ip_hours h t) s9).1 69).2.1) 0 v9.toInt64, ((mg (tK_Ip_hours h t) s9).1 69).2.2))], (mg (tK_Ip_hours h t) s9).2)) (is := [69]) (L2 := []) h1 rfl ⟨kd_69.mpr rfl, trivial⟩ (by decide) (by decide) (fun _ h => nomatch h) (fun _ h => nomatch h) (fun i hi hn => zup_out (fun q => hn ((by decide : ∀ j ∈ ([69] : List Nat), j ∈ ([69] : List Nat)) i q))) (fun h => h) rfl)) (tx_all rfl)⟩
abbrev M_Lw_charge : zM := (⟨"IronpourLaw", "charge", "(LIronpour;CI[J)I"⟩, method_19_code, 5, (Option.some FieldType.int), 9, 203, [((0 : Nat), (10 : Nat), (13 : Nat), (13 : Nat)), ((0 : Nat), (10 : Nat), (17 : Nat), (78 : Nat)), ((0 : Nat), (10 : Nat), (21 : Nat), (69 : Nat))])
theorem d_Lw_charge_0 : decode method_19_code 0 = .ok (.aload_n 3, 1) := zo_45 (zd_b zq_method_19_code_0 0 rfl rfl rfl)
theorem d_Lw_charge_1 : decode method_19_code 1 = .ok (.iconst 0, 1) := zo_3 (zd_b zq_method_19_code_0 1 rfl rfl rfl)
theorem d_Lw_charge_2 : decode method_19_code 2 = .ok (.aload_n 0, 1) := zo_42 (zd_b zq_method_19_code_0 2 rfl rfl rfl)
theorem d_Lw_charge_3 : decode method_19_code 3 = .ok (.iload_n 1, 1) := zo_27 (zd_b zq_method_19_code_0 3 rfl rfl rfl)
theorem d_Lw_charge_4 : decode method_19_code 4 = .ok (.iload_n 2, 1) := zo_28 (zd_b zq_method_19_code_0 4 rfl rfl rfl)
theorem d_Lw_charge_5 : decode method_19_code 5 = .ok (.invokevirtual 74, 3) := zo_182 (d := 0) (e := 74) (zd_b zq_method_19_code_0 5 rfl rfl rfl) (zd_b zq_method_19_code_0 6 rfl rfl rfl) (zd_b zq_method_19_code_0 7 rfl rfl rfl)
theorem ok_Lw_charge_Ip_charge : z_okH M_Lw_charge M_Ip_charge 2 := ⟨z_mj5 (i := 21) rfl (by decide +kernel), rfl, ⟨by decide +kernel, by decide +kernel, by decide +kernel⟩, ⟨by decide, by decide⟩, z_mj1 (i := 1) rfl (by decide +kernel)⟩
theorem ln_Lw_74 : Cond.methodLink "IronpourLaw" 74 M_Ip_charge.1 ∈ z_gw := z_mj5 (i := 18) rfl (by decide +kernel)
theorem w_im_Ip_charge : Cond.instanceMethod M_Ip_charge.1 ∈ z_gw := z_mj5 (i := 19) rfl (by decide +kernel)
theorem w_se_Ip_charge : Cond.selects M_Ip_charge.1.cls M_Ip_charge.1 M_Ip_charge.1 ∈ z_gw := z_mj5 (i := 20) rfl (by decide +kernel)
theorem d_Lw_charge_13 : decode method_19_code 13 = .ok (.astore 4, 2) := zo_58 (d := 4) (zd_b zq_method_19_code_0 13 rfl rfl rfl) (zd_b zq_method_19_code_0 14 rfl rfl rfl)
theorem d_Lw_charge_15 : decode method_19_code 15 = .ok (.iconst 1, 1) := zo_4 (zd_b zq_method_19_code_0 15 rfl rfl rfl)
theorem d_Lw_charge_16 : decode method_19_code 16 = .ok (.ireturn, 1) := zo_172 (zd_b zq_method_19_code_0 16 rfl rfl rfl)
theorem ce_78 : Cond.castable "java/lang/UnsupportedOperationException" "java/lang/UnsupportedOperationException" ∈ z_nw := z_mk5 (i := 30) rfl (by decide +kernel)
theorem lx_Lw_78 : Cond.classLink "IronpourLaw" 78 "java/lang/UnsupportedOperationException" ∈ z_gw := z_mj5 (i := 17) rfl (by decide +kernel)
theorem d_Lw_charge_17 : decode method_19_code 17 = .ok (.astore 4, 2) := zo_58 (d := 4) (zd_b zq_method_19_code_0 17 rfl rfl rfl) (zd_b zq_method_19_code_0 18 rfl rfl rfl)
theorem d_Lw_charge_19 : decode method_19_code 19 = .ok (.iconst 2, 1) := zo_5 (zd_b zq_method_19_code_0 19 rfl rfl rfl)
theorem d_Lw_charge_20 : decode method_19_code 20 = .ok (.ireturn, 1) := zo_172 (zd_b zq_method_19_code_0 20 rfl rfl rfl)
theorem d_Lw_charge_21 : decode method_19_code 21 = .ok (.astore 4, 2) := zo_58 (d := 4) (zd_b zq_method_19_code_0 21 rfl rfl rfl) (zd_b zq_method_19_code_0 22 rfl rfl rfl)
theorem d_Lw_charge_23 : decode method_19_code 23 = .ok (.iconst 3, 1) := zo_6 (zd_b zq_method_19_code_0 23 rfl rfl rfl)
theorem d_Lw_charge_24 : decode method_19_code 24 = .ok (.ireturn, 1) := zo_172 (zd_b zq_method_19_code_0 24 rfl rfl rfl)
theorem d_Lw_charge_8 : decode method_19_code 8 = .ok (.i2l, 1) := zo_133 (zd_b zq_method_19_code_0 8 rfl rfl rfl)
theorem d_Lw_charge_9 : decode method_19_code 9 = .ok (.lastore, 1) := zo_80 (zd_b zq_method_19_code_0 9 rfl rfl rfl)
theorem d_Lw_charge_10 : decode method_19_code 10 = .ok (.goto 15, 3) := zo_167 (d := 0) (e := 15) (zd_b zq_method_19_code_0 10 rfl rfl rfl) (zd_b zq_method_19_code_0 11 rfl rfl rfl) (zd_b zq_method_19_code_0 12 rfl rfl rfl) (by decide +kernel)
theorem d_Lw_charge_25 : decode method_19_code 25 = .ok (.iconst 0, 1) := zo_3 (zd_b zq_method_19_code_0 25 rfl rfl rfl)
theorem d_Lw_charge_26 : decode method_19_code 26 = .ok (.ireturn, 1) := zo_172 (zd_b zq_method_19_code_0 26 rfl rfl rfl)
set_option maxHeartbeats 4000000 in
set_option maxRecDepth 100000 in
theorem W_charge {g : zG} {ad : Nat → Nat} {t : zTT} {u : zNN} {w : zW} (hI : IVm g ad t u w) (k m : Int32) : zMB g M_Lw_charge [.ref (ad 0), .int k, .int m, .ref (ad 69)] w (fun o w1 => MKx g ad (tK_Ip_charge k m t) u.1 o w1) 10 300 := by
  obtain ⟨s, hI⟩ := hI
  obtain ⟨e_a, wf_a, k_a⟩ := hI.1.2 0 (by decide)
  obtain rfl := kd_0.mp k_a
  obtain ⟨e_o1, wf_o1, k_o1⟩ := hI.1.2 69 (by decide)
  obtain rfl := kd_69.mp k_o1
  refine y_ofH (by decide) (by decide) (Nat.le_of_ble_eq_true rfl) (y_base (cs := [((ad 0), .inr (11, [.ref (ad 1), .ref (ad 5), .ref (ad 18), .ref (ad 31), .ref (ad 32), .ref (ad 36), .ref (ad 42), .ref (ad 45), .ref (ad 47), .ref (ad 49), .ref (ad 50), .ref (ad 51)])), ((ad 69), .inl (3, 1, .inr (.inl (((mg t s).1 69).2.1))))]) (hI.1.I [0, 69] _ rfl (by decide) (by decide) (List.forall_mem_cons.mpr ⟨wf_a, (List.forall_mem_cons.mpr ⟨wf_o1, (fun _ h => nomatch h)⟩)⟩)) ?_)
  refine y_lvE (lv2 := [(0, .ref (ad 0)), (1, .int k), (2, .int m), (3, .ref (ad 69))]) rfl ?_
  refine y_aload_n d_Lw_charge_0 rfl 3 rfl ?_
  refine y_iconst d_Lw_charge_1 (v := 0) (by decide) ?_
  refine y_aload_n d_Lw_charge_2 rfl 0 rfl ?_
  refine y_iload_n d_Lw_charge_3 rfl 1 rfl ?_
  refine y_iload_n d_Lw_charge_4 rfl 2 rfl ?_
  refine yw_callVH (As := [.int k, .int m]) (rest := [.int 0, .ref (ad 69)]) (q0 := 0) rfl rfl ln_Lw_74 w_im_Ip_charge w_se_Ip_charge ok_Lw_charge_Ip_charge d_Lw_charge_5 (fun wA hA => K_Ip_charge ⟨_, (hI.gen (t2 := (mg t s)) (is := [0, 69]) (L2 := []) hA rfl ⟨kd_0.mpr rfl, kd_69.mpr rfl, trivial⟩ (by decide) (by decide) (fun _ h => nomatch h) (fun _ h => nomatch h) (fun _ _ _ => rfl) (fun h => h) rfl)⟩ k m) rfl rfl (Nat.le_of_ble_eq_true rfl) (by omega) (by omega) (fun wA5 hA5 E wB5 hx => ?_) (fun wA5 hA5 v wB5 hx => ?_)
  · obtain ⟨h1, u2, hu, hI2⟩ := hx
    rcases List.mem_cons.mp (zriE h1) with rfl | g3
    · refine ⟨"java/lang/IllegalArgumentException", [], [(0, 10, 17, 78), (0, 10, 21, 69)], (0, 10, 13, 13), rfl, (fun z hz => nomatch hz), by decide, by decide, lx_Lw_13, ce_13, fun qx => ?_⟩
      refine y_base (cs := []) (z_I.nil wB5) ?_
      refine y_astore (lv' := [(4, .ref qx), (0, .ref (ad 0)), (1, .int k), (2, .int m), (3, .ref (ad 69))]) d_Lw_charge_13 (by decide) rfl ?_
      refine y_iconst d_Lw_charge_15 (v := 1) (by decide) ?_
      refine y_iret d_Lw_charge_16 rfl rfl ?_
      exact fun w1 h1 => ⟨⟨_, rfl⟩, u2, hu, (z_I.same (z_I.nil _) h1).symm ▸ hI2⟩
    · rcases List.mem_cons.mp g3 with rfl | g2
      · refine ⟨"java/lang/UnsupportedOperationException", [(0, 10, 13, 13)], [(0, 10, 21, 69)], (0, 10, 17, 78), rfl, (fun z hz => by simp only [List.mem_cons, List.not_mem_nil, or_false] at hz; rcases hz with rfl; exact Or.inr ⟨by decide, _, lx_Lw_13, by decide⟩), by decide, by decide, lx_Lw_78, ce_78, fun qx => ?_⟩
        refine y_base (cs := []) (z_I.nil wB5) ?_
        refine y_astore (lv' := [(4, .ref qx), (0, .ref (ad 0)), (1, .int k), (2, .int m), (3, .ref (ad 69))]) d_Lw_charge_17 (by decide) rfl ?_
        refine y_iconst d_Lw_charge_19 (v := 2) (by decide) ?_
        refine y_iret d_Lw_charge_20 rfl rfl ?_
        exact fun w1 h1 => ⟨⟨_, rfl⟩, u2, hu, (z_I.same (z_I.nil _) h1).symm ▸ hI2⟩
      · obtain rfl := List.mem_singleton.mp g2
        refine ⟨"java/lang/IllegalStateException", [(0, 10, 13, 13), (0, 10, 17, 78)], [], (0, 10, 21, 69), rfl, (fun z hz => by simp only [List.mem_cons, List.not_mem_nil, or_false] at hz; rcases hz with rfl | rfl <;> first | exact Or.inr ⟨by decide, _, lx_Lw_13, by decide⟩ | exact Or.inr ⟨by decide, _, lx_Lw_78, by decide⟩), by decide, by decide, lx_Lw_69, ce_69, fun qx => ?_⟩
        refine y_base (cs := []) (z_I.nil wB5) ?_
        refine y_astore (lv' := [(4, .ref qx), (0, .ref (ad 0)), (1, .int k), (2, .int m), (3, .ref (ad 69))]) d_Lw_charge_21 (by decide) rfl ?_
        refine y_iconst d_Lw_charge_23 (v := 3) (by decide) ?_
        refine y_iret d_Lw_charge_24 rfl rfl ?_
        exact fun w1 h1 => ⟨⟨_, rfl⟩, u2, hu, (z_I.same (z_I.nil _) h1).symm ▸ hI2⟩
  · obtain ⟨h1, u2, hu, hI2⟩ := hx
    obtain ⟨v9, rfl⟩ := zriV h1
    refine yw_st (st2 := [.int v9, .int 0, .ref (ad 69)]) rfl ?_
    obtain ⟨s9, hI⟩ := hI2
    obtain ⟨e_o1, wf_o1, k_o1⟩ := hI.1.2 69 (by decide)
    obtain rfl := kd_69.mp k_o1
    refine y_base (cs := [((ad 69), .inl (3, 1, .inr (.inl (((mg (tK_Ip_charge k m t) s9).1 69).2.1))))]) (hI.1.I [69] _ rfl (by decide) (by decide) (List.forall_mem_cons.mpr ⟨wf_o1, (fun _ h => nomatch h)⟩)) ?_
    refine y_i2l d_Lw_charge_8 (v := v9.toInt64) rfl ?_
    refine y_last d_Lw_charge_9 (q0 := 0) rfl (fun q => q.elim (by decide) (by decide)) (f' := vp_updL (((mg (tK_Ip_charge k m t) s9).1 69).2.1) 0 v9.toInt64) rfl (cs' := [((ad 69), .inl (3, 1, .inr (.inl (vp_updL (((mg (tK_Ip_charge k m t) s9).1 69).2.1) 0 v9.toInt64))))]) rfl ?_
    refine y_goto (tgt := 25) d_Lw_charge_10 (by decide) ?_
    refine y_iconst d_Lw_charge_25 (v := 0) (by decide) ?_
    refine y_iret d_Lw_charge_26 rfl rfl ?_
    exact fun w1 h1 => ⟨⟨_, rfl⟩, u2, hu, IVm.tz ((hI.gen (t2 := (zup (mg (tK_Ip_charge k m t) s9).1 [(69, (((mg (tK_Ip_charge k m t) s9).1 69).1, vp_updL (((mg (tK_Ip_charge k m t) s9).1 69).2.1) 0 v9.toInt64, ((mg (tK_Ip_charge k m t) s9).1 69).2.2))], (mg (tK_Ip_charge k m t) s9).2)) (is := [69]) (L2 := []) h1 rfl ⟨kd_69.mpr rfl, trivial⟩ (by decide) (by decide) (fun _ h => nomatch h) (fun _ h => nomatch h) (fun i hi hn => zup_out (fun q => hn ((by decide : ∀ j ∈ ([69] : List Nat), j ∈ ([69] : List Nat)) i q))) (fun h => h) rfl)) (tx_all rfl)⟩
abbrev M_Lw_furnace : zM := (⟨"IronpourLaw", "furnace", "(LIronpour;C[J)I"⟩, method_20_code, 4, (Option.some FieldType.int), 10, 222, [((0 : Nat), (9 : Nat), (12 : Nat), (13 : Nat)), ((0 : Nat), (9 : Nat), (15 : Nat), (33 : Nat))])
theorem d_Lw_furnace_0 : decode method_20_code 0 = .ok (.aload_n 2, 1) := zo_44 (zd_b zq_method_20_code_0 0 rfl rfl rfl)
theorem d_Lw_furnace_1 : decode method_20_code 1 = .ok (.iconst 0, 1) := zo_3 (zd_b zq_method_20_code_0 1 rfl rfl rfl)
theorem d_Lw_furnace_2 : decode method_20_code 2 = .ok (.aload_n 0, 1) := zo_42 (zd_b zq_method_20_code_0 2 rfl rfl rfl)
theorem d_Lw_furnace_3 : decode method_20_code 3 = .ok (.iload_n 1, 1) := zo_27 (zd_b zq_method_20_code_0 3 rfl rfl rfl)
theorem d_Lw_furnace_4 : decode method_20_code 4 = .ok (.invokevirtual 80, 3) := zo_182 (d := 0) (e := 80) (zd_b zq_method_20_code_0 4 rfl rfl rfl) (zd_b zq_method_20_code_0 5 rfl rfl rfl) (zd_b zq_method_20_code_0 6 rfl rfl rfl)
theorem ok_Lw_furnace_Ip_furnace : z_okH M_Lw_furnace M_Ip_furnace 1 := ⟨z_mj5 (i := 71) rfl (by decide +kernel), rfl, ⟨by decide +kernel, by decide +kernel, by decide +kernel⟩, ⟨by decide, by decide⟩, z_mj1 (i := 1) rfl (by decide +kernel)⟩
theorem ln_Lw_80 : Cond.methodLink "IronpourLaw" 80 M_Ip_furnace.1 ∈ z_gw := z_mj5 (i := 68) rfl (by decide +kernel)
theorem w_im_Ip_furnace : Cond.instanceMethod M_Ip_furnace.1 ∈ z_gw := z_mj5 (i := 69) rfl (by decide +kernel)
theorem w_se_Ip_furnace : Cond.selects M_Ip_furnace.1.cls M_Ip_furnace.1 M_Ip_furnace.1 ∈ z_gw := z_mj5 (i := 70) rfl (by decide +kernel)
theorem d_Lw_furnace_12 : decode method_20_code 12 = .ok (.astore_n 3, 1) := zo_78 (zd_b zq_method_20_code_0 12 rfl rfl rfl)
theorem d_Lw_furnace_13 : decode method_20_code 13 = .ok (.iconst 1, 1) := zo_4 (zd_b zq_method_20_code_0 13 rfl rfl rfl)
theorem d_Lw_furnace_14 : decode method_20_code 14 = .ok (.ireturn, 1) := zo_172 (zd_b zq_method_20_code_0 14 rfl rfl rfl)
theorem d_Lw_furnace_15 : decode method_20_code 15 = .ok (.astore_n 3, 1) := zo_78 (zd_b zq_method_20_code_0 15 rfl rfl rfl)
theorem d_Lw_furnace_16 : decode method_20_code 16 = .ok (.iconst 2, 1) := zo_5 (zd_b zq_method_20_code_0 16 rfl rfl rfl)
theorem d_Lw_furnace_17 : decode method_20_code 17 = .ok (.ireturn, 1) := zo_172 (zd_b zq_method_20_code_0 17 rfl rfl rfl)
theorem d_Lw_furnace_7 : decode method_20_code 7 = .ok (.i2l, 1) := zo_133 (zd_b zq_method_20_code_0 7 rfl rfl rfl)
theorem d_Lw_furnace_8 : decode method_20_code 8 = .ok (.lastore, 1) := zo_80 (zd_b zq_method_20_code_0 8 rfl rfl rfl)
theorem d_Lw_furnace_9 : decode method_20_code 9 = .ok (.goto 9, 3) := zo_167 (d := 0) (e := 9) (zd_b zq_method_20_code_0 9 rfl rfl rfl) (zd_b zq_method_20_code_0 10 rfl rfl rfl) (zd_b zq_method_20_code_0 11 rfl rfl rfl) (by decide +kernel)
theorem d_Lw_furnace_18 : decode method_20_code 18 = .ok (.iconst 0, 1) := zo_3 (zd_b zq_method_20_code_0 18 rfl rfl rfl)
theorem d_Lw_furnace_19 : decode method_20_code 19 = .ok (.ireturn, 1) := zo_172 (zd_b zq_method_20_code_0 19 rfl rfl rfl)
set_option maxHeartbeats 4000000 in
set_option maxRecDepth 100000 in
theorem W_furnace {g : zG} {ad : Nat → Nat} {t : zTT} {u : zNN} {w : zW} (hI : IVm g ad t u w) (k : Int32) : zMB g M_Lw_furnace [.ref (ad 0), .int k, .ref (ad 69)] w (fun o w1 => MKx g ad t u.1 o w1) 10 300 := by
  obtain ⟨s, hI⟩ := hI
  obtain ⟨e_a, wf_a, k_a⟩ := hI.1.2 0 (by decide)
  obtain rfl := kd_0.mp k_a
  obtain ⟨e_o1, wf_o1, k_o1⟩ := hI.1.2 69 (by decide)
  obtain rfl := kd_69.mp k_o1
  refine y_ofH (by decide) (by decide) (Nat.le_of_ble_eq_true rfl) (y_base (cs := [((ad 0), .inr (11, [.ref (ad 1), .ref (ad 5), .ref (ad 18), .ref (ad 31), .ref (ad 32), .ref (ad 36), .ref (ad 42), .ref (ad 45), .ref (ad 47), .ref (ad 49), .ref (ad 50), .ref (ad 51)])), ((ad 69), .inl (3, 1, .inr (.inl (((mg t s).1 69).2.1))))]) (hI.1.I [0, 69] _ rfl (by decide) (by decide) (List.forall_mem_cons.mpr ⟨wf_a, (List.forall_mem_cons.mpr ⟨wf_o1, (fun _ h => nomatch h)⟩)⟩)) ?_)
  refine y_lvE (lv2 := [(0, .ref (ad 0)), (1, .int k), (2, .ref (ad 69))]) rfl ?_
  refine y_aload_n d_Lw_furnace_0 rfl 2 rfl ?_
  refine y_iconst d_Lw_furnace_1 (v := 0) (by decide) ?_
  refine y_aload_n d_Lw_furnace_2 rfl 0 rfl ?_
  refine y_iload_n d_Lw_furnace_3 rfl 1 rfl ?_
  refine yw_callVH (As := [.int k]) (rest := [.int 0, .ref (ad 69)]) (q0 := 0) rfl rfl ln_Lw_80 w_im_Ip_furnace w_se_Ip_furnace ok_Lw_furnace_Ip_furnace d_Lw_furnace_4 (fun wA hA => K_Ip_furnace ⟨_, (hI.gen (t2 := (mg t s)) (is := [0, 69]) (L2 := []) hA rfl ⟨kd_0.mpr rfl, kd_69.mpr rfl, trivial⟩ (by decide) (by decide) (fun _ h => nomatch h) (fun _ h => nomatch h) (fun _ _ _ => rfl) (fun h => h) rfl)⟩ k) rfl rfl (Nat.le_of_ble_eq_true rfl) (by omega) (by omega) (fun wA4 hA4 E wB4 hx => ?_) (fun wA4 hA4 v wB4 hx => ?_)
  · obtain ⟨h1, u2, hu, hI2⟩ := hx
    rcases List.mem_cons.mp (zriE h1) with rfl | g2
    · refine ⟨"java/lang/IllegalArgumentException", [], [(0, 9, 15, 33)], (0, 9, 12, 13), rfl, (fun z hz => nomatch hz), by decide, by decide, lx_Lw_13, ce_13, fun qx => ?_⟩
      refine y_base (cs := []) (z_I.nil wB4) ?_
      refine y_astore_n (lv' := [(3, .ref qx), (0, .ref (ad 0)), (1, .int k), (2, .ref (ad 69))]) d_Lw_furnace_12 rfl (by decide) rfl ?_
      refine y_iconst d_Lw_furnace_13 (v := 1) (by decide) ?_
      refine y_iret d_Lw_furnace_14 rfl rfl ?_
      exact fun w1 h1 => ⟨⟨_, rfl⟩, u2, hu, (z_I.same (z_I.nil _) h1).symm ▸ hI2⟩
    · obtain rfl := List.mem_singleton.mp g2
      refine ⟨"java/util/NoSuchElementException", [(0, 9, 12, 13)], [], (0, 9, 15, 33), rfl, (fun z hz => by simp only [List.mem_cons, List.not_mem_nil, or_false] at hz; rcases hz with rfl; exact Or.inr ⟨by decide, _, lx_Lw_13, by decide⟩), by decide, by decide, lx_Lw_33, ce_33, fun qx => ?_⟩
      refine y_base (cs := []) (z_I.nil wB4) ?_
      refine y_astore_n (lv' := [(3, .ref qx), (0, .ref (ad 0)), (1, .int k), (2, .ref (ad 69))]) d_Lw_furnace_15 rfl (by decide) rfl ?_
      refine y_iconst d_Lw_furnace_16 (v := 2) (by decide) ?_
      refine y_iret d_Lw_furnace_17 rfl rfl ?_
      exact fun w1 h1 => ⟨⟨_, rfl⟩, u2, hu, (z_I.same (z_I.nil _) h1).symm ▸ hI2⟩
  · obtain ⟨h1, u2, hu, hI2⟩ := hx
    obtain ⟨v9, rfl⟩ := zriV h1
    refine yw_st (st2 := [.int v9, .int 0, .ref (ad 69)]) rfl ?_
    obtain ⟨s9, hI⟩ := hI2
    obtain ⟨e_o1, wf_o1, k_o1⟩ := hI.1.2 69 (by decide)
    obtain rfl := kd_69.mp k_o1
    refine y_base (cs := [((ad 69), .inl (3, 1, .inr (.inl (((mg t s9).1 69).2.1))))]) (hI.1.I [69] _ rfl (by decide) (by decide) (List.forall_mem_cons.mpr ⟨wf_o1, (fun _ h => nomatch h)⟩)) ?_
    refine y_i2l d_Lw_furnace_7 (v := v9.toInt64) rfl ?_
    refine y_last d_Lw_furnace_8 (q0 := 0) rfl (fun q => q.elim (by decide) (by decide)) (f' := vp_updL (((mg t s9).1 69).2.1) 0 v9.toInt64) rfl (cs' := [((ad 69), .inl (3, 1, .inr (.inl (vp_updL (((mg t s9).1 69).2.1) 0 v9.toInt64))))]) rfl ?_
    refine y_goto (tgt := 18) d_Lw_furnace_9 (by decide) ?_
    refine y_iconst d_Lw_furnace_18 (v := 0) (by decide) ?_
    refine y_iret d_Lw_furnace_19 rfl rfl ?_
    exact fun w1 h1 => ⟨⟨_, rfl⟩, u2, hu, IVm.tz ((hI.gen (t2 := (zup (mg t s9).1 [(69, (((mg t s9).1 69).1, vp_updL (((mg t s9).1 69).2.1) 0 v9.toInt64, ((mg t s9).1 69).2.2))], (mg t s9).2)) (is := [69]) (L2 := []) h1 rfl ⟨kd_69.mpr rfl, trivial⟩ (by decide) (by decide) (fun _ h => nomatch h) (fun _ h => nomatch h) (fun i hi hn => zup_out (fun q => hn ((by decide : ∀ j ∈ ([69] : List Nat), j ∈ ([69] : List Nat)) i q))) (fun h => h) rfl)) (tx_all rfl)⟩
abbrev M_Lw_hold : zM := (⟨"IronpourLaw", "hold", "(LIronpour;I[J)I"⟩, method_21_code, 4, (Option.some FieldType.int), 7, 121, [((0 : Nat), (9 : Nat), (12 : Nat), (13 : Nat))])
theorem d_Lw_hold_0 : decode method_21_code 0 = .ok (.aload_n 2, 1) := zo_44 (zd_b zq_method_21_code_0 0 rfl rfl rfl)
theorem d_Lw_hold_1 : decode method_21_code 1 = .ok (.iconst 0, 1) := zo_3 (zd_b zq_method_21_code_0 1 rfl rfl rfl)
theorem d_Lw_hold_2 : decode method_21_code 2 = .ok (.aload_n 0, 1) := zo_42 (zd_b zq_method_21_code_0 2 rfl rfl rfl)
theorem d_Lw_hold_3 : decode method_21_code 3 = .ok (.iload_n 1, 1) := zo_27 (zd_b zq_method_21_code_0 3 rfl rfl rfl)
theorem d_Lw_hold_4 : decode method_21_code 4 = .ok (.invokevirtual 83, 3) := zo_182 (d := 0) (e := 83) (zd_b zq_method_21_code_0 4 rfl rfl rfl) (zd_b zq_method_21_code_0 5 rfl rfl rfl) (zd_b zq_method_21_code_0 6 rfl rfl rfl)
theorem ok_Lw_hold_Ip_hold : z_okH M_Lw_hold M_Ip_hold 1 := ⟨z_mj5 (i := 89) rfl (by decide +kernel), rfl, ⟨by decide +kernel, by decide +kernel, by decide +kernel⟩, ⟨by decide, by decide⟩, z_mj1 (i := 1) rfl (by decide +kernel)⟩
theorem ln_Lw_83 : Cond.methodLink "IronpourLaw" 83 M_Ip_hold.1 ∈ z_gw := z_mj5 (i := 86) rfl (by decide +kernel)
theorem w_im_Ip_hold : Cond.instanceMethod M_Ip_hold.1 ∈ z_gw := z_mj5 (i := 87) rfl (by decide +kernel)
theorem w_se_Ip_hold : Cond.selects M_Ip_hold.1.cls M_Ip_hold.1 M_Ip_hold.1 ∈ z_gw := z_mj5 (i := 88) rfl (by decide +kernel)
theorem d_Lw_hold_12 : decode method_21_code 12 = .ok (.astore_n 3, 1) := zo_78 (zd_b zq_method_21_code_0 12 rfl rfl rfl)
theorem d_Lw_hold_13 : decode method_21_code 13 = .ok (.iconst 1, 1) := zo_4 (zd_b zq_method_21_code_0 13 rfl rfl rfl)
theorem d_Lw_hold_14 : decode method_21_code 14 = .ok (.ireturn, 1) := zo_172 (zd_b zq_method_21_code_0 14 rfl rfl rfl)
theorem d_Lw_hold_7 : decode method_21_code 7 = .ok (.i2l, 1) := zo_133 (zd_b zq_method_21_code_0 7 rfl rfl rfl)
theorem d_Lw_hold_8 : decode method_21_code 8 = .ok (.lastore, 1) := zo_80 (zd_b zq_method_21_code_0 8 rfl rfl rfl)
theorem d_Lw_hold_9 : decode method_21_code 9 = .ok (.goto 6, 3) := zo_167 (d := 0) (e := 6) (zd_b zq_method_21_code_0 9 rfl rfl rfl) (zd_b zq_method_21_code_0 10 rfl rfl rfl) (zd_b zq_method_21_code_0 11 rfl rfl rfl) (by decide +kernel)
theorem d_Lw_hold_15 : decode method_21_code 15 = .ok (.iconst 0, 1) := zo_3 (zd_b zq_method_21_code_0 15 rfl rfl rfl)
theorem d_Lw_hold_16 : decode method_21_code 16 = .ok (.ireturn, 1) := zo_172 (zd_b zq_method_21_code_0 16 rfl rfl rfl)
set_option maxHeartbeats 4000000 in
set_option maxRecDepth 100000 in
theorem W_hold {g : zG} {ad : Nat → Nat} {t : zTT} {u : zNN} {w : zW} (hI : IVm g ad t u w) (x : Int32) : zMB g M_Lw_hold [.ref (ad 0), .int x, .ref (ad 69)] w (fun o w1 => MKx g ad (tK_Ip_hold x t) u.1 o w1) 10 300 := by
  obtain ⟨s, hI⟩ := hI
  obtain ⟨e_a, wf_a, k_a⟩ := hI.1.2 0 (by decide)
  obtain rfl := kd_0.mp k_a
  obtain ⟨e_o1, wf_o1, k_o1⟩ := hI.1.2 69 (by decide)
  obtain rfl := kd_69.mp k_o1
  refine y_ofH (by decide) (by decide) (Nat.le_of_ble_eq_true rfl) (y_base (cs := [((ad 0), .inr (11, [.ref (ad 1), .ref (ad 5), .ref (ad 18), .ref (ad 31), .ref (ad 32), .ref (ad 36), .ref (ad 42), .ref (ad 45), .ref (ad 47), .ref (ad 49), .ref (ad 50), .ref (ad 51)])), ((ad 69), .inl (3, 1, .inr (.inl (((mg t s).1 69).2.1))))]) (hI.1.I [0, 69] _ rfl (by decide) (by decide) (List.forall_mem_cons.mpr ⟨wf_a, (List.forall_mem_cons.mpr ⟨wf_o1, (fun _ h => nomatch h)⟩)⟩)) ?_)
  refine y_lvE (lv2 := [(0, .ref (ad 0)), (1, .int x), (2, .ref (ad 69))]) rfl ?_
  refine y_aload_n d_Lw_hold_0 rfl 2 rfl ?_
  refine y_iconst d_Lw_hold_1 (v := 0) (by decide) ?_
  refine y_aload_n d_Lw_hold_2 rfl 0 rfl ?_
  refine y_iload_n d_Lw_hold_3 rfl 1 rfl ?_
  refine yw_callVH (As := [.int x]) (rest := [.int 0, .ref (ad 69)]) (q0 := 0) rfl rfl ln_Lw_83 w_im_Ip_hold w_se_Ip_hold ok_Lw_hold_Ip_hold d_Lw_hold_4 (fun wA hA => K_Ip_hold ⟨_, (hI.gen (t2 := (mg t s)) (is := [0, 69]) (L2 := []) hA rfl ⟨kd_0.mpr rfl, kd_69.mpr rfl, trivial⟩ (by decide) (by decide) (fun _ h => nomatch h) (fun _ h => nomatch h) (fun _ _ _ => rfl) (fun h => h) rfl)⟩ x) rfl rfl (Nat.le_of_ble_eq_true rfl) (by omega) (by omega) (fun wA4 hA4 E wB4 hx => ?_) (fun wA4 hA4 v wB4 hx => ?_)
  · obtain ⟨h1, u2, hu, hI2⟩ := hx
    obtain rfl := List.mem_singleton.mp (zriE h1)
    refine ⟨"java/lang/IllegalArgumentException", [], [], (0, 9, 12, 13), rfl, (fun z hz => nomatch hz), by decide, by decide, lx_Lw_13, ce_13, fun qx => ?_⟩
    refine y_base (cs := []) (z_I.nil wB4) ?_
    refine y_astore_n (lv' := [(3, .ref qx), (0, .ref (ad 0)), (1, .int x), (2, .ref (ad 69))]) d_Lw_hold_12 rfl (by decide) rfl ?_
    refine y_iconst d_Lw_hold_13 (v := 1) (by decide) ?_
    refine y_iret d_Lw_hold_14 rfl rfl ?_
    exact fun w1 h1 => ⟨⟨_, rfl⟩, u2, hu, (z_I.same (z_I.nil _) h1).symm ▸ hI2⟩
  · obtain ⟨h1, u2, hu, hI2⟩ := hx
    obtain ⟨v9, rfl⟩ := zriV h1
    refine yw_st (st2 := [.int v9, .int 0, .ref (ad 69)]) rfl ?_
    obtain ⟨s9, hI⟩ := hI2
    obtain ⟨e_o1, wf_o1, k_o1⟩ := hI.1.2 69 (by decide)
    obtain rfl := kd_69.mp k_o1
    refine y_base (cs := [((ad 69), .inl (3, 1, .inr (.inl (((mg (tK_Ip_hold x t) s9).1 69).2.1))))]) (hI.1.I [69] _ rfl (by decide) (by decide) (List.forall_mem_cons.mpr ⟨wf_o1, (fun _ h => nomatch h)⟩)) ?_
    refine y_i2l d_Lw_hold_7 (v := v9.toInt64) rfl ?_
    refine y_last d_Lw_hold_8 (q0 := 0) rfl (fun q => q.elim (by decide) (by decide)) (f' := vp_updL (((mg (tK_Ip_hold x t) s9).1 69).2.1) 0 v9.toInt64) rfl (cs' := [((ad 69), .inl (3, 1, .inr (.inl (vp_updL (((mg (tK_Ip_hold x t) s9).1 69).2.1) 0 v9.toInt64))))]) rfl ?_
    refine y_goto (tgt := 15) d_Lw_hold_9 (by decide) ?_
    refine y_iconst d_Lw_hold_15 (v := 0) (by decide) ?_
    refine y_iret d_Lw_hold_16 rfl rfl ?_
    exact fun w1 h1 => ⟨⟨_, rfl⟩, u2, hu, IVm.tz ((hI.gen (t2 := (zup (mg (tK_Ip_hold x t) s9).1 [(69, (((mg (tK_Ip_hold x t) s9).1 69).1, vp_updL (((mg (tK_Ip_hold x t) s9).1 69).2.1) 0 v9.toInt64, ((mg (tK_Ip_hold x t) s9).1 69).2.2))], (mg (tK_Ip_hold x t) s9).2)) (is := [69]) (L2 := []) h1 rfl ⟨kd_69.mpr rfl, trivial⟩ (by decide) (by decide) (fun _ h => nomatch h) (fun _ h => nomatch h) (fun i hi hn => zup_out (fun q => hn ((by decide : ∀ j ∈ ([69] : List Nat), j ∈ ([69] : List Nat)) i q))) (fun h => h) rfl)) (tx_all rfl)⟩
abbrev M_Lw_tap : zM := (⟨"IronpourLaw", "tap", "(LIronpour;I[J)I"⟩, method_22_code, 4, (Option.some FieldType.int), 7, 121, [((0 : Nat), (9 : Nat), (12 : Nat), (13 : Nat)), ((0 : Nat), (9 : Nat), (15 : Nat), (69 : Nat)), ((0 : Nat), (9 : Nat), (18 : Nat), (78 : Nat))])
theorem d_Lw_tap_0 : decode method_22_code 0 = .ok (.aload_n 2, 1) := zo_44 (zd_b zq_method_22_code_0 0 rfl rfl rfl)
theorem d_Lw_tap_1 : decode method_22_code 1 = .ok (.iconst 0, 1) := zo_3 (zd_b zq_method_22_code_0 1 rfl rfl rfl)
theorem d_Lw_tap_2 : decode method_22_code 2 = .ok (.aload_n 0, 1) := zo_42 (zd_b zq_method_22_code_0 2 rfl rfl rfl)
theorem d_Lw_tap_3 : decode method_22_code 3 = .ok (.iload_n 1, 1) := zo_27 (zd_b zq_method_22_code_0 3 rfl rfl rfl)
theorem d_Lw_tap_4 : decode method_22_code 4 = .ok (.invokevirtual 86, 3) := zo_182 (d := 0) (e := 86) (zd_b zq_method_22_code_0 4 rfl rfl rfl) (zd_b zq_method_22_code_0 5 rfl rfl rfl) (zd_b zq_method_22_code_0 6 rfl rfl rfl)
theorem ok_Lw_tap_Ip_tap : z_okH M_Lw_tap M_Ip_tap 1 := ⟨z_mj5 (i := 105) rfl (by decide +kernel), rfl, ⟨by decide +kernel, by decide +kernel, by decide +kernel⟩, ⟨by decide, by decide⟩, z_mj1 (i := 1) rfl (by decide +kernel)⟩
theorem ln_Lw_86 : Cond.methodLink "IronpourLaw" 86 M_Ip_tap.1 ∈ z_gw := z_mj5 (i := 102) rfl (by decide +kernel)
theorem w_im_Ip_tap : Cond.instanceMethod M_Ip_tap.1 ∈ z_gw := z_mj5 (i := 103) rfl (by decide +kernel)
theorem w_se_Ip_tap : Cond.selects M_Ip_tap.1.cls M_Ip_tap.1 M_Ip_tap.1 ∈ z_gw := z_mj5 (i := 104) rfl (by decide +kernel)
theorem d_Lw_tap_12 : decode method_22_code 12 = .ok (.astore_n 3, 1) := zo_78 (zd_b zq_method_22_code_0 12 rfl rfl rfl)
theorem d_Lw_tap_13 : decode method_22_code 13 = .ok (.iconst 1, 1) := zo_4 (zd_b zq_method_22_code_0 13 rfl rfl rfl)
theorem d_Lw_tap_14 : decode method_22_code 14 = .ok (.ireturn, 1) := zo_172 (zd_b zq_method_22_code_0 14 rfl rfl rfl)
theorem d_Lw_tap_15 : decode method_22_code 15 = .ok (.astore_n 3, 1) := zo_78 (zd_b zq_method_22_code_0 15 rfl rfl rfl)
theorem d_Lw_tap_16 : decode method_22_code 16 = .ok (.iconst 2, 1) := zo_5 (zd_b zq_method_22_code_0 16 rfl rfl rfl)
theorem d_Lw_tap_17 : decode method_22_code 17 = .ok (.ireturn, 1) := zo_172 (zd_b zq_method_22_code_0 17 rfl rfl rfl)
theorem d_Lw_tap_18 : decode method_22_code 18 = .ok (.astore_n 3, 1) := zo_78 (zd_b zq_method_22_code_0 18 rfl rfl rfl)
theorem d_Lw_tap_19 : decode method_22_code 19 = .ok (.iconst 3, 1) := zo_6 (zd_b zq_method_22_code_0 19 rfl rfl rfl)
theorem d_Lw_tap_20 : decode method_22_code 20 = .ok (.ireturn, 1) := zo_172 (zd_b zq_method_22_code_0 20 rfl rfl rfl)
theorem d_Lw_tap_7 : decode method_22_code 7 = .ok (.i2l, 1) := zo_133 (zd_b zq_method_22_code_0 7 rfl rfl rfl)
theorem d_Lw_tap_8 : decode method_22_code 8 = .ok (.lastore, 1) := zo_80 (zd_b zq_method_22_code_0 8 rfl rfl rfl)
theorem d_Lw_tap_9 : decode method_22_code 9 = .ok (.goto 12, 3) := zo_167 (d := 0) (e := 12) (zd_b zq_method_22_code_0 9 rfl rfl rfl) (zd_b zq_method_22_code_0 10 rfl rfl rfl) (zd_b zq_method_22_code_0 11 rfl rfl rfl) (by decide +kernel)
theorem d_Lw_tap_21 : decode method_22_code 21 = .ok (.iconst 0, 1) := zo_3 (zd_b zq_method_22_code_0 21 rfl rfl rfl)
theorem d_Lw_tap_22 : decode method_22_code 22 = .ok (.ireturn, 1) := zo_172 (zd_b zq_method_22_code_0 22 rfl rfl rfl)
set_option maxHeartbeats 4000000 in
set_option maxRecDepth 100000 in
theorem W_tap {g : zG} {ad : Nat → Nat} {t : zTT} {u : zNN} {w : zW} (hI : IVm g ad t u w) (m : Int32) : zMB g M_Lw_tap [.ref (ad 0), .int m, .ref (ad 69)] w (fun o w1 => MKx g ad (tK_Ip_tap m t) u.1 o w1) 10 300 := by
  obtain ⟨s, hI⟩ := hI
  obtain ⟨e_a, wf_a, k_a⟩ := hI.1.2 0 (by decide)
  obtain rfl := kd_0.mp k_a
  obtain ⟨e_o1, wf_o1, k_o1⟩ := hI.1.2 69 (by decide)
  obtain rfl := kd_69.mp k_o1
  refine y_ofH (by decide) (by decide) (Nat.le_of_ble_eq_true rfl) (y_base (cs := [((ad 0), .inr (11, [.ref (ad 1), .ref (ad 5), .ref (ad 18), .ref (ad 31), .ref (ad 32), .ref (ad 36), .ref (ad 42), .ref (ad 45), .ref (ad 47), .ref (ad 49), .ref (ad 50), .ref (ad 51)])), ((ad 69), .inl (3, 1, .inr (.inl (((mg t s).1 69).2.1))))]) (hI.1.I [0, 69] _ rfl (by decide) (by decide) (List.forall_mem_cons.mpr ⟨wf_a, (List.forall_mem_cons.mpr ⟨wf_o1, (fun _ h => nomatch h)⟩)⟩)) ?_)
  refine y_lvE (lv2 := [(0, .ref (ad 0)), (1, .int m), (2, .ref (ad 69))]) rfl ?_
  refine y_aload_n d_Lw_tap_0 rfl 2 rfl ?_
  refine y_iconst d_Lw_tap_1 (v := 0) (by decide) ?_
  refine y_aload_n d_Lw_tap_2 rfl 0 rfl ?_
  refine y_iload_n d_Lw_tap_3 rfl 1 rfl ?_
  refine yw_callVH (As := [.int m]) (rest := [.int 0, .ref (ad 69)]) (q0 := 0) rfl rfl ln_Lw_86 w_im_Ip_tap w_se_Ip_tap ok_Lw_tap_Ip_tap d_Lw_tap_4 (fun wA hA => K_Ip_tap ⟨_, (hI.gen (t2 := (mg t s)) (is := [0, 69]) (L2 := []) hA rfl ⟨kd_0.mpr rfl, kd_69.mpr rfl, trivial⟩ (by decide) (by decide) (fun _ h => nomatch h) (fun _ h => nomatch h) (fun _ _ _ => rfl) (fun h => h) rfl)⟩ m) rfl rfl (Nat.le_of_ble_eq_true rfl) (by omega) (by omega) (fun wA4 hA4 E wB4 hx => ?_) (fun wA4 hA4 v wB4 hx => ?_)
  · obtain ⟨h1, u2, hu, hI2⟩ := hx
    rcases List.mem_cons.mp (zriE h1) with rfl | g3
    · refine ⟨"java/lang/IllegalArgumentException", [], [(0, 9, 15, 69), (0, 9, 18, 78)], (0, 9, 12, 13), rfl, (fun z hz => nomatch hz), by decide, by decide, lx_Lw_13, ce_13, fun qx => ?_⟩
      refine y_base (cs := []) (z_I.nil wB4) ?_
      refine y_astore_n (lv' := [(3, .ref qx), (0, .ref (ad 0)), (1, .int m), (2, .ref (ad 69))]) d_Lw_tap_12 rfl (by decide) rfl ?_
      refine y_iconst d_Lw_tap_13 (v := 1) (by decide) ?_
      refine y_iret d_Lw_tap_14 rfl rfl ?_
      exact fun w1 h1 => ⟨⟨_, rfl⟩, u2, hu, (z_I.same (z_I.nil _) h1).symm ▸ hI2⟩
    · rcases List.mem_cons.mp g3 with rfl | g2
      · refine ⟨"java/lang/IllegalStateException", [(0, 9, 12, 13)], [(0, 9, 18, 78)], (0, 9, 15, 69), rfl, (fun z hz => by simp only [List.mem_cons, List.not_mem_nil, or_false] at hz; rcases hz with rfl; exact Or.inr ⟨by decide, _, lx_Lw_13, by decide⟩), by decide, by decide, lx_Lw_69, ce_69, fun qx => ?_⟩
        refine y_base (cs := []) (z_I.nil wB4) ?_
        refine y_astore_n (lv' := [(3, .ref qx), (0, .ref (ad 0)), (1, .int m), (2, .ref (ad 69))]) d_Lw_tap_15 rfl (by decide) rfl ?_
        refine y_iconst d_Lw_tap_16 (v := 2) (by decide) ?_
        refine y_iret d_Lw_tap_17 rfl rfl ?_
        exact fun w1 h1 => ⟨⟨_, rfl⟩, u2, hu, (z_I.same (z_I.nil _) h1).symm ▸ hI2⟩
      · obtain rfl := List.mem_singleton.mp g2
        refine ⟨"java/lang/UnsupportedOperationException", [(0, 9, 12, 13), (0, 9, 15, 69)], [], (0, 9, 18, 78), rfl, (fun z hz => by simp only [List.mem_cons, List.not_mem_nil, or_false] at hz; rcases hz with rfl | rfl <;> first | exact Or.inr ⟨by decide, _, lx_Lw_13, by decide⟩ | exact Or.inr ⟨by decide, _, lx_Lw_69, by decide⟩), by decide, by decide, lx_Lw_78, ce_78, fun qx => ?_⟩
        refine y_base (cs := []) (z_I.nil wB4) ?_
        refine y_astore_n (lv' := [(3, .ref qx), (0, .ref (ad 0)), (1, .int m), (2, .ref (ad 69))]) d_Lw_tap_18 rfl (by decide) rfl ?_
        refine y_iconst d_Lw_tap_19 (v := 3) (by decide) ?_
        refine y_iret d_Lw_tap_20 rfl rfl ?_
        exact fun w1 h1 => ⟨⟨_, rfl⟩, u2, hu, (z_I.same (z_I.nil _) h1).symm ▸ hI2⟩
  · obtain ⟨h1, u2, hu, hI2⟩ := hx
    obtain ⟨v9, rfl⟩ := zriV h1
    refine yw_st (st2 := [.int v9, .int 0, .ref (ad 69)]) rfl ?_
    obtain ⟨s9, hI⟩ := hI2
    obtain ⟨e_o1, wf_o1, k_o1⟩ := hI.1.2 69 (by decide)
    obtain rfl := kd_69.mp k_o1
    refine y_base (cs := [((ad 69), .inl (3, 1, .inr (.inl (((mg (tK_Ip_tap m t) s9).1 69).2.1))))]) (hI.1.I [69] _ rfl (by decide) (by decide) (List.forall_mem_cons.mpr ⟨wf_o1, (fun _ h => nomatch h)⟩)) ?_
    refine y_i2l d_Lw_tap_7 (v := v9.toInt64) rfl ?_
    refine y_last d_Lw_tap_8 (q0 := 0) rfl (fun q => q.elim (by decide) (by decide)) (f' := vp_updL (((mg (tK_Ip_tap m t) s9).1 69).2.1) 0 v9.toInt64) rfl (cs' := [((ad 69), .inl (3, 1, .inr (.inl (vp_updL (((mg (tK_Ip_tap m t) s9).1 69).2.1) 0 v9.toInt64))))]) rfl ?_
    refine y_goto (tgt := 21) d_Lw_tap_9 (by decide) ?_
    refine y_iconst d_Lw_tap_21 (v := 0) (by decide) ?_
    refine y_iret d_Lw_tap_22 rfl rfl ?_
    exact fun w1 h1 => ⟨⟨_, rfl⟩, u2, hu, IVm.tz ((hI.gen (t2 := (zup (mg (tK_Ip_tap m t) s9).1 [(69, (((mg (tK_Ip_tap m t) s9).1 69).1, vp_updL (((mg (tK_Ip_tap m t) s9).1 69).2.1) 0 v9.toInt64, ((mg (tK_Ip_tap m t) s9).1 69).2.2))], (mg (tK_Ip_tap m t) s9).2)) (is := [69]) (L2 := []) h1 rfl ⟨kd_69.mpr rfl, trivial⟩ (by decide) (by decide) (fun _ h => nomatch h) (fun _ h => nomatch h) (fun i hi hn => zup_out (fun q => hn ((by decide : ∀ j ∈ ([69] : List Nat), j ∈ ([69] : List Nat)) i q))) (fun h => h) rfl)) (tx_all rfl)⟩
abbrev M_Lw_treat : zM := (⟨"IronpourLaw", "treat", "(LIronpour;I[J)I"⟩, method_23_code, 4, (Option.some FieldType.int), 7, 121, [((0 : Nat), (9 : Nat), (12 : Nat), (13 : Nat)), ((0 : Nat), (9 : Nat), (15 : Nat), (69 : Nat)), ((0 : Nat), (9 : Nat), (18 : Nat), (78 : Nat))])
theorem d_Lw_treat_0 : decode method_23_code 0 = .ok (.aload_n 2, 1) := zo_44 (zd_b zq_method_23_code_0 0 rfl rfl rfl)
theorem d_Lw_treat_1 : decode method_23_code 1 = .ok (.iconst 0, 1) := zo_3 (zd_b zq_method_23_code_0 1 rfl rfl rfl)
theorem d_Lw_treat_2 : decode method_23_code 2 = .ok (.aload_n 0, 1) := zo_42 (zd_b zq_method_23_code_0 2 rfl rfl rfl)
theorem d_Lw_treat_3 : decode method_23_code 3 = .ok (.iload_n 1, 1) := zo_27 (zd_b zq_method_23_code_0 3 rfl rfl rfl)
theorem d_Lw_treat_4 : decode method_23_code 4 = .ok (.invokevirtual 89, 3) := zo_182 (d := 0) (e := 89) (zd_b zq_method_23_code_0 4 rfl rfl rfl) (zd_b zq_method_23_code_0 5 rfl rfl rfl) (zd_b zq_method_23_code_0 6 rfl rfl rfl)
theorem ok_Lw_treat_Ip_treat : z_okH M_Lw_treat M_Ip_treat 1 := ⟨z_mj5 (i := 124) rfl (by decide +kernel), rfl, ⟨by decide +kernel, by decide +kernel, by decide +kernel⟩, ⟨by decide, by decide⟩, z_mj1 (i := 1) rfl (by decide +kernel)⟩
theorem ln_Lw_89 : Cond.methodLink "IronpourLaw" 89 M_Ip_treat.1 ∈ z_gw := z_mj5 (i := 121) rfl (by decide +kernel)
theorem w_im_Ip_treat : Cond.instanceMethod M_Ip_treat.1 ∈ z_gw := z_mj5 (i := 122) rfl (by decide +kernel)
theorem w_se_Ip_treat : Cond.selects M_Ip_treat.1.cls M_Ip_treat.1 M_Ip_treat.1 ∈ z_gw := z_mj5 (i := 123) rfl (by decide +kernel)
theorem d_Lw_treat_12 : decode method_23_code 12 = .ok (.astore_n 3, 1) := zo_78 (zd_b zq_method_23_code_0 12 rfl rfl rfl)
theorem d_Lw_treat_13 : decode method_23_code 13 = .ok (.iconst 1, 1) := zo_4 (zd_b zq_method_23_code_0 13 rfl rfl rfl)
theorem d_Lw_treat_14 : decode method_23_code 14 = .ok (.ireturn, 1) := zo_172 (zd_b zq_method_23_code_0 14 rfl rfl rfl)
theorem d_Lw_treat_15 : decode method_23_code 15 = .ok (.astore_n 3, 1) := zo_78 (zd_b zq_method_23_code_0 15 rfl rfl rfl)
theorem d_Lw_treat_16 : decode method_23_code 16 = .ok (.iconst 2, 1) := zo_5 (zd_b zq_method_23_code_0 16 rfl rfl rfl)
theorem d_Lw_treat_17 : decode method_23_code 17 = .ok (.ireturn, 1) := zo_172 (zd_b zq_method_23_code_0 17 rfl rfl rfl)
theorem d_Lw_treat_18 : decode method_23_code 18 = .ok (.astore_n 3, 1) := zo_78 (zd_b zq_method_23_code_0 18 rfl rfl rfl)
theorem d_Lw_treat_19 : decode method_23_code 19 = .ok (.iconst 3, 1) := zo_6 (zd_b zq_method_23_code_0 19 rfl rfl rfl)
theorem d_Lw_treat_20 : decode method_23_code 20 = .ok (.ireturn, 1) := zo_172 (zd_b zq_method_23_code_0 20 rfl rfl rfl)
theorem d_Lw_treat_7 : decode method_23_code 7 = .ok (.i2l, 1) := zo_133 (zd_b zq_method_23_code_0 7 rfl rfl rfl)
theorem d_Lw_treat_8 : decode method_23_code 8 = .ok (.lastore, 1) := zo_80 (zd_b zq_method_23_code_0 8 rfl rfl rfl)
theorem d_Lw_treat_9 : decode method_23_code 9 = .ok (.goto 12, 3) := zo_167 (d := 0) (e := 12) (zd_b zq_method_23_code_0 9 rfl rfl rfl) (zd_b zq_method_23_code_0 10 rfl rfl rfl) (zd_b zq_method_23_code_0 11 rfl rfl rfl) (by decide +kernel)
theorem d_Lw_treat_21 : decode method_23_code 21 = .ok (.iconst 0, 1) := zo_3 (zd_b zq_method_23_code_0 21 rfl rfl rfl)
theorem d_Lw_treat_22 : decode method_23_code 22 = .ok (.ireturn, 1) := zo_172 (zd_b zq_method_23_code_0 22 rfl rfl rfl)
set_option maxHeartbeats 4000000 in
set_option maxRecDepth 100000 in
theorem W_treat {g : zG} {ad : Nat → Nat} {t : zTT} {u : zNN} {w : zW} (hI : IVm g ad t u w) (m : Int32) : zMB g M_Lw_treat [.ref (ad 0), .int m, .ref (ad 69)] w (fun o w1 => MKx g ad (tK_Ip_treat m t) u.1 o w1) 10 300 := by
  obtain ⟨s, hI⟩ := hI
  obtain ⟨e_a, wf_a, k_a⟩ := hI.1.2 0 (by decide)
  obtain rfl := kd_0.mp k_a
  obtain ⟨e_o1, wf_o1, k_o1⟩ := hI.1.2 69 (by decide)
  obtain rfl := kd_69.mp k_o1
  refine y_ofH (by decide) (by decide) (Nat.le_of_ble_eq_true rfl) (y_base (cs := [((ad 0), .inr (11, [.ref (ad 1), .ref (ad 5), .ref (ad 18), .ref (ad 31), .ref (ad 32), .ref (ad 36), .ref (ad 42), .ref (ad 45), .ref (ad 47), .ref (ad 49), .ref (ad 50), .ref (ad 51)])), ((ad 69), .inl (3, 1, .inr (.inl (((mg t s).1 69).2.1))))]) (hI.1.I [0, 69] _ rfl (by decide) (by decide) (List.forall_mem_cons.mpr ⟨wf_a, (List.forall_mem_cons.mpr ⟨wf_o1, (fun _ h => nomatch h)⟩)⟩)) ?_)
  refine y_lvE (lv2 := [(0, .ref (ad 0)), (1, .int m), (2, .ref (ad 69))]) rfl ?_
  refine y_aload_n d_Lw_treat_0 rfl 2 rfl ?_
  refine y_iconst d_Lw_treat_1 (v := 0) (by decide) ?_
  refine y_aload_n d_Lw_treat_2 rfl 0 rfl ?_
  refine y_iload_n d_Lw_treat_3 rfl 1 rfl ?_
  refine yw_callVH (As := [.int m]) (rest := [.int 0, .ref (ad 69)]) (q0 := 0) rfl rfl ln_Lw_89 w_im_Ip_treat w_se_Ip_treat ok_Lw_treat_Ip_treat d_Lw_treat_4 (fun wA hA => K_Ip_treat ⟨_, (hI.gen (t2 := (mg t s)) (is := [0, 69]) (L2 := []) hA rfl ⟨kd_0.mpr rfl, kd_69.mpr rfl, trivial⟩ (by decide) (by decide) (fun _ h => nomatch h) (fun _ h => nomatch h) (fun _ _ _ => rfl) (fun h => h) rfl)⟩ m) rfl rfl (Nat.le_of_ble_eq_true rfl) (by omega) (by omega) (fun wA4 hA4 E wB4 hx => ?_) (fun wA4 hA4 v wB4 hx => ?_)
  · obtain ⟨h1, u2, hu, hI2⟩ := hx
    rcases List.mem_cons.mp (zriE h1) with rfl | g3
    · refine ⟨"java/lang/IllegalArgumentException", [], [(0, 9, 15, 69), (0, 9, 18, 78)], (0, 9, 12, 13), rfl, (fun z hz => nomatch hz), by decide, by decide, lx_Lw_13, ce_13, fun qx => ?_⟩
      refine y_base (cs := []) (z_I.nil wB4) ?_
      refine y_astore_n (lv' := [(3, .ref qx), (0, .ref (ad 0)), (1, .int m), (2, .ref (ad 69))]) d_Lw_treat_12 rfl (by decide) rfl ?_
      refine y_iconst d_Lw_treat_13 (v := 1) (by decide) ?_
      refine y_iret d_Lw_treat_14 rfl rfl ?_
      exact fun w1 h1 => ⟨⟨_, rfl⟩, u2, hu, (z_I.same (z_I.nil _) h1).symm ▸ hI2⟩
    · rcases List.mem_cons.mp g3 with rfl | g2
      · refine ⟨"java/lang/IllegalStateException", [(0, 9, 12, 13)], [(0, 9, 18, 78)], (0, 9, 15, 69), rfl, (fun z hz => by simp only [List.mem_cons, List.not_mem_nil, or_false] at hz; rcases hz with rfl; exact Or.inr ⟨by decide, _, lx_Lw_13, by decide⟩), by decide, by decide, lx_Lw_69, ce_69, fun qx => ?_⟩
        refine y_base (cs := []) (z_I.nil wB4) ?_
        refine y_astore_n (lv' := [(3, .ref qx), (0, .ref (ad 0)), (1, .int m), (2, .ref (ad 69))]) d_Lw_treat_15 rfl (by decide) rfl ?_
        refine y_iconst d_Lw_treat_16 (v := 2) (by decide) ?_
        refine y_iret d_Lw_treat_17 rfl rfl ?_
        exact fun w1 h1 => ⟨⟨_, rfl⟩, u2, hu, (z_I.same (z_I.nil _) h1).symm ▸ hI2⟩
      · obtain rfl := List.mem_singleton.mp g2
        refine ⟨"java/lang/UnsupportedOperationException", [(0, 9, 12, 13), (0, 9, 15, 69)], [], (0, 9, 18, 78), rfl, (fun z hz => by simp only [List.mem_cons, List.not_mem_nil, or_false] at hz; rcases hz with rfl | rfl <;> first | exact Or.inr ⟨by decide, _, lx_Lw_13, by decide⟩ | exact Or.inr ⟨by decide, _, lx_Lw_69, by decide⟩), by decide, by decide, lx_Lw_78, ce_78, fun qx => ?_⟩
        refine y_base (cs := []) (z_I.nil wB4) ?_
        refine y_astore_n (lv' := [(3, .ref qx), (0, .ref (ad 0)), (1, .int m), (2, .ref (ad 69))]) d_Lw_treat_18 rfl (by decide) rfl ?_
        refine y_iconst d_Lw_treat_19 (v := 3) (by decide) ?_
        refine y_iret d_Lw_treat_20 rfl rfl ?_
        exact fun w1 h1 => ⟨⟨_, rfl⟩, u2, hu, (z_I.same (z_I.nil _) h1).symm ▸ hI2⟩
  · obtain ⟨h1, u2, hu, hI2⟩ := hx
    obtain ⟨v9, rfl⟩ := zriV h1
    refine yw_st (st2 := [.int v9, .int 0, .ref (ad 69)]) rfl ?_
    obtain ⟨s9, hI⟩ := hI2
    obtain ⟨e_o1, wf_o1, k_o1⟩ := hI.1.2 69 (by decide)
    obtain rfl := kd_69.mp k_o1
    refine y_base (cs := [((ad 69), .inl (3, 1, .inr (.inl (((mg (tK_Ip_treat m t) s9).1 69).2.1))))]) (hI.1.I [69] _ rfl (by decide) (by decide) (List.forall_mem_cons.mpr ⟨wf_o1, (fun _ h => nomatch h)⟩)) ?_
    refine y_i2l d_Lw_treat_7 (v := v9.toInt64) rfl ?_
    refine y_last d_Lw_treat_8 (q0 := 0) rfl (fun q => q.elim (by decide) (by decide)) (f' := vp_updL (((mg (tK_Ip_treat m t) s9).1 69).2.1) 0 v9.toInt64) rfl (cs' := [((ad 69), .inl (3, 1, .inr (.inl (vp_updL (((mg (tK_Ip_treat m t) s9).1 69).2.1) 0 v9.toInt64))))]) rfl ?_
    refine y_goto (tgt := 21) d_Lw_treat_9 (by decide) ?_
    refine y_iconst d_Lw_treat_21 (v := 0) (by decide) ?_
    refine y_iret d_Lw_treat_22 rfl rfl ?_
    exact fun w1 h1 => ⟨⟨_, rfl⟩, u2, hu, IVm.tz ((hI.gen (t2 := (zup (mg (tK_Ip_treat m t) s9).1 [(69, (((mg (tK_Ip_treat m t) s9).1 69).1, vp_updL (((mg (tK_Ip_treat m t) s9).1 69).2.1) 0 v9.toInt64, ((mg (tK_Ip_treat m t) s9).1 69).2.2))], (mg (tK_Ip_treat m t) s9).2)) (is := [69]) (L2 := []) h1 rfl ⟨kd_69.mpr rfl, trivial⟩ (by decide) (by decide) (fun _ h => nomatch h) (fun _ h => nomatch h) (fun i hi hn => zup_out (fun q => hn ((by decide : ∀ j ∈ ([69] : List Nat), j ∈ ([69] : List Nat)) i q))) (fun h => h) rfl)) (tx_all rfl)⟩
abbrev M_Lw_minutes : zM := (⟨"IronpourLaw", "minutes", "(LIronpour;I[J)I"⟩, method_24_code, 4, (Option.some FieldType.int), 7, 122, [((0 : Nat), (9 : Nat), (12 : Nat), (13 : Nat))])
theorem d_Lw_minutes_0 : decode method_24_code 0 = .ok (.aload_n 2, 1) := zo_44 (zd_b zq_method_24_code_0 0 rfl rfl rfl)
theorem d_Lw_minutes_1 : decode method_24_code 1 = .ok (.iconst 0, 1) := zo_3 (zd_b zq_method_24_code_0 1 rfl rfl rfl)
theorem d_Lw_minutes_2 : decode method_24_code 2 = .ok (.aload_n 0, 1) := zo_42 (zd_b zq_method_24_code_0 2 rfl rfl rfl)
theorem d_Lw_minutes_3 : decode method_24_code 3 = .ok (.iload_n 1, 1) := zo_27 (zd_b zq_method_24_code_0 3 rfl rfl rfl)
theorem d_Lw_minutes_4 : decode method_24_code 4 = .ok (.invokevirtual 92, 3) := zo_182 (d := 0) (e := 92) (zd_b zq_method_24_code_0 4 rfl rfl rfl) (zd_b zq_method_24_code_0 5 rfl rfl rfl) (zd_b zq_method_24_code_0 6 rfl rfl rfl)
theorem ok_Lw_minutes_Ip_minutes : z_okH M_Lw_minutes M_Ip_minutes 1 := ⟨z_mj5 (i := 138) rfl (by decide +kernel), rfl, ⟨by decide +kernel, by decide +kernel, by decide +kernel⟩, ⟨by decide, by decide⟩, z_mj1 (i := 1) rfl (by decide +kernel)⟩
theorem ln_Lw_92 : Cond.methodLink "IronpourLaw" 92 M_Ip_minutes.1 ∈ z_gw := z_mj5 (i := 135) rfl (by decide +kernel)
theorem w_im_Ip_minutes : Cond.instanceMethod M_Ip_minutes.1 ∈ z_gw := z_mj5 (i := 136) rfl (by decide +kernel)
theorem w_se_Ip_minutes : Cond.selects M_Ip_minutes.1.cls M_Ip_minutes.1 M_Ip_minutes.1 ∈ z_gw := z_mj5 (i := 137) rfl (by decide +kernel)
theorem d_Lw_minutes_12 : decode method_24_code 12 = .ok (.astore_n 3, 1) := zo_78 (zd_b zq_method_24_code_0 12 rfl rfl rfl)
theorem d_Lw_minutes_13 : decode method_24_code 13 = .ok (.iconst 1, 1) := zo_4 (zd_b zq_method_24_code_0 13 rfl rfl rfl)
theorem d_Lw_minutes_14 : decode method_24_code 14 = .ok (.ireturn, 1) := zo_172 (zd_b zq_method_24_code_0 14 rfl rfl rfl)
theorem d_Lw_minutes_7 : decode method_24_code 7 = .ok (.i2l, 1) := zo_133 (zd_b zq_method_24_code_0 7 rfl rfl rfl)
theorem d_Lw_minutes_8 : decode method_24_code 8 = .ok (.lastore, 1) := zo_80 (zd_b zq_method_24_code_0 8 rfl rfl rfl)
theorem d_Lw_minutes_9 : decode method_24_code 9 = .ok (.goto 6, 3) := zo_167 (d := 0) (e := 6) (zd_b zq_method_24_code_0 9 rfl rfl rfl) (zd_b zq_method_24_code_0 10 rfl rfl rfl) (zd_b zq_method_24_code_0 11 rfl rfl rfl) (by decide +kernel)
theorem d_Lw_minutes_15 : decode method_24_code 15 = .ok (.iconst 0, 1) := zo_3 (zd_b zq_method_24_code_0 15 rfl rfl rfl)
theorem d_Lw_minutes_16 : decode method_24_code 16 = .ok (.ireturn, 1) := zo_172 (zd_b zq_method_24_code_0 16 rfl rfl rfl)
set_option maxHeartbeats 4000000 in
set_option maxRecDepth 100000 in
theorem W_minutes {g : zG} {ad : Nat → Nat} {t : zTT} {u : zNN} {w : zW} (hI : IVm g ad t u w) (x : Int32) : zMB g M_Lw_minutes [.ref (ad 0), .int x, .ref (ad 69)] w (fun o w1 => MKx g ad (tK_Ip_minutes x t u.1) u.1 o w1) 10 300 := by
  obtain ⟨s, hI⟩ := hI
  obtain ⟨e_a, wf_a, k_a⟩ := hI.1.2 0 (by decide)
  obtain rfl := kd_0.mp k_a
  obtain ⟨e_o1, wf_o1, k_o1⟩ := hI.1.2 69 (by decide)
  obtain rfl := kd_69.mp k_o1
  refine y_ofH (by decide) (by decide) (Nat.le_of_ble_eq_true rfl) (y_base (cs := [((ad 0), .inr (11, [.ref (ad 1), .ref (ad 5), .ref (ad 18), .ref (ad 31), .ref (ad 32), .ref (ad 36), .ref (ad 42), .ref (ad 45), .ref (ad 47), .ref (ad 49), .ref (ad 50), .ref (ad 51)])), ((ad 69), .inl (3, 1, .inr (.inl (((mg t s).1 69).2.1))))]) (hI.1.I [0, 69] _ rfl (by decide) (by decide) (List.forall_mem_cons.mpr ⟨wf_a, (List.forall_mem_cons.mpr ⟨wf_o1, (fun _ h => nomatch h)⟩)⟩)) ?_)
  refine y_lvE (lv2 := [(0, .ref (ad 0)), (1, .int x), (2, .ref (ad 69))]) rfl ?_
  refine y_aload_n d_Lw_minutes_0 rfl 2 rfl ?_
  refine y_iconst d_Lw_minutes_1 (v := 0) (by decide) ?_
  refine y_aload_n d_Lw_minutes_2 rfl 0 rfl ?_
  refine y_iload_n d_Lw_minutes_3 rfl 1 rfl ?_
  refine yw_callVH (As := [.int x]) (rest := [.int 0, .ref (ad 69)]) (q0 := 0) rfl rfl ln_Lw_92 w_im_Ip_minutes w_se_Ip_minutes ok_Lw_minutes_Ip_minutes d_Lw_minutes_4 (fun wA hA => K_Ip_minutes ⟨_, (hI.gen (t2 := (mg t s)) (is := [0, 69]) (L2 := []) hA rfl ⟨kd_0.mpr rfl, kd_69.mpr rfl, trivial⟩ (by decide) (by decide) (fun _ h => nomatch h) (fun _ h => nomatch h) (fun _ _ _ => rfl) (fun h => h) rfl)⟩ x) rfl rfl (Nat.le_of_ble_eq_true rfl) (by omega) (by omega) (fun wA4 hA4 E wB4 hx => ?_) (fun wA4 hA4 v wB4 hx => ?_)
  · obtain ⟨h1, u2, hu, hI2⟩ := hx
    obtain rfl := List.mem_singleton.mp (zriE h1)
    refine ⟨"java/lang/IllegalArgumentException", [], [], (0, 9, 12, 13), rfl, (fun z hz => nomatch hz), by decide, by decide, lx_Lw_13, ce_13, fun qx => ?_⟩
    refine y_base (cs := []) (z_I.nil wB4) ?_
    refine y_astore_n (lv' := [(3, .ref qx), (0, .ref (ad 0)), (1, .int x), (2, .ref (ad 69))]) d_Lw_minutes_12 rfl (by decide) rfl ?_
    refine y_iconst d_Lw_minutes_13 (v := 1) (by decide) ?_
    refine y_iret d_Lw_minutes_14 rfl rfl ?_
    exact fun w1 h1 => ⟨⟨_, rfl⟩, u2, hu, (z_I.same (z_I.nil _) h1).symm ▸ hI2⟩
  · obtain ⟨h1, u2, hu, hI2⟩ := hx
    obtain ⟨v9, rfl⟩ := zriV h1
    refine yw_st (st2 := [.int v9, .int 0, .ref (ad 69)]) rfl ?_
    obtain ⟨s9, hI⟩ := hI2
    obtain ⟨e_o1, wf_o1, k_o1⟩ := hI.1.2 69 (by decide)
    obtain rfl := kd_69.mp k_o1
    refine y_base (cs := [((ad 69), .inl (3, 1, .inr (.inl (((mg (tK_Ip_minutes x t u.1) s9).1 69).2.1))))]) (hI.1.I [69] _ rfl (by decide) (by decide) (List.forall_mem_cons.mpr ⟨wf_o1, (fun _ h => nomatch h)⟩)) ?_
    refine y_i2l d_Lw_minutes_7 (v := v9.toInt64) rfl ?_
    refine y_last d_Lw_minutes_8 (q0 := 0) rfl (fun q => q.elim (by decide) (by decide)) (f' := vp_updL (((mg (tK_Ip_minutes x t u.1) s9).1 69).2.1) 0 v9.toInt64) rfl (cs' := [((ad 69), .inl (3, 1, .inr (.inl (vp_updL (((mg (tK_Ip_minutes x t u.1) s9).1 69).2.1) 0 v9.toInt64))))]) rfl ?_
    refine y_goto (tgt := 15) d_Lw_minutes_9 (by decide) ?_
    refine y_iconst d_Lw_minutes_15 (v := 0) (by decide) ?_
    refine y_iret d_Lw_minutes_16 rfl rfl ?_
    exact fun w1 h1 => ⟨⟨_, rfl⟩, u2, hu, IVm.tz ((hI.gen (t2 := (zup (mg (tK_Ip_minutes x t u.1) s9).1 [(69, (((mg (tK_Ip_minutes x t u.1) s9).1 69).1, vp_updL (((mg (tK_Ip_minutes x t u.1) s9).1 69).2.1) 0 v9.toInt64, ((mg (tK_Ip_minutes x t u.1) s9).1 69).2.2))], (mg (tK_Ip_minutes x t u.1) s9).2)) (is := [69]) (L2 := []) h1 rfl ⟨kd_69.mpr rfl, trivial⟩ (by decide) (by decide) (fun _ h => nomatch h) (fun _ h => nomatch h) (fun i hi hn => zup_out (fun q => hn ((by decide : ∀ j ∈ ([69] : List Nat), j ∈ ([69] : List Nat)) i q))) (fun h => h) rfl)) (tx_all rfl)⟩
abbrev M_Lw_ladle : zM := (⟨"IronpourLaw", "ladle", "(LIronpour;C[J)I"⟩, method_25_code, 4, (Option.some FieldType.int), 9, 200, [((0 : Nat), (9 : Nat), (12 : Nat), (13 : Nat))])
theorem d_Lw_ladle_0 : decode method_25_code 0 = .ok (.aload_n 2, 1) := zo_44 (zd_b zq_method_25_code_0 0 rfl rfl rfl)
theorem d_Lw_ladle_1 : decode method_25_code 1 = .ok (.iconst 0, 1) := zo_3 (zd_b zq_method_25_code_0 1 rfl rfl rfl)
theorem d_Lw_ladle_2 : decode method_25_code 2 = .ok (.aload_n 0, 1) := zo_42 (zd_b zq_method_25_code_0 2 rfl rfl rfl)
theorem d_Lw_ladle_3 : decode method_25_code 3 = .ok (.iload_n 1, 1) := zo_27 (zd_b zq_method_25_code_0 3 rfl rfl rfl)
theorem d_Lw_ladle_4 : decode method_25_code 4 = .ok (.invokevirtual 95, 3) := zo_182 (d := 0) (e := 95) (zd_b zq_method_25_code_0 4 rfl rfl rfl) (zd_b zq_method_25_code_0 5 rfl rfl rfl) (zd_b zq_method_25_code_0 6 rfl rfl rfl)
theorem ok_Lw_ladle_Ip_ladle : z_okH M_Lw_ladle M_Ip_ladle 1 := ⟨z_mj5 (i := 152) rfl (by decide +kernel), rfl, ⟨by decide +kernel, by decide +kernel, by decide +kernel⟩, ⟨by decide, by decide⟩, z_mj1 (i := 1) rfl (by decide +kernel)⟩
theorem ln_Lw_95 : Cond.methodLink "IronpourLaw" 95 M_Ip_ladle.1 ∈ z_gw := z_mj5 (i := 149) rfl (by decide +kernel)
theorem w_im_Ip_ladle : Cond.instanceMethod M_Ip_ladle.1 ∈ z_gw := z_mj5 (i := 150) rfl (by decide +kernel)
theorem w_se_Ip_ladle : Cond.selects M_Ip_ladle.1.cls M_Ip_ladle.1 M_Ip_ladle.1 ∈ z_gw := z_mj5 (i := 151) rfl (by decide +kernel)
theorem d_Lw_ladle_12 : decode method_25_code 12 = .ok (.astore_n 3, 1) := zo_78 (zd_b zq_method_25_code_0 12 rfl rfl rfl)
theorem d_Lw_ladle_13 : decode method_25_code 13 = .ok (.iconst 1, 1) := zo_4 (zd_b zq_method_25_code_0 13 rfl rfl rfl)
theorem d_Lw_ladle_14 : decode method_25_code 14 = .ok (.ireturn, 1) := zo_172 (zd_b zq_method_25_code_0 14 rfl rfl rfl)
theorem d_Lw_ladle_7 : decode method_25_code 7 = .ok (.i2l, 1) := zo_133 (zd_b zq_method_25_code_0 7 rfl rfl rfl)
theorem d_Lw_ladle_8 : decode method_25_code 8 = .ok (.lastore, 1) := zo_80 (zd_b zq_method_25_code_0 8 rfl rfl rfl)
theorem d_Lw_ladle_9 : decode method_25_code 9 = .ok (.goto 6, 3) := zo_167 (d := 0) (e := 6) (zd_b zq_method_25_code_0 9 rfl rfl rfl) (zd_b zq_method_25_code_0 10 rfl rfl rfl) (zd_b zq_method_25_code_0 11 rfl rfl rfl) (by decide +kernel)
theorem d_Lw_ladle_15 : decode method_25_code 15 = .ok (.iconst 0, 1) := zo_3 (zd_b zq_method_25_code_0 15 rfl rfl rfl)
theorem d_Lw_ladle_16 : decode method_25_code 16 = .ok (.ireturn, 1) := zo_172 (zd_b zq_method_25_code_0 16 rfl rfl rfl)
set_option maxHeartbeats 4000000 in
set_option maxRecDepth 100000 in
theorem W_ladle {g : zG} {ad : Nat → Nat} {t : zTT} {u : zNN} {w : zW} (hI : IVm g ad t u w) (c : Int32) : zMB g M_Lw_ladle [.ref (ad 0), .int c, .ref (ad 69)] w (fun o w1 => MKx g ad t u.1 o w1) 10 300 := by
  obtain ⟨s, hI⟩ := hI
  obtain ⟨e_a, wf_a, k_a⟩ := hI.1.2 0 (by decide)
  obtain rfl := kd_0.mp k_a
  obtain ⟨e_o1, wf_o1, k_o1⟩ := hI.1.2 69 (by decide)
  obtain rfl := kd_69.mp k_o1
  refine y_ofH (by decide) (by decide) (Nat.le_of_ble_eq_true rfl) (y_base (cs := [((ad 0), .inr (11, [.ref (ad 1), .ref (ad 5), .ref (ad 18), .ref (ad 31), .ref (ad 32), .ref (ad 36), .ref (ad 42), .ref (ad 45), .ref (ad 47), .ref (ad 49), .ref (ad 50), .ref (ad 51)])), ((ad 69), .inl (3, 1, .inr (.inl (((mg t s).1 69).2.1))))]) (hI.1.I [0, 69] _ rfl (by decide) (by decide) (List.forall_mem_cons.mpr ⟨wf_a, (List.forall_mem_cons.mpr ⟨wf_o1, (fun _ h => nomatch h)⟩)⟩)) ?_)
  refine y_lvE (lv2 := [(0, .ref (ad 0)), (1, .int c), (2, .ref (ad 69))]) rfl ?_
  refine y_aload_n d_Lw_ladle_0 rfl 2 rfl ?_
  refine y_iconst d_Lw_ladle_1 (v := 0) (by decide) ?_
  refine y_aload_n d_Lw_ladle_2 rfl 0 rfl ?_
  refine y_iload_n d_Lw_ladle_3 rfl 1 rfl ?_
  refine yw_callVH (As := [.int c]) (rest := [.int 0, .ref (ad 69)]) (q0 := 0) rfl rfl ln_Lw_95 w_im_Ip_ladle w_se_Ip_ladle ok_Lw_ladle_Ip_ladle d_Lw_ladle_4 (fun wA hA => K_Ip_ladle ⟨_, (hI.gen (t2 := (mg t s)) (is := [0, 69]) (L2 := []) hA rfl ⟨kd_0.mpr rfl, kd_69.mpr rfl, trivial⟩ (by decide) (by decide) (fun _ h => nomatch h) (fun _ h => nomatch h) (fun _ _ _ => rfl) (fun h => h) rfl)⟩ c) rfl rfl (Nat.le_of_ble_eq_true rfl) (by omega) (by omega) (fun wA4 hA4 E wB4 hx => ?_) (fun wA4 hA4 v wB4 hx => ?_)
  · obtain ⟨h1, u2, hu, hI2⟩ := hx
    obtain rfl := List.mem_singleton.mp (zriE h1)
    refine ⟨"java/lang/IllegalArgumentException", [], [], (0, 9, 12, 13), rfl, (fun z hz => nomatch hz), by decide, by decide, lx_Lw_13, ce_13, fun qx => ?_⟩
    refine y_base (cs := []) (z_I.nil wB4) ?_
    refine y_astore_n (lv' := [(3, .ref qx), (0, .ref (ad 0)), (1, .int c), (2, .ref (ad 69))]) d_Lw_ladle_12 rfl (by decide) rfl ?_
    refine y_iconst d_Lw_ladle_13 (v := 1) (by decide) ?_
    refine y_iret d_Lw_ladle_14 rfl rfl ?_
    exact fun w1 h1 => ⟨⟨_, rfl⟩, u2, hu, (z_I.same (z_I.nil _) h1).symm ▸ hI2⟩
  · obtain ⟨h1, u2, hu, hI2⟩ := hx
    obtain ⟨v9, rfl⟩ := zriV h1
    refine yw_st (st2 := [.int v9, .int 0, .ref (ad 69)]) rfl ?_
    obtain ⟨s9, hI⟩ := hI2
    obtain ⟨e_o1, wf_o1, k_o1⟩ := hI.1.2 69 (by decide)
    obtain rfl := kd_69.mp k_o1
    refine y_base (cs := [((ad 69), .inl (3, 1, .inr (.inl (((mg t s9).1 69).2.1))))]) (hI.1.I [69] _ rfl (by decide) (by decide) (List.forall_mem_cons.mpr ⟨wf_o1, (fun _ h => nomatch h)⟩)) ?_
    refine y_i2l d_Lw_ladle_7 (v := v9.toInt64) rfl ?_
    refine y_last d_Lw_ladle_8 (q0 := 0) rfl (fun q => q.elim (by decide) (by decide)) (f' := vp_updL (((mg t s9).1 69).2.1) 0 v9.toInt64) rfl (cs' := [((ad 69), .inl (3, 1, .inr (.inl (vp_updL (((mg t s9).1 69).2.1) 0 v9.toInt64))))]) rfl ?_
    refine y_goto (tgt := 15) d_Lw_ladle_9 (by decide) ?_
    refine y_iconst d_Lw_ladle_15 (v := 0) (by decide) ?_
    refine y_iret d_Lw_ladle_16 rfl rfl ?_
    exact fun w1 h1 => ⟨⟨_, rfl⟩, u2, hu, IVm.tz ((hI.gen (t2 := (zup (mg t s9).1 [(69, (((mg t s9).1 69).1, vp_updL (((mg t s9).1 69).2.1) 0 v9.toInt64, ((mg t s9).1 69).2.2))], (mg t s9).2)) (is := [69]) (L2 := []) h1 rfl ⟨kd_69.mpr rfl, trivial⟩ (by decide) (by decide) (fun _ h => nomatch h) (fun _ h => nomatch h) (fun i hi hn => zup_out (fun q => hn ((by decide : ∀ j ∈ ([69] : List Nat), j ∈ ([69] : List Nat)) i q))) (fun h => h) rfl)) (tx_all rfl)⟩
abbrev M_Lw_pig : zM := (⟨"IronpourLaw", "pig", "(LIronpour;[J)I"⟩, method_26_code, 3, (Option.some FieldType.int), 7, 121, [((0 : Nat), (8 : Nat), (11 : Nat), (69 : Nat))])
theorem d_Lw_pig_0 : decode method_26_code 0 = .ok (.aload_n 1, 1) := zo_43 (zd_b zq_method_26_code_0 0 rfl rfl rfl)
theorem d_Lw_pig_1 : decode method_26_code 1 = .ok (.iconst 0, 1) := zo_3 (zd_b zq_method_26_code_0 1 rfl rfl rfl)
theorem d_Lw_pig_2 : decode method_26_code 2 = .ok (.aload_n 0, 1) := zo_42 (zd_b zq_method_26_code_0 2 rfl rfl rfl)
theorem d_Lw_pig_3 : decode method_26_code 3 = .ok (.invokevirtual 98, 3) := zo_182 (d := 0) (e := 98) (zd_b zq_method_26_code_0 3 rfl rfl rfl) (zd_b zq_method_26_code_0 4 rfl rfl rfl) (zd_b zq_method_26_code_0 5 rfl rfl rfl)
theorem ok_Lw_pig_Ip_pig : z_okH M_Lw_pig M_Ip_pig 0 := ⟨z_mj5 (i := 161) rfl (by decide +kernel), rfl, ⟨by decide +kernel, by decide +kernel, by decide +kernel⟩, ⟨by decide, by decide⟩, z_mj1 (i := 1) rfl (by decide +kernel)⟩
theorem ln_Lw_98 : Cond.methodLink "IronpourLaw" 98 M_Ip_pig.1 ∈ z_gw := z_mj5 (i := 158) rfl (by decide +kernel)
theorem w_im_Ip_pig : Cond.instanceMethod M_Ip_pig.1 ∈ z_gw := z_mj5 (i := 159) rfl (by decide +kernel)
theorem w_se_Ip_pig : Cond.selects M_Ip_pig.1.cls M_Ip_pig.1 M_Ip_pig.1 ∈ z_gw := z_mj5 (i := 160) rfl (by decide +kernel)
theorem d_Lw_pig_11 : decode method_26_code 11 = .ok (.astore_n 2, 1) := zo_77 (zd_b zq_method_26_code_0 11 rfl rfl rfl)
theorem d_Lw_pig_12 : decode method_26_code 12 = .ok (.iconst 1, 1) := zo_4 (zd_b zq_method_26_code_0 12 rfl rfl rfl)
theorem d_Lw_pig_13 : decode method_26_code 13 = .ok (.ireturn, 1) := zo_172 (zd_b zq_method_26_code_0 13 rfl rfl rfl)
theorem d_Lw_pig_6 : decode method_26_code 6 = .ok (.i2l, 1) := zo_133 (zd_b zq_method_26_code_0 6 rfl rfl rfl)
theorem d_Lw_pig_7 : decode method_26_code 7 = .ok (.lastore, 1) := zo_80 (zd_b zq_method_26_code_0 7 rfl rfl rfl)
theorem d_Lw_pig_8 : decode method_26_code 8 = .ok (.goto 6, 3) := zo_167 (d := 0) (e := 6) (zd_b zq_method_26_code_0 8 rfl rfl rfl) (zd_b zq_method_26_code_0 9 rfl rfl rfl) (zd_b zq_method_26_code_0 10 rfl rfl rfl) (by decide +kernel)
theorem d_Lw_pig_14 : decode method_26_code 14 = .ok (.iconst 0, 1) := zo_3 (zd_b zq_method_26_code_0 14 rfl rfl rfl)
theorem d_Lw_pig_15 : decode method_26_code 15 = .ok (.ireturn, 1) := zo_172 (zd_b zq_method_26_code_0 15 rfl rfl rfl)
set_option maxHeartbeats 4000000 in
set_option maxRecDepth 100000 in
theorem W_pig {g : zG} {ad : Nat → Nat} {t : zTT} {u : zNN} {w : zW} (hI : IVm g ad t u w) : zMB g M_Lw_pig [.ref (ad 0), .ref (ad 69)] w (fun o w1 => MKx g ad (tK_Ip_pig t) u.1 o w1) 10 300 := by
  obtain ⟨s, hI⟩ := hI
  obtain ⟨e_a, wf_a, k_a⟩ := hI.1.2 0 (by decide)
  obtain rfl := kd_0.mp k_a
  obtain ⟨e_o1, wf_o1, k_o1⟩ := hI.1.2 69 (by decide)
  obtain rfl := kd_69.mp k_o1
  refine y_ofH (by decide) (by decide) (Nat.le_of_ble_eq_true rfl) (y_base (cs := [((ad 0), .inr (11, [.ref (ad 1), .ref (ad 5), .ref (ad 18), .ref (ad 31), .ref (ad 32), .ref (ad 36), .ref (ad 42), .ref (ad 45), .ref (ad 47), .ref (ad 49), .ref (ad 50), .ref (ad 51)])), ((ad 69), .inl (3, 1, .inr (.inl (((mg t s).1 69).2.1))))]) (hI.1.I [0, 69] _ rfl (by decide) (by decide) (List.forall_mem_cons.mpr ⟨wf_a, (List.forall_mem_cons.mpr ⟨wf_o1, (fun _ h => nomatch h)⟩)⟩)) ?_)
  refine y_lvE (lv2 := [(0, .ref (ad 0)), (1, .ref (ad 69))]) rfl ?_
  refine y_aload_n d_Lw_pig_0 rfl 1 rfl ?_
  refine y_iconst d_Lw_pig_1 (v := 0) (by decide) ?_
  refine y_aload_n d_Lw_pig_2 rfl 0 rfl ?_
  refine yw_callVH (As := []) (rest := [.int 0, .ref (ad 69)]) (q0 := 0) rfl rfl ln_Lw_98 w_im_Ip_pig w_se_Ip_pig ok_Lw_pig_Ip_pig d_Lw_pig_3 (fun wA hA => K_Ip_pig ⟨_, (hI.gen (t2 := (mg t s)) (is := [0, 69]) (L2 := []) hA rfl ⟨kd_0.mpr rfl, kd_69.mpr rfl, trivial⟩ (by decide) (by decide) (fun _ h => nomatch h) (fun _ h => nomatch h) (fun _ _ _ => rfl) (fun h => h) rfl)⟩) rfl rfl (Nat.le_of_ble_eq_true rfl) (by omega) (by omega) (fun wA3 hA3 E wB3 hx => ?_) (fun wA3 hA3 v wB3 hx => ?_)
  · obtain ⟨h1, u2, hu, hI2⟩ := hx
    obtain rfl := List.mem_singleton.mp (zriE h1)
    refine ⟨"java/lang/IllegalStateException", [], [], (0, 8, 11, 69), rfl, (fun z hz => nomatch hz), by decide, by decide, lx_Lw_69, ce_69, fun qx => ?_⟩
    refine y_base (cs := []) (z_I.nil wB3) ?_
    refine y_astore_n (lv' := [(2, .ref qx), (0, .ref (ad 0)), (1, .ref (ad 69))]) d_Lw_pig_11 rfl (by decide) rfl ?_
    refine y_iconst d_Lw_pig_12 (v := 1) (by decide) ?_
    refine y_iret d_Lw_pig_13 rfl rfl ?_
    exact fun w1 h1 => ⟨⟨_, rfl⟩, u2, hu, (z_I.same (z_I.nil _) h1).symm ▸ hI2⟩
  · obtain ⟨h1, u2, hu, hI2⟩ := hx
    obtain ⟨v9, rfl⟩ := zriV h1
    refine yw_st (st2 := [.int v9, .int 0, .ref (ad 69)]) rfl ?_
    obtain ⟨s9, hI⟩ := hI2
    obtain ⟨e_o1, wf_o1, k_o1⟩ := hI.1.2 69 (by decide)
    obtain rfl := kd_69.mp k_o1
    refine y_base (cs := [((ad 69), .inl (3, 1, .inr (.inl (((mg (tK_Ip_pig t) s9).1 69).2.1))))]) (hI.1.I [69] _ rfl (by decide) (by decide) (List.forall_mem_cons.mpr ⟨wf_o1, (fun _ h => nomatch h)⟩)) ?_
    refine y_i2l d_Lw_pig_6 (v := v9.toInt64) rfl ?_
    refine y_last d_Lw_pig_7 (q0 := 0) rfl (fun q => q.elim (by decide) (by decide)) (f' := vp_updL (((mg (tK_Ip_pig t) s9).1 69).2.1) 0 v9.toInt64) rfl (cs' := [((ad 69), .inl (3, 1, .inr (.inl (vp_updL (((mg (tK_Ip_pig t) s9).1 69).2.1) 0 v9.toInt64))))]) rfl ?_
    refine y_goto (tgt := 14) d_Lw_pig_8 (by decide) ?_
    refine y_iconst d_Lw_pig_14 (v := 0) (by decide) ?_
    refine y_iret d_Lw_pig_15 rfl rfl ?_
    exact fun w1 h1 => ⟨⟨_, rfl⟩, u2, hu, IVm.tz ((hI.gen (t2 := (zup (mg (tK_Ip_pig t) s9).1 [(69, (((mg (tK_Ip_pig t) s9).1 69).1, vp_updL (((mg (tK_Ip_pig t) s9).1 69).2.1) 0 v9.toInt64, ((mg (tK_Ip_pig t) s9).1 69).2.2))], (mg (tK_Ip_pig t) s9).2)) (is := [69]) (L2 := []) h1 rfl ⟨kd_69.mpr rfl, trivial⟩ (by decide) (by decide) (fun _ h => nomatch h) (fun _ h => nomatch h) (fun i hi hn => zup_out (fun q => hn ((by decide : ∀ j ∈ ([69] : List Nat), j ∈ ([69] : List Nat)) i q))) (fun h => h) rfl)) (tx_all rfl)⟩
abbrev M_Lw_pool : zM := (⟨"IronpourLaw", "pool", "(LIronpour;C[J)I"⟩, method_27_code, 4, (Option.some FieldType.int), 7, 122, [((0 : Nat), (9 : Nat), (12 : Nat), (13 : Nat))])
theorem d_Lw_pool_0 : decode method_27_code 0 = .ok (.aload_n 2, 1) := zo_44 (zd_b zq_method_27_code_0 0 rfl rfl rfl)
theorem d_Lw_pool_1 : decode method_27_code 1 = .ok (.iconst 0, 1) := zo_3 (zd_b zq_method_27_code_0 1 rfl rfl rfl)
theorem d_Lw_pool_2 : decode method_27_code 2 = .ok (.aload_n 0, 1) := zo_42 (zd_b zq_method_27_code_0 2 rfl rfl rfl)
theorem d_Lw_pool_3 : decode method_27_code 3 = .ok (.iload_n 1, 1) := zo_27 (zd_b zq_method_27_code_0 3 rfl rfl rfl)
theorem d_Lw_pool_4 : decode method_27_code 4 = .ok (.invokevirtual 101, 3) := zo_182 (d := 0) (e := 101) (zd_b zq_method_27_code_0 4 rfl rfl rfl) (zd_b zq_method_27_code_0 5 rfl rfl rfl) (zd_b zq_method_27_code_0 6 rfl rfl rfl)
theorem ok_Lw_pool_Ip_pool : z_okH M_Lw_pool M_Ip_pool 1 := ⟨z_mj5 (i := 168) rfl (by decide +kernel), rfl, ⟨by decide +kernel, by decide +kernel, by decide +kernel⟩, ⟨by decide, by decide⟩, z_mj1 (i := 1) rfl (by decide +kernel)⟩
theorem ln_Lw_101 : Cond.methodLink "IronpourLaw" 101 M_Ip_pool.1 ∈ z_gw := z_mj5 (i := 165) rfl (by decide +kernel)
theorem w_im_Ip_pool : Cond.instanceMethod M_Ip_pool.1 ∈ z_gw := z_mj5 (i := 166) rfl (by decide +kernel)
theorem w_se_Ip_pool : Cond.selects M_Ip_pool.1.cls M_Ip_pool.1 M_Ip_pool.1 ∈ z_gw := z_mj5 (i := 167) rfl (by decide +kernel)
theorem d_Lw_pool_12 : decode method_27_code 12 = .ok (.astore_n 3, 1) := zo_78 (zd_b zq_method_27_code_0 12 rfl rfl rfl)
theorem d_Lw_pool_13 : decode method_27_code 13 = .ok (.iconst 1, 1) := zo_4 (zd_b zq_method_27_code_0 13 rfl rfl rfl)
theorem d_Lw_pool_14 : decode method_27_code 14 = .ok (.ireturn, 1) := zo_172 (zd_b zq_method_27_code_0 14 rfl rfl rfl)
theorem d_Lw_pool_7 : decode method_27_code 7 = .ok (.i2l, 1) := zo_133 (zd_b zq_method_27_code_0 7 rfl rfl rfl)
theorem d_Lw_pool_8 : decode method_27_code 8 = .ok (.lastore, 1) := zo_80 (zd_b zq_method_27_code_0 8 rfl rfl rfl)
theorem d_Lw_pool_9 : decode method_27_code 9 = .ok (.goto 6, 3) := zo_167 (d := 0) (e := 6) (zd_b zq_method_27_code_0 9 rfl rfl rfl) (zd_b zq_method_27_code_0 10 rfl rfl rfl) (zd_b zq_method_27_code_0 11 rfl rfl rfl) (by decide +kernel)
theorem d_Lw_pool_15 : decode method_27_code 15 = .ok (.iconst 0, 1) := zo_3 (zd_b zq_method_27_code_0 15 rfl rfl rfl)
theorem d_Lw_pool_16 : decode method_27_code 16 = .ok (.ireturn, 1) := zo_172 (zd_b zq_method_27_code_0 16 rfl rfl rfl)
set_option maxHeartbeats 4000000 in
set_option maxRecDepth 100000 in
theorem W_pool {g : zG} {ad : Nat → Nat} {t : zTT} {u : zNN} {w : zW} (hI : IVm g ad t u w) (k : Int32) : zMB g M_Lw_pool [.ref (ad 0), .int k, .ref (ad 69)] w (fun o w1 => MKx g ad t u.1 o w1) 10 300 := by
  obtain ⟨s, hI⟩ := hI
  obtain ⟨e_a, wf_a, k_a⟩ := hI.1.2 0 (by decide)
  obtain rfl := kd_0.mp k_a
  obtain ⟨e_o1, wf_o1, k_o1⟩ := hI.1.2 69 (by decide)
  obtain rfl := kd_69.mp k_o1
  refine y_ofH (by decide) (by decide) (Nat.le_of_ble_eq_true rfl) (y_base (cs := [((ad 0), .inr (11, [.ref (ad 1), .ref (ad 5), .ref (ad 18), .ref (ad 31), .ref (ad 32), .ref (ad 36), .ref (ad 42), .ref (ad 45), .ref (ad 47), .ref (ad 49), .ref (ad 50), .ref (ad 51)])), ((ad 69), .inl (3, 1, .inr (.inl (((mg t s).1 69).2.1))))]) (hI.1.I [0, 69] _ rfl (by decide) (by decide) (List.forall_mem_cons.mpr ⟨wf_a, (List.forall_mem_cons.mpr ⟨wf_o1, (fun _ h => nomatch h)⟩)⟩)) ?_)
  refine y_lvE (lv2 := [(0, .ref (ad 0)), (1, .int k), (2, .ref (ad 69))]) rfl ?_
  refine y_aload_n d_Lw_pool_0 rfl 2 rfl ?_
  refine y_iconst d_Lw_pool_1 (v := 0) (by decide) ?_
  refine y_aload_n d_Lw_pool_2 rfl 0 rfl ?_
  refine y_iload_n d_Lw_pool_3 rfl 1 rfl ?_
  refine yw_callVH (As := [.int k]) (rest := [.int 0, .ref (ad 69)]) (q0 := 0) rfl rfl ln_Lw_101 w_im_Ip_pool w_se_Ip_pool ok_Lw_pool_Ip_pool d_Lw_pool_4 (fun wA hA => K_Ip_pool ⟨_, (hI.gen (t2 := (mg t s)) (is := [0, 69]) (L2 := []) hA rfl ⟨kd_0.mpr rfl, kd_69.mpr rfl, trivial⟩ (by decide) (by decide) (fun _ h => nomatch h) (fun _ h => nomatch h) (fun _ _ _ => rfl) (fun h => h) rfl)⟩ k) rfl rfl (Nat.le_of_ble_eq_true rfl) (by omega) (by omega) (fun wA4 hA4 E wB4 hx => ?_) (fun wA4 hA4 v wB4 hx => ?_)
  · obtain ⟨h1, u2, hu, hI2⟩ := hx
    obtain rfl := List.mem_singleton.mp (zriE h1)
    refine ⟨"java/lang/IllegalArgumentException", [], [], (0, 9, 12, 13), rfl, (fun z hz => nomatch hz), by decide, by decide, lx_Lw_13, ce_13, fun qx => ?_⟩
    refine y_base (cs := []) (z_I.nil wB4) ?_
    refine y_astore_n (lv' := [(3, .ref qx), (0, .ref (ad 0)), (1, .int k), (2, .ref (ad 69))]) d_Lw_pool_12 rfl (by decide) rfl ?_
    refine y_iconst d_Lw_pool_13 (v := 1) (by decide) ?_
    refine y_iret d_Lw_pool_14 rfl rfl ?_
    exact fun w1 h1 => ⟨⟨_, rfl⟩, u2, hu, (z_I.same (z_I.nil _) h1).symm ▸ hI2⟩
  · obtain ⟨h1, u2, hu, hI2⟩ := hx
    obtain ⟨v9, rfl⟩ := zriV h1
    refine yw_st (st2 := [.int v9, .int 0, .ref (ad 69)]) rfl ?_
    obtain ⟨s9, hI⟩ := hI2
    obtain ⟨e_o1, wf_o1, k_o1⟩ := hI.1.2 69 (by decide)
    obtain rfl := kd_69.mp k_o1
    refine y_base (cs := [((ad 69), .inl (3, 1, .inr (.inl (((mg t s9).1 69).2.1))))]) (hI.1.I [69] _ rfl (by decide) (by decide) (List.forall_mem_cons.mpr ⟨wf_o1, (fun _ h => nomatch h)⟩)) ?_
    refine y_i2l d_Lw_pool_7 (v := v9.toInt64) rfl ?_
    refine y_last d_Lw_pool_8 (q0 := 0) rfl (fun q => q.elim (by decide) (by decide)) (f' := vp_updL (((mg t s9).1 69).2.1) 0 v9.toInt64) rfl (cs' := [((ad 69), .inl (3, 1, .inr (.inl (vp_updL (((mg t s9).1 69).2.1) 0 v9.toInt64))))]) rfl ?_
    refine y_goto (tgt := 15) d_Lw_pool_9 (by decide) ?_
    refine y_iconst d_Lw_pool_15 (v := 0) (by decide) ?_
    refine y_iret d_Lw_pool_16 rfl rfl ?_
    exact fun w1 h1 => ⟨⟨_, rfl⟩, u2, hu, IVm.tz ((hI.gen (t2 := (zup (mg t s9).1 [(69, (((mg t s9).1 69).1, vp_updL (((mg t s9).1 69).2.1) 0 v9.toInt64, ((mg t s9).1 69).2.2))], (mg t s9).2)) (is := [69]) (L2 := []) h1 rfl ⟨kd_69.mpr rfl, trivial⟩ (by decide) (by decide) (fun _ h => nomatch h) (fun _ h => nomatch h) (fun i hi hn => zup_out (fun q => hn ((by decide : ∀ j ∈ ([69] : List Nat), j ∈ ([69] : List Nat)) i q))) (fun h => h) rfl)) (tx_all rfl)⟩
abbrev M_Lw_poolHas : zM := (⟨"IronpourLaw", "poolHas", "(LIronpour;CC[J)I"⟩, method_28_code, 5, (Option.some FieldType.int), 10, 224, [((0 : Nat), (10 : Nat), (13 : Nat), (13 : Nat)), ((0 : Nat), (10 : Nat), (17 : Nat), (33 : Nat))])
theorem d_Lw_poolHas_0 : decode method_28_code 0 = .ok (.aload_n 3, 1) := zo_45 (zd_b zq_method_28_code_0 0 rfl rfl rfl)
theorem d_Lw_poolHas_1 : decode method_28_code 1 = .ok (.iconst 0, 1) := zo_3 (zd_b zq_method_28_code_0 1 rfl rfl rfl)
theorem d_Lw_poolHas_2 : decode method_28_code 2 = .ok (.aload_n 0, 1) := zo_42 (zd_b zq_method_28_code_0 2 rfl rfl rfl)
theorem d_Lw_poolHas_3 : decode method_28_code 3 = .ok (.iload_n 1, 1) := zo_27 (zd_b zq_method_28_code_0 3 rfl rfl rfl)
theorem d_Lw_poolHas_4 : decode method_28_code 4 = .ok (.iload_n 2, 1) := zo_28 (zd_b zq_method_28_code_0 4 rfl rfl rfl)
theorem d_Lw_poolHas_5 : decode method_28_code 5 = .ok (.invokevirtual 104, 3) := zo_182 (d := 0) (e := 104) (zd_b zq_method_28_code_0 5 rfl rfl rfl) (zd_b zq_method_28_code_0 6 rfl rfl rfl) (zd_b zq_method_28_code_0 7 rfl rfl rfl)
theorem ok_Lw_poolHas_Ip_poolHas : z_okH M_Lw_poolHas M_Ip_poolHas 2 := ⟨z_mj5 (i := 176) rfl (by decide +kernel), rfl, ⟨by decide +kernel, by decide +kernel, by decide +kernel⟩, ⟨by decide, by decide⟩, z_mj1 (i := 1) rfl (by decide +kernel)⟩
theorem ln_Lw_104 : Cond.methodLink "IronpourLaw" 104 M_Ip_poolHas.1 ∈ z_gw := z_mj5 (i := 173) rfl (by decide +kernel)
theorem w_im_Ip_poolHas : Cond.instanceMethod M_Ip_poolHas.1 ∈ z_gw := z_mj5 (i := 174) rfl (by decide +kernel)
theorem w_se_Ip_poolHas : Cond.selects M_Ip_poolHas.1.cls M_Ip_poolHas.1 M_Ip_poolHas.1 ∈ z_gw := z_mj5 (i := 175) rfl (by decide +kernel)
theorem d_Lw_poolHas_13 : decode method_28_code 13 = .ok (.astore 4, 2) := zo_58 (d := 4) (zd_b zq_method_28_code_0 13 rfl rfl rfl) (zd_b zq_method_28_code_0 14 rfl rfl rfl)
theorem d_Lw_poolHas_15 : decode method_28_code 15 = .ok (.iconst 1, 1) := zo_4 (zd_b zq_method_28_code_0 15 rfl rfl rfl)
theorem d_Lw_poolHas_16 : decode method_28_code 16 = .ok (.ireturn, 1) := zo_172 (zd_b zq_method_28_code_0 16 rfl rfl rfl)
theorem d_Lw_poolHas_17 : decode method_28_code 17 = .ok (.astore 4, 2) := zo_58 (d := 4) (zd_b zq_method_28_code_0 17 rfl rfl rfl) (zd_b zq_method_28_code_0 18 rfl rfl rfl)
theorem d_Lw_poolHas_19 : decode method_28_code 19 = .ok (.iconst 2, 1) := zo_5 (zd_b zq_method_28_code_0 19 rfl rfl rfl)
theorem d_Lw_poolHas_20 : decode method_28_code 20 = .ok (.ireturn, 1) := zo_172 (zd_b zq_method_28_code_0 20 rfl rfl rfl)
theorem d_Lw_poolHas_8 : decode method_28_code 8 = .ok (.i2l, 1) := zo_133 (zd_b zq_method_28_code_0 8 rfl rfl rfl)
theorem d_Lw_poolHas_9 : decode method_28_code 9 = .ok (.lastore, 1) := zo_80 (zd_b zq_method_28_code_0 9 rfl rfl rfl)
theorem d_Lw_poolHas_10 : decode method_28_code 10 = .ok (.goto 11, 3) := zo_167 (d := 0) (e := 11) (zd_b zq_method_28_code_0 10 rfl rfl rfl) (zd_b zq_method_28_code_0 11 rfl rfl rfl) (zd_b zq_method_28_code_0 12 rfl rfl rfl) (by decide +kernel)
theorem d_Lw_poolHas_21 : decode method_28_code 21 = .ok (.iconst 0, 1) := zo_3 (zd_b zq_method_28_code_0 21 rfl rfl rfl)
theorem d_Lw_poolHas_22 : decode method_28_code 22 = .ok (.ireturn, 1) := zo_172 (zd_b zq_method_28_code_0 22 rfl rfl rfl)
set_option maxHeartbeats 4000000 in
set_option maxRecDepth 100000 in
theorem W_poolHas {g : zG} {ad : Nat → Nat} {t : zTT} {u : zNN} {w : zW} (hI : IVm g ad t u w) (k0 k : Int32) : zMB g M_Lw_poolHas [.ref (ad 0), .int k0, .int k, .ref (ad 69)] w (fun o w1 => MKx g ad t u.1 o w1) 10 300 := by
  obtain ⟨s, hI⟩ := hI
  obtain ⟨e_a, wf_a, k_a⟩ := hI.1.2 0 (by decide)
  obtain rfl := kd_0.mp k_a
  obtain ⟨e_o1, wf_o1, k_o1⟩ := hI.1.2 69 (by decide)
  obtain rfl := kd_69.mp k_o1
  refine y_ofH (by decide) (by decide) (Nat.le_of_ble_eq_true rfl) (y_base (cs := [((ad 0), .inr (11, [.ref (ad 1), .ref (ad 5), .ref (ad 18), .ref (ad 31), .ref (ad 32), .ref (ad 36), .ref (ad 42), .ref (ad 45), .ref (ad 47), .ref (ad 49), .ref (ad 50), .ref (ad 51)])), ((ad 69), .inl (3, 1, .inr (.inl (((mg t s).1 69).2.1))))]) (hI.1.I [0, 69] _ rfl (by decide) (by decide) (List.forall_mem_cons.mpr ⟨wf_a, (List.forall_mem_cons.mpr ⟨wf_o1, (fun _ h => nomatch h)⟩)⟩)) ?_)
  refine y_lvE (lv2 := [(0, .ref (ad 0)), (1, .int k0), (2, .int k), (3, .ref (ad 69))]) rfl ?_
  refine y_aload_n d_Lw_poolHas_0 rfl 3 rfl ?_
  refine y_iconst d_Lw_poolHas_1 (v := 0) (by decide) ?_
  refine y_aload_n d_Lw_poolHas_2 rfl 0 rfl ?_
  refine y_iload_n d_Lw_poolHas_3 rfl 1 rfl ?_
  refine y_iload_n d_Lw_poolHas_4 rfl 2 rfl ?_
  refine yw_callVH (As := [.int k0, .int k]) (rest := [.int 0, .ref (ad 69)]) (q0 := 0) rfl rfl ln_Lw_104 w_im_Ip_poolHas w_se_Ip_poolHas ok_Lw_poolHas_Ip_poolHas d_Lw_poolHas_5 (fun wA hA => K_Ip_poolHas ⟨_, (hI.gen (t2 := (mg t s)) (is := [0, 69]) (L2 := []) hA rfl ⟨kd_0.mpr rfl, kd_69.mpr rfl, trivial⟩ (by decide) (by decide) (fun _ h => nomatch h) (fun _ h => nomatch h) (fun _ _ _ => rfl) (fun h => h) rfl)⟩ k0 k) rfl rfl (Nat.le_of_ble_eq_true rfl) (by omega) (by omega) (fun wA5 hA5 E wB5 hx => ?_) (fun wA5 hA5 v wB5 hx => ?_)
  · obtain ⟨h1, u2, hu, hI2⟩ := hx
    rcases List.mem_cons.mp (zriE h1) with rfl | g2
    · refine ⟨"java/lang/IllegalArgumentException", [], [(0, 10, 17, 33)], (0, 10, 13, 13), rfl, (fun z hz => nomatch hz), by decide, by decide, lx_Lw_13, ce_13, fun qx => ?_⟩
      refine y_base (cs := []) (z_I.nil wB5) ?_
      refine y_astore (lv' := [(4, .ref qx), (0, .ref (ad 0)), (1, .int k0), (2, .int k), (3, .ref (ad 69))]) d_Lw_poolHas_13 (by decide) rfl ?_
      refine y_iconst d_Lw_poolHas_15 (v := 1) (by decide) ?_
      refine y_iret d_Lw_poolHas_16 rfl rfl ?_
      exact fun w1 h1 => ⟨⟨_, rfl⟩, u2, hu, (z_I.same (z_I.nil _) h1).symm ▸ hI2⟩
    · obtain rfl := List.mem_singleton.mp g2
      refine ⟨"java/util/NoSuchElementException", [(0, 10, 13, 13)], [], (0, 10, 17, 33), rfl, (fun z hz => by simp only [List.mem_cons, List.not_mem_nil, or_false] at hz; rcases hz with rfl; exact Or.inr ⟨by decide, _, lx_Lw_13, by decide⟩), by decide, by decide, lx_Lw_33, ce_33, fun qx => ?_⟩
      refine y_base (cs := []) (z_I.nil wB5) ?_
      refine y_astore (lv' := [(4, .ref qx), (0, .ref (ad 0)), (1, .int k0), (2, .int k), (3, .ref (ad 69))]) d_Lw_poolHas_17 (by decide) rfl ?_
      refine y_iconst d_Lw_poolHas_19 (v := 2) (by decide) ?_
      refine y_iret d_Lw_poolHas_20 rfl rfl ?_
      exact fun w1 h1 => ⟨⟨_, rfl⟩, u2, hu, (z_I.same (z_I.nil _) h1).symm ▸ hI2⟩
  · obtain ⟨h1, u2, hu, hI2⟩ := hx
    obtain ⟨v9, rfl⟩ := zriV h1
    refine yw_st (st2 := [.int v9, .int 0, .ref (ad 69)]) rfl ?_
    obtain ⟨s9, hI⟩ := hI2
    obtain ⟨e_o1, wf_o1, k_o1⟩ := hI.1.2 69 (by decide)
    obtain rfl := kd_69.mp k_o1
    refine y_base (cs := [((ad 69), .inl (3, 1, .inr (.inl (((mg t s9).1 69).2.1))))]) (hI.1.I [69] _ rfl (by decide) (by decide) (List.forall_mem_cons.mpr ⟨wf_o1, (fun _ h => nomatch h)⟩)) ?_
    refine y_i2l d_Lw_poolHas_8 (v := v9.toInt64) rfl ?_
    refine y_last d_Lw_poolHas_9 (q0 := 0) rfl (fun q => q.elim (by decide) (by decide)) (f' := vp_updL (((mg t s9).1 69).2.1) 0 v9.toInt64) rfl (cs' := [((ad 69), .inl (3, 1, .inr (.inl (vp_updL (((mg t s9).1 69).2.1) 0 v9.toInt64))))]) rfl ?_
    refine y_goto (tgt := 21) d_Lw_poolHas_10 (by decide) ?_
    refine y_iconst d_Lw_poolHas_21 (v := 0) (by decide) ?_
    refine y_iret d_Lw_poolHas_22 rfl rfl ?_
    exact fun w1 h1 => ⟨⟨_, rfl⟩, u2, hu, IVm.tz ((hI.gen (t2 := (zup (mg t s9).1 [(69, (((mg t s9).1 69).1, vp_updL (((mg t s9).1 69).2.1) 0 v9.toInt64, ((mg t s9).1 69).2.2))], (mg t s9).2)) (is := [69]) (L2 := []) h1 rfl ⟨kd_69.mpr rfl, trivial⟩ (by decide) (by decide) (fun _ h => nomatch h) (fun _ h => nomatch h) (fun i hi hn => zup_out (fun q => hn ((by decide : ∀ j ∈ ([69] : List Nat), j ∈ ([69] : List Nat)) i q))) (fun h => h) rfl)) (tx_all rfl)⟩
abbrev M_Lw_leastCost : zM := (⟨"IronpourLaw", "leastCost", "(LIronpour;IIIIII[J)I"⟩, method_29_code, 9, (Option.some FieldType.int), 7, 127, [((0 : Nat), (18 : Nat), (21 : Nat), (13 : Nat)), ((0 : Nat), (18 : Nat), (25 : Nat), (33 : Nat))])
theorem d_Lw_leastCost_0 : decode method_29_code 0 = .ok (.aload 7, 2) := zo_25 (d := 7) (zd_b zq_method_29_code_0 0 rfl rfl rfl) (zd_b zq_method_29_code_0 1 rfl rfl rfl)
theorem d_Lw_leastCost_2 : decode method_29_code 2 = .ok (.iconst 0, 1) := zo_3 (zd_b zq_method_29_code_0 2 rfl rfl rfl)
theorem d_Lw_leastCost_3 : decode method_29_code 3 = .ok (.aload_n 0, 1) := zo_42 (zd_b zq_method_29_code_0 3 rfl rfl rfl)
theorem d_Lw_leastCost_4 : decode method_29_code 4 = .ok (.iload_n 1, 1) := zo_27 (zd_b zq_method_29_code_0 4 rfl rfl rfl)
theorem d_Lw_leastCost_5 : decode method_29_code 5 = .ok (.iload_n 2, 1) := zo_28 (zd_b zq_method_29_code_0 5 rfl rfl rfl)
theorem d_Lw_leastCost_6 : decode method_29_code 6 = .ok (.iload_n 3, 1) := zo_29 (zd_b zq_method_29_code_0 6 rfl rfl rfl)
theorem d_Lw_leastCost_7 : decode method_29_code 7 = .ok (.iload 4, 2) := zo_21 (d := 4) (zd_b zq_method_29_code_0 7 rfl rfl rfl) (zd_b zq_method_29_code_0 8 rfl rfl rfl)
theorem d_Lw_leastCost_9 : decode method_29_code 9 = .ok (.iload 5, 2) := zo_21 (d := 5) (zd_b zq_method_29_code_0 9 rfl rfl rfl) (zd_b zq_method_29_code_0 10 rfl rfl rfl)
theorem d_Lw_leastCost_11 : decode method_29_code 11 = .ok (.iload 6, 2) := zo_21 (d := 6) (zd_b zq_method_29_code_0 11 rfl rfl rfl) (zd_b zq_method_29_code_0 12 rfl rfl rfl)
theorem d_Lw_leastCost_13 : decode method_29_code 13 = .ok (.invokevirtual 108, 3) := zo_182 (d := 0) (e := 108) (zd_b zq_method_29_code_0 13 rfl rfl rfl) (zd_b zq_method_29_code_0 14 rfl rfl rfl) (zd_b zq_method_29_code_0 15 rfl rfl rfl)
theorem ok_Lw_leastCost_Ip_leastCost : z_okH M_Lw_leastCost M_Ip_leastCost 6 := ⟨z_mj5 (i := 184) rfl (by decide +kernel), rfl, ⟨by decide +kernel, by decide +kernel, by decide +kernel⟩, ⟨by decide, by decide⟩, z_mj1 (i := 1) rfl (by decide +kernel)⟩
theorem ln_Lw_108 : Cond.methodLink "IronpourLaw" 108 M_Ip_leastCost.1 ∈ z_gw := z_mj5 (i := 181) rfl (by decide +kernel)
theorem w_im_Ip_leastCost : Cond.instanceMethod M_Ip_leastCost.1 ∈ z_gw := z_mj5 (i := 182) rfl (by decide +kernel)
theorem w_se_Ip_leastCost : Cond.selects M_Ip_leastCost.1.cls M_Ip_leastCost.1 M_Ip_leastCost.1 ∈ z_gw := z_mj5 (i := 183) rfl (by decide +kernel)
theorem d_Lw_leastCost_21 : decode method_29_code 21 = .ok (.astore 8, 2) := zo_58 (d := 8) (zd_b zq_method_29_code_0 21 rfl rfl rfl) (zd_b zq_method_29_code_0 22 rfl rfl rfl)
theorem d_Lw_leastCost_23 : decode method_29_code 23 = .ok (.iconst 1, 1) := zo_4 (zd_b zq_method_29_code_0 23 rfl rfl rfl)
theorem d_Lw_leastCost_24 : decode method_29_code 24 = .ok (.ireturn, 1) := zo_172 (zd_b zq_method_29_code_0 24 rfl rfl rfl)
theorem d_Lw_leastCost_25 : decode method_29_code 25 = .ok (.astore 8, 2) := zo_58 (d := 8) (zd_b zq_method_29_code_0 25 rfl rfl rfl) (zd_b zq_method_29_code_0 26 rfl rfl rfl)
theorem d_Lw_leastCost_27 : decode method_29_code 27 = .ok (.iconst 2, 1) := zo_5 (zd_b zq_method_29_code_0 27 rfl rfl rfl)
theorem d_Lw_leastCost_28 : decode method_29_code 28 = .ok (.ireturn, 1) := zo_172 (zd_b zq_method_29_code_0 28 rfl rfl rfl)
theorem d_Lw_leastCost_16 : decode method_29_code 16 = .ok (.i2l, 1) := zo_133 (zd_b zq_method_29_code_0 16 rfl rfl rfl)
theorem d_Lw_leastCost_17 : decode method_29_code 17 = .ok (.lastore, 1) := zo_80 (zd_b zq_method_29_code_0 17 rfl rfl rfl)
theorem d_Lw_leastCost_18 : decode method_29_code 18 = .ok (.goto 11, 3) := zo_167 (d := 0) (e := 11) (zd_b zq_method_29_code_0 18 rfl rfl rfl) (zd_b zq_method_29_code_0 19 rfl rfl rfl) (zd_b zq_method_29_code_0 20 rfl rfl rfl) (by decide +kernel)
theorem d_Lw_leastCost_29 : decode method_29_code 29 = .ok (.iconst 0, 1) := zo_3 (zd_b zq_method_29_code_0 29 rfl rfl rfl)
theorem d_Lw_leastCost_30 : decode method_29_code 30 = .ok (.ireturn, 1) := zo_172 (zd_b zq_method_29_code_0 30 rfl rfl rfl)
set_option maxHeartbeats 4000000 in
set_option maxRecDepth 100000 in
theorem W_leastCost {g : zG} {ad : Nat → Nat} {t : zTT} {u : zNN} {w : zW} (hI : IVm g ad t u w) (x1 x2 x3 x4 x5 x6 : Int32) : zMB g M_Lw_leastCost [.ref (ad 0), .int x1, .int x2, .int x3, .int x4, .int x5, .int x6, .ref (ad 69)] w (fun o w1 => MKx g ad (tK_Ip_leastCost x1 x2 x3 x4 x5 x6 t) u.1 o w1) 10 300 := by
  obtain ⟨s, hI⟩ := hI
  obtain ⟨e_a, wf_a, k_a⟩ := hI.1.2 0 (by decide)
  obtain rfl := kd_0.mp k_a
  obtain ⟨e_o1, wf_o1, k_o1⟩ := hI.1.2 69 (by decide)
  obtain rfl := kd_69.mp k_o1
  refine y_ofH (by decide) (by decide) (Nat.le_of_ble_eq_true rfl) (y_base (cs := [((ad 0), .inr (11, [.ref (ad 1), .ref (ad 5), .ref (ad 18), .ref (ad 31), .ref (ad 32), .ref (ad 36), .ref (ad 42), .ref (ad 45), .ref (ad 47), .ref (ad 49), .ref (ad 50), .ref (ad 51)])), ((ad 69), .inl (3, 1, .inr (.inl (((mg t s).1 69).2.1))))]) (hI.1.I [0, 69] _ rfl (by decide) (by decide) (List.forall_mem_cons.mpr ⟨wf_a, (List.forall_mem_cons.mpr ⟨wf_o1, (fun _ h => nomatch h)⟩)⟩)) ?_)
  refine y_lvE (lv2 := [(0, .ref (ad 0)), (1, .int x1), (2, .int x2), (3, .int x3), (4, .int x4), (5, .int x5), (6, .int x6), (7, .ref (ad 69))]) rfl ?_
  refine y_aload d_Lw_leastCost_0 7 rfl ?_
  refine y_iconst d_Lw_leastCost_2 (v := 0) (by decide) ?_
  refine y_aload_n d_Lw_leastCost_3 rfl 0 rfl ?_
  refine y_iload_n d_Lw_leastCost_4 rfl 1 rfl ?_
  refine y_iload_n d_Lw_leastCost_5 rfl 2 rfl ?_
  refine y_iload_n d_Lw_leastCost_6 rfl 3 rfl ?_
  refine y_iload d_Lw_leastCost_7 4 rfl ?_
  refine y_iload d_Lw_leastCost_9 5 rfl ?_
  refine y_iload d_Lw_leastCost_11 6 rfl ?_
  refine yw_callVH (As := [.int x1, .int x2, .int x3, .int x4, .int x5, .int x6]) (rest := [.int 0, .ref (ad 69)]) (q0 := 0) rfl rfl ln_Lw_108 w_im_Ip_leastCost w_se_Ip_leastCost ok_Lw_leastCost_Ip_leastCost d_Lw_leastCost_13 (fun wA hA => K_Ip_leastCost ⟨_, (hI.gen (t2 := (mg t s)) (is := [0, 69]) (L2 := []) hA rfl ⟨kd_0.mpr rfl, kd_69.mpr rfl, trivial⟩ (by decide) (by decide) (fun _ h => nomatch h) (fun _ h => nomatch h) (fun _ _ _ => rfl) (fun h => h) rfl)⟩ x1 x2 x3 x4 x5 x6) rfl rfl (Nat.le_of_ble_eq_true rfl) (by omega) (by omega) (fun wA13 hA13 E wB13 hx => ?_) (fun wA13 hA13 v wB13 hx => ?_)
  · obtain ⟨h1, u2, hu, hI2⟩ := hx
    rcases List.mem_cons.mp (zriE h1) with rfl | g2
    · refine ⟨"java/lang/IllegalArgumentException", [], [(0, 18, 25, 33)], (0, 18, 21, 13), rfl, (fun z hz => nomatch hz), by decide, by decide, lx_Lw_13, ce_13, fun qx => ?_⟩
      refine y_base (cs := []) (z_I.nil wB13) ?_
      refine y_astore (lv' := [(8, .ref qx), (0, .ref (ad 0)), (1, .int x1), (2, .int x2), (3, .int x3), (4, .int x4), (5, .int x5), (6, .int x6), (7, .ref (ad 69))]) d_Lw_leastCost_21 (by decide) rfl ?_
      refine y_iconst d_Lw_leastCost_23 (v := 1) (by decide) ?_
      refine y_iret d_Lw_leastCost_24 rfl rfl ?_
      exact fun w1 h1 => ⟨⟨_, rfl⟩, u2, hu, (z_I.same (z_I.nil _) h1).symm ▸ hI2⟩
    · obtain rfl := List.mem_singleton.mp g2
      refine ⟨"java/util/NoSuchElementException", [(0, 18, 21, 13)], [], (0, 18, 25, 33), rfl, (fun z hz => by simp only [List.mem_cons, List.not_mem_nil, or_false] at hz; rcases hz with rfl; exact Or.inr ⟨by decide, _, lx_Lw_13, by decide⟩), by decide, by decide, lx_Lw_33, ce_33, fun qx => ?_⟩
      refine y_base (cs := []) (z_I.nil wB13) ?_
      refine y_astore (lv' := [(8, .ref qx), (0, .ref (ad 0)), (1, .int x1), (2, .int x2), (3, .int x3), (4, .int x4), (5, .int x5), (6, .int x6), (7, .ref (ad 69))]) d_Lw_leastCost_25 (by decide) rfl ?_
      refine y_iconst d_Lw_leastCost_27 (v := 2) (by decide) ?_
      refine y_iret d_Lw_leastCost_28 rfl rfl ?_
      exact fun w1 h1 => ⟨⟨_, rfl⟩, u2, hu, (z_I.same (z_I.nil _) h1).symm ▸ hI2⟩
  · obtain ⟨h1, u2, hu, hI2⟩ := hx
    obtain ⟨v9, rfl⟩ := zriV h1
    refine yw_st (st2 := [.int v9, .int 0, .ref (ad 69)]) rfl ?_
    obtain ⟨s9, hI⟩ := hI2
    obtain ⟨e_o1, wf_o1, k_o1⟩ := hI.1.2 69 (by decide)
    obtain rfl := kd_69.mp k_o1
    refine y_base (cs := [((ad 69), .inl (3, 1, .inr (.inl (((mg (tK_Ip_leastCost x1 x2 x3 x4 x5 x6 t) s9).1 69).2.1))))]) (hI.1.I [69] _ rfl (by decide) (by decide) (List.forall_mem_cons.mpr ⟨wf_o1, (fun _ h => nomatch h)⟩)) ?_
    refine y_i2l d_Lw_leastCost_16 (v := v9.toInt64) rfl ?_
    refine y_last d_Lw_leastCost_17 (q0 := 0) rfl (fun q => q.elim (by decide) (by decide)) (f' := vp_updL (((mg (tK_Ip_leastCost x1 x2 x3 x4 x5 x6 t) s9).1 69).2.1) 0 v9.toInt64) rfl (cs' := [((ad 69), .inl (3, 1, .inr (.inl (vp_updL (((mg (tK_Ip_leastCost x1 x2 x3 x4 x5 x6 t) s9).1 69).2.1) 0 v9.toInt64))))]) rfl ?_
    refine y_goto (tgt := 29) d_Lw_leastCost_18 (by decide) ?_
    refine y_iconst d_Lw_leastCost_29 (v := 0) (by decide) ?_
    refine y_iret d_Lw_leastCost_30 rfl rfl ?_
    exact fun w1 h1 => ⟨⟨_, rfl⟩, u2, hu, IVm.tz ((hI.gen (t2 := (zup (mg (tK_Ip_leastCost x1 x2 x3 x4 x5 x6 t) s9).1 [(69, (((mg (tK_Ip_leastCost x1 x2 x3 x4 x5 x6 t) s9).1 69).1, vp_updL (((mg (tK_Ip_leastCost x1 x2 x3 x4 x5 x6 t) s9).1 69).2.1) 0 v9.toInt64, ((mg (tK_Ip_leastCost x1 x2 x3 x4 x5 x6 t) s9).1 69).2.2))], (mg (tK_Ip_leastCost x1 x2 x3 x4 x5 x6 t) s9).2)) (is := [69]) (L2 := []) h1 rfl ⟨kd_69.mpr rfl, trivial⟩ (by decide) (by decide) (fun _ h => nomatch h) (fun _ h => nomatch h) (fun i hi hn => zup_out (fun q => hn ((by decide : ∀ j ∈ ([69] : List Nat), j ∈ ([69] : List Nat)) i q))) (fun h => h) rfl)) (tx_all rfl)⟩
abbrev M_Lw_cheapest : zM := (⟨"IronpourLaw", "cheapest", "(LIronpour;C[J)I"⟩, method_30_code, 4, (Option.some FieldType.int), 9, 200, [((0 : Nat), (9 : Nat), (12 : Nat), (13 : Nat)), ((0 : Nat), (9 : Nat), (15 : Nat), (69 : Nat))])
theorem d_Lw_cheapest_0 : decode method_30_code 0 = .ok (.aload_n 2, 1) := zo_44 (zd_b zq_method_30_code_0 0 rfl rfl rfl)
theorem d_Lw_cheapest_1 : decode method_30_code 1 = .ok (.iconst 0, 1) := zo_3 (zd_b zq_method_30_code_0 1 rfl rfl rfl)
theorem d_Lw_cheapest_2 : decode method_30_code 2 = .ok (.aload_n 0, 1) := zo_42 (zd_b zq_method_30_code_0 2 rfl rfl rfl)
theorem d_Lw_cheapest_3 : decode method_30_code 3 = .ok (.iload_n 1, 1) := zo_27 (zd_b zq_method_30_code_0 3 rfl rfl rfl)
theorem d_Lw_cheapest_4 : decode method_30_code 4 = .ok (.invokevirtual 112, 3) := zo_182 (d := 0) (e := 112) (zd_b zq_method_30_code_0 4 rfl rfl rfl) (zd_b zq_method_30_code_0 5 rfl rfl rfl) (zd_b zq_method_30_code_0 6 rfl rfl rfl)
theorem ok_Lw_cheapest_Ip_cheapest : z_okH M_Lw_cheapest M_Ip_cheapest 1 := ⟨z_mj5 (i := 204) rfl (by decide +kernel), rfl, ⟨by decide +kernel, by decide +kernel, by decide +kernel⟩, ⟨by decide, by decide⟩, z_mj1 (i := 1) rfl (by decide +kernel)⟩
theorem ln_Lw_112 : Cond.methodLink "IronpourLaw" 112 M_Ip_cheapest.1 ∈ z_gw := z_mj5 (i := 201) rfl (by decide +kernel)
theorem w_im_Ip_cheapest : Cond.instanceMethod M_Ip_cheapest.1 ∈ z_gw := z_mj5 (i := 202) rfl (by decide +kernel)
theorem w_se_Ip_cheapest : Cond.selects M_Ip_cheapest.1.cls M_Ip_cheapest.1 M_Ip_cheapest.1 ∈ z_gw := z_mj5 (i := 203) rfl (by decide +kernel)
theorem d_Lw_cheapest_12 : decode method_30_code 12 = .ok (.astore_n 3, 1) := zo_78 (zd_b zq_method_30_code_0 12 rfl rfl rfl)
theorem d_Lw_cheapest_13 : decode method_30_code 13 = .ok (.iconst 1, 1) := zo_4 (zd_b zq_method_30_code_0 13 rfl rfl rfl)
theorem d_Lw_cheapest_14 : decode method_30_code 14 = .ok (.ireturn, 1) := zo_172 (zd_b zq_method_30_code_0 14 rfl rfl rfl)
theorem d_Lw_cheapest_15 : decode method_30_code 15 = .ok (.astore_n 3, 1) := zo_78 (zd_b zq_method_30_code_0 15 rfl rfl rfl)
theorem d_Lw_cheapest_16 : decode method_30_code 16 = .ok (.iconst 2, 1) := zo_5 (zd_b zq_method_30_code_0 16 rfl rfl rfl)
theorem d_Lw_cheapest_17 : decode method_30_code 17 = .ok (.ireturn, 1) := zo_172 (zd_b zq_method_30_code_0 17 rfl rfl rfl)
theorem d_Lw_cheapest_7 : decode method_30_code 7 = .ok (.i2l, 1) := zo_133 (zd_b zq_method_30_code_0 7 rfl rfl rfl)
theorem d_Lw_cheapest_8 : decode method_30_code 8 = .ok (.lastore, 1) := zo_80 (zd_b zq_method_30_code_0 8 rfl rfl rfl)
theorem d_Lw_cheapest_9 : decode method_30_code 9 = .ok (.goto 9, 3) := zo_167 (d := 0) (e := 9) (zd_b zq_method_30_code_0 9 rfl rfl rfl) (zd_b zq_method_30_code_0 10 rfl rfl rfl) (zd_b zq_method_30_code_0 11 rfl rfl rfl) (by decide +kernel)
theorem d_Lw_cheapest_18 : decode method_30_code 18 = .ok (.iconst 0, 1) := zo_3 (zd_b zq_method_30_code_0 18 rfl rfl rfl)
theorem d_Lw_cheapest_19 : decode method_30_code 19 = .ok (.ireturn, 1) := zo_172 (zd_b zq_method_30_code_0 19 rfl rfl rfl)
set_option maxHeartbeats 4000000 in
set_option maxRecDepth 100000 in
theorem W_cheapest {g : zG} {ad : Nat → Nat} {t : zTT} {u : zNN} {w : zW} (hI : IVm g ad t u w) (c : Int32) : zMB g M_Lw_cheapest [.ref (ad 0), .int c, .ref (ad 69)] w (fun o w1 => MKx g ad t u.1 o w1) 10 300 := by
  obtain ⟨s, hI⟩ := hI
  obtain ⟨e_a, wf_a, k_a⟩ := hI.1.2 0 (by decide)
  obtain rfl := kd_0.mp k_a
  obtain ⟨e_o1, wf_o1, k_o1⟩ := hI.1.2 69 (by decide)
  obtain rfl := kd_69.mp k_o1
  refine y_ofH (by decide) (by decide) (Nat.le_of_ble_eq_true rfl) (y_base (cs := [((ad 0), .inr (11, [.ref (ad 1), .ref (ad 5), .ref (ad 18), .ref (ad 31), .ref (ad 32), .ref (ad 36), .ref (ad 42), .ref (ad 45), .ref (ad 47), .ref (ad 49), .ref (ad 50), .ref (ad 51)])), ((ad 69), .inl (3, 1, .inr (.inl (((mg t s).1 69).2.1))))]) (hI.1.I [0, 69] _ rfl (by decide) (by decide) (List.forall_mem_cons.mpr ⟨wf_a, (List.forall_mem_cons.mpr ⟨wf_o1, (fun _ h => nomatch h)⟩)⟩)) ?_)
  refine y_lvE (lv2 := [(0, .ref (ad 0)), (1, .int c), (2, .ref (ad 69))]) rfl ?_
  refine y_aload_n d_Lw_cheapest_0 rfl 2 rfl ?_
  refine y_iconst d_Lw_cheapest_1 (v := 0) (by decide) ?_
  refine y_aload_n d_Lw_cheapest_2 rfl 0 rfl ?_
  refine y_iload_n d_Lw_cheapest_3 rfl 1 rfl ?_
  refine yw_callVH (As := [.int c]) (rest := [.int 0, .ref (ad 69)]) (q0 := 0) rfl rfl ln_Lw_112 w_im_Ip_cheapest w_se_Ip_cheapest ok_Lw_cheapest_Ip_cheapest d_Lw_cheapest_4 (fun wA hA => K_Ip_cheapest ⟨_, (hI.gen (t2 := (mg t s)) (is := [0, 69]) (L2 := []) hA rfl ⟨kd_0.mpr rfl, kd_69.mpr rfl, trivial⟩ (by decide) (by decide) (fun _ h => nomatch h) (fun _ h => nomatch h) (fun _ _ _ => rfl) (fun h => h) rfl)⟩ c) rfl rfl (Nat.le_of_ble_eq_true rfl) (by omega) (by omega) (fun wA4 hA4 E wB4 hx => ?_) (fun wA4 hA4 v wB4 hx => ?_)
  · obtain ⟨h1, u2, hu, hI2⟩ := hx
    rcases List.mem_cons.mp (zriE h1) with rfl | g2
    · refine ⟨"java/lang/IllegalArgumentException", [], [(0, 9, 15, 69)], (0, 9, 12, 13), rfl, (fun z hz => nomatch hz), by decide, by decide, lx_Lw_13, ce_13, fun qx => ?_⟩
      refine y_base (cs := []) (z_I.nil wB4) ?_
      refine y_astore_n (lv' := [(3, .ref qx), (0, .ref (ad 0)), (1, .int c), (2, .ref (ad 69))]) d_Lw_cheapest_12 rfl (by decide) rfl ?_
      refine y_iconst d_Lw_cheapest_13 (v := 1) (by decide) ?_
      refine y_iret d_Lw_cheapest_14 rfl rfl ?_
      exact fun w1 h1 => ⟨⟨_, rfl⟩, u2, hu, (z_I.same (z_I.nil _) h1).symm ▸ hI2⟩
    · obtain rfl := List.mem_singleton.mp g2
      refine ⟨"java/lang/IllegalStateException", [(0, 9, 12, 13)], [], (0, 9, 15, 69), rfl, (fun z hz => by simp only [List.mem_cons, List.not_mem_nil, or_false] at hz; rcases hz with rfl; exact Or.inr ⟨by decide, _, lx_Lw_13, by decide⟩), by decide, by decide, lx_Lw_69, ce_69, fun qx => ?_⟩
      refine y_base (cs := []) (z_I.nil wB4) ?_
      refine y_astore_n (lv' := [(3, .ref qx), (0, .ref (ad 0)), (1, .int c), (2, .ref (ad 69))]) d_Lw_cheapest_15 rfl (by decide) rfl ?_
      refine y_iconst d_Lw_cheapest_16 (v := 2) (by decide) ?_
      refine y_iret d_Lw_cheapest_17 rfl rfl ?_
      exact fun w1 h1 => ⟨⟨_, rfl⟩, u2, hu, (z_I.same (z_I.nil _) h1).symm ▸ hI2⟩
  · obtain ⟨h1, u2, hu, hI2⟩ := hx
    obtain ⟨v9, rfl⟩ := zriV h1
    refine yw_st (st2 := [.int v9, .int 0, .ref (ad 69)]) rfl ?_
    obtain ⟨s9, hI⟩ := hI2
    obtain ⟨e_o1, wf_o1, k_o1⟩ := hI.1.2 69 (by decide)
    obtain rfl := kd_69.mp k_o1
    refine y_base (cs := [((ad 69), .inl (3, 1, .inr (.inl (((mg t s9).1 69).2.1))))]) (hI.1.I [69] _ rfl (by decide) (by decide) (List.forall_mem_cons.mpr ⟨wf_o1, (fun _ h => nomatch h)⟩)) ?_
    refine y_i2l d_Lw_cheapest_7 (v := v9.toInt64) rfl ?_
    refine y_last d_Lw_cheapest_8 (q0 := 0) rfl (fun q => q.elim (by decide) (by decide)) (f' := vp_updL (((mg t s9).1 69).2.1) 0 v9.toInt64) rfl (cs' := [((ad 69), .inl (3, 1, .inr (.inl (vp_updL (((mg t s9).1 69).2.1) 0 v9.toInt64))))]) rfl ?_
    refine y_goto (tgt := 18) d_Lw_cheapest_9 (by decide) ?_
    refine y_iconst d_Lw_cheapest_18 (v := 0) (by decide) ?_
    refine y_iret d_Lw_cheapest_19 rfl rfl ?_
    exact fun w1 h1 => ⟨⟨_, rfl⟩, u2, hu, IVm.tz ((hI.gen (t2 := (zup (mg t s9).1 [(69, (((mg t s9).1 69).1, vp_updL (((mg t s9).1 69).2.1) 0 v9.toInt64, ((mg t s9).1 69).2.2))], (mg t s9).2)) (is := [69]) (L2 := []) h1 rfl ⟨kd_69.mpr rfl, trivial⟩ (by decide) (by decide) (fun _ h => nomatch h) (fun _ h => nomatch h) (fun i hi hn => zup_out (fun q => hn ((by decide : ∀ j ∈ ([69] : List Nat), j ∈ ([69] : List Nat)) i q))) (fun h => h) rfl)) (tx_all rfl)⟩
abbrev M_Lw_mould : zM := (⟨"IronpourLaw", "mould", "(LIronpour;[J)I"⟩, method_31_code, 3, (Option.some FieldType.int), 9, 252, [((0 : Nat), (8 : Nat), (11 : Nat), (33 : Nat)), ((0 : Nat), (8 : Nat), (14 : Nat), (78 : Nat)), ((0 : Nat), (8 : Nat), (17 : Nat), (69 : Nat))])
theorem d_Lw_mould_0 : decode method_31_code 0 = .ok (.aload_n 1, 1) := zo_43 (zd_b zq_method_31_code_0 0 rfl rfl rfl)
theorem d_Lw_mould_1 : decode method_31_code 1 = .ok (.iconst 0, 1) := zo_3 (zd_b zq_method_31_code_0 1 rfl rfl rfl)
theorem d_Lw_mould_2 : decode method_31_code 2 = .ok (.aload_n 0, 1) := zo_42 (zd_b zq_method_31_code_0 2 rfl rfl rfl)
theorem d_Lw_mould_3 : decode method_31_code 3 = .ok (.invokevirtual 115, 3) := zo_182 (d := 0) (e := 115) (zd_b zq_method_31_code_0 3 rfl rfl rfl) (zd_b zq_method_31_code_0 4 rfl rfl rfl) (zd_b zq_method_31_code_0 5 rfl rfl rfl)
theorem ok_Lw_mould_Ip_mould : z_okH M_Lw_mould M_Ip_mould 0 := ⟨z_mj5 (i := 218) rfl (by decide +kernel), rfl, ⟨by decide +kernel, by decide +kernel, by decide +kernel⟩, ⟨by decide, by decide⟩, z_mj1 (i := 1) rfl (by decide +kernel)⟩
theorem ln_Lw_115 : Cond.methodLink "IronpourLaw" 115 M_Ip_mould.1 ∈ z_gw := z_mj5 (i := 215) rfl (by decide +kernel)
theorem w_im_Ip_mould : Cond.instanceMethod M_Ip_mould.1 ∈ z_gw := z_mj5 (i := 216) rfl (by decide +kernel)
theorem w_se_Ip_mould : Cond.selects M_Ip_mould.1.cls M_Ip_mould.1 M_Ip_mould.1 ∈ z_gw := z_mj5 (i := 217) rfl (by decide +kernel)
theorem d_Lw_mould_11 : decode method_31_code 11 = .ok (.astore_n 2, 1) := zo_77 (zd_b zq_method_31_code_0 11 rfl rfl rfl)
theorem d_Lw_mould_12 : decode method_31_code 12 = .ok (.iconst 1, 1) := zo_4 (zd_b zq_method_31_code_0 12 rfl rfl rfl)
theorem d_Lw_mould_13 : decode method_31_code 13 = .ok (.ireturn, 1) := zo_172 (zd_b zq_method_31_code_0 13 rfl rfl rfl)
theorem d_Lw_mould_14 : decode method_31_code 14 = .ok (.astore_n 2, 1) := zo_77 (zd_b zq_method_31_code_0 14 rfl rfl rfl)
theorem d_Lw_mould_15 : decode method_31_code 15 = .ok (.iconst 2, 1) := zo_5 (zd_b zq_method_31_code_0 15 rfl rfl rfl)
theorem d_Lw_mould_16 : decode method_31_code 16 = .ok (.ireturn, 1) := zo_172 (zd_b zq_method_31_code_0 16 rfl rfl rfl)
theorem d_Lw_mould_17 : decode method_31_code 17 = .ok (.astore_n 2, 1) := zo_77 (zd_b zq_method_31_code_0 17 rfl rfl rfl)
theorem d_Lw_mould_18 : decode method_31_code 18 = .ok (.iconst 3, 1) := zo_6 (zd_b zq_method_31_code_0 18 rfl rfl rfl)
theorem d_Lw_mould_19 : decode method_31_code 19 = .ok (.ireturn, 1) := zo_172 (zd_b zq_method_31_code_0 19 rfl rfl rfl)
theorem d_Lw_mould_6 : decode method_31_code 6 = .ok (.i2l, 1) := zo_133 (zd_b zq_method_31_code_0 6 rfl rfl rfl)
theorem d_Lw_mould_7 : decode method_31_code 7 = .ok (.lastore, 1) := zo_80 (zd_b zq_method_31_code_0 7 rfl rfl rfl)
theorem d_Lw_mould_8 : decode method_31_code 8 = .ok (.goto 12, 3) := zo_167 (d := 0) (e := 12) (zd_b zq_method_31_code_0 8 rfl rfl rfl) (zd_b zq_method_31_code_0 9 rfl rfl rfl) (zd_b zq_method_31_code_0 10 rfl rfl rfl) (by decide +kernel)
theorem d_Lw_mould_20 : decode method_31_code 20 = .ok (.iconst 0, 1) := zo_3 (zd_b zq_method_31_code_0 20 rfl rfl rfl)
theorem d_Lw_mould_21 : decode method_31_code 21 = .ok (.ireturn, 1) := zo_172 (zd_b zq_method_31_code_0 21 rfl rfl rfl)
set_option maxHeartbeats 4000000 in
set_option maxRecDepth 100000 in
theorem W_mould {g : zG} {ad : Nat → Nat} {t : zTT} {u : zNN} {w : zW} (hI : IVm g ad t u w) : zMB g M_Lw_mould [.ref (ad 0), .ref (ad 69)] w (fun o w1 => MKx g ad (tK_Ip_mould t u.1) (nK_Ip_mould t u.1) o w1) 10 300 := by
  obtain ⟨s, hI⟩ := hI
  obtain ⟨e_a, wf_a, k_a⟩ := hI.1.2 0 (by decide)
  obtain rfl := kd_0.mp k_a
  obtain ⟨e_o1, wf_o1, k_o1⟩ := hI.1.2 69 (by decide)
  obtain rfl := kd_69.mp k_o1
  refine y_ofH (by decide) (by decide) (Nat.le_of_ble_eq_true rfl) (y_base (cs := [((ad 0), .inr (11, [.ref (ad 1), .ref (ad 5), .ref (ad 18), .ref (ad 31), .ref (ad 32), .ref (ad 36), .ref (ad 42), .ref (ad 45), .ref (ad 47), .ref (ad 49), .ref (ad 50), .ref (ad 51)])), ((ad 69), .inl (3, 1, .inr (.inl (((mg t s).1 69).2.1))))]) (hI.1.I [0, 69] _ rfl (by decide) (by decide) (List.forall_mem_cons.mpr ⟨wf_a, (List.forall_mem_cons.mpr ⟨wf_o1, (fun _ h => nomatch h)⟩)⟩)) ?_)
  refine y_lvE (lv2 := [(0, .ref (ad 0)), (1, .ref (ad 69))]) rfl ?_
  refine y_aload_n d_Lw_mould_0 rfl 1 rfl ?_
  refine y_iconst d_Lw_mould_1 (v := 0) (by decide) ?_
  refine y_aload_n d_Lw_mould_2 rfl 0 rfl ?_
  refine yw_callVH (As := []) (rest := [.int 0, .ref (ad 69)]) (q0 := 0) rfl rfl ln_Lw_115 w_im_Ip_mould w_se_Ip_mould ok_Lw_mould_Ip_mould d_Lw_mould_3 (fun wA hA => K_Ip_mould ⟨_, (hI.gen (t2 := (mg t s)) (is := [0, 69]) (L2 := []) hA rfl ⟨kd_0.mpr rfl, kd_69.mpr rfl, trivial⟩ (by decide) (by decide) (fun _ h => nomatch h) (fun _ h => nomatch h) (fun _ _ _ => rfl) (fun h => h) rfl)⟩) rfl rfl (Nat.le_of_ble_eq_true rfl) (by omega) (by omega) (fun wA3 hA3 E wB3 hx => ?_) (fun wA3 hA3 v wB3 hx => ?_)
  · obtain ⟨h1, u2, hu, hI2⟩ := hx
    rcases List.mem_cons.mp (zriE h1) with rfl | g3
    · refine ⟨"java/util/NoSuchElementException", [], [(0, 8, 14, 78), (0, 8, 17, 69)], (0, 8, 11, 33), rfl, (fun z hz => nomatch hz), by decide, by decide, lx_Lw_33, ce_33, fun qx => ?_⟩
      refine y_base (cs := []) (z_I.nil wB3) ?_
      refine y_astore_n (lv' := [(2, .ref qx), (0, .ref (ad 0)), (1, .ref (ad 69))]) d_Lw_mould_11 rfl (by decide) rfl ?_
      refine y_iconst d_Lw_mould_12 (v := 1) (by decide) ?_
      refine y_iret d_Lw_mould_13 rfl rfl ?_
      exact fun w1 h1 => ⟨⟨_, rfl⟩, u2, hu, (z_I.same (z_I.nil _) h1).symm ▸ hI2⟩
    · rcases List.mem_cons.mp g3 with rfl | g2
      · refine ⟨"java/lang/UnsupportedOperationException", [(0, 8, 11, 33)], [(0, 8, 17, 69)], (0, 8, 14, 78), rfl, (fun z hz => by simp only [List.mem_cons, List.not_mem_nil, or_false] at hz; rcases hz with rfl; exact Or.inr ⟨by decide, _, lx_Lw_33, by decide⟩), by decide, by decide, lx_Lw_78, ce_78, fun qx => ?_⟩
        refine y_base (cs := []) (z_I.nil wB3) ?_
        refine y_astore_n (lv' := [(2, .ref qx), (0, .ref (ad 0)), (1, .ref (ad 69))]) d_Lw_mould_14 rfl (by decide) rfl ?_
        refine y_iconst d_Lw_mould_15 (v := 2) (by decide) ?_
        refine y_iret d_Lw_mould_16 rfl rfl ?_
        exact fun w1 h1 => ⟨⟨_, rfl⟩, u2, hu, (z_I.same (z_I.nil _) h1).symm ▸ hI2⟩
      · obtain rfl := List.mem_singleton.mp g2
        refine ⟨"java/lang/IllegalStateException", [(0, 8, 11, 33), (0, 8, 14, 78)], [], (0, 8, 17, 69), rfl, (fun z hz => by simp only [List.mem_cons, List.not_mem_nil, or_false] at hz; rcases hz with rfl | rfl <;> first | exact Or.inr ⟨by decide, _, lx_Lw_33, by decide⟩ | exact Or.inr ⟨by decide, _, lx_Lw_78, by decide⟩), by decide, by decide, lx_Lw_69, ce_69, fun qx => ?_⟩
        refine y_base (cs := []) (z_I.nil wB3) ?_
        refine y_astore_n (lv' := [(2, .ref qx), (0, .ref (ad 0)), (1, .ref (ad 69))]) d_Lw_mould_17 rfl (by decide) rfl ?_
        refine y_iconst d_Lw_mould_18 (v := 3) (by decide) ?_
        refine y_iret d_Lw_mould_19 rfl rfl ?_
        exact fun w1 h1 => ⟨⟨_, rfl⟩, u2, hu, (z_I.same (z_I.nil _) h1).symm ▸ hI2⟩
  · obtain ⟨h1, u2, hu, hI2⟩ := hx
    obtain ⟨v9, rfl⟩ := zriV h1
    refine yw_st (st2 := [.int v9, .int 0, .ref (ad 69)]) rfl ?_
    obtain ⟨s9, hI⟩ := hI2
    obtain ⟨e_o1, wf_o1, k_o1⟩ := hI.1.2 69 (by decide)
    obtain rfl := kd_69.mp k_o1
    refine y_base (cs := [((ad 69), .inl (3, 1, .inr (.inl (((mg (tK_Ip_mould t u.1) s9).1 69).2.1))))]) (hI.1.I [69] _ rfl (by decide) (by decide) (List.forall_mem_cons.mpr ⟨wf_o1, (fun _ h => nomatch h)⟩)) ?_
    refine y_i2l d_Lw_mould_6 (v := v9.toInt64) rfl ?_
    refine y_last d_Lw_mould_7 (q0 := 0) rfl (fun q => q.elim (by decide) (by decide)) (f' := vp_updL (((mg (tK_Ip_mould t u.1) s9).1 69).2.1) 0 v9.toInt64) rfl (cs' := [((ad 69), .inl (3, 1, .inr (.inl (vp_updL (((mg (tK_Ip_mould t u.1) s9).1 69).2.1) 0 v9.toInt64))))]) rfl ?_
    refine y_goto (tgt := 20) d_Lw_mould_8 (by decide) ?_
    refine y_iconst d_Lw_mould_20 (v := 0) (by decide) ?_
    refine y_iret d_Lw_mould_21 rfl rfl ?_
    exact fun w1 h1 => ⟨⟨_, rfl⟩, u2, hu, IVm.tz ((hI.gen (t2 := (zup (mg (tK_Ip_mould t u.1) s9).1 [(69, (((mg (tK_Ip_mould t u.1) s9).1 69).1, vp_updL (((mg (tK_Ip_mould t u.1) s9).1 69).2.1) 0 v9.toInt64, ((mg (tK_Ip_mould t u.1) s9).1 69).2.2))], (mg (tK_Ip_mould t u.1) s9).2)) (is := [69]) (L2 := []) h1 rfl ⟨kd_69.mpr rfl, trivial⟩ (by decide) (by decide) (fun _ h => nomatch h) (fun _ h => nomatch h) (fun i hi hn => zup_out (fun q => hn ((by decide : ∀ j ∈ ([69] : List Nat), j ∈ ([69] : List Nat)) i q))) (fun h => h) rfl)) (tx_all rfl)⟩
abbrev M_Lw_waiting : zM := (⟨"IronpourLaw", "waiting", "(LIronpour;I[J)I"⟩, method_32_code, 4, (Option.some FieldType.int), 7, 121, [((0 : Nat), (9 : Nat), (12 : Nat), (33 : Nat))])
theorem d_Lw_waiting_0 : decode method_32_code 0 = .ok (.aload_n 2, 1) := zo_44 (zd_b zq_method_32_code_0 0 rfl rfl rfl)
theorem d_Lw_waiting_1 : decode method_32_code 1 = .ok (.iconst 0, 1) := zo_3 (zd_b zq_method_32_code_0 1 rfl rfl rfl)
theorem d_Lw_waiting_2 : decode method_32_code 2 = .ok (.aload_n 0, 1) := zo_42 (zd_b zq_method_32_code_0 2 rfl rfl rfl)
theorem d_Lw_waiting_3 : decode method_32_code 3 = .ok (.iload_n 1, 1) := zo_27 (zd_b zq_method_32_code_0 3 rfl rfl rfl)
theorem d_Lw_waiting_4 : decode method_32_code 4 = .ok (.invokevirtual 118, 3) := zo_182 (d := 0) (e := 118) (zd_b zq_method_32_code_0 4 rfl rfl rfl) (zd_b zq_method_32_code_0 5 rfl rfl rfl) (zd_b zq_method_32_code_0 6 rfl rfl rfl)
theorem ok_Lw_waiting_Ip_waiting : z_okH M_Lw_waiting M_Ip_waiting 1 := ⟨z_mj6 (i := 103) rfl (by decide +kernel), rfl, ⟨by decide +kernel, by decide +kernel, by decide +kernel⟩, ⟨by decide, by decide⟩, z_mj1 (i := 1) rfl (by decide +kernel)⟩
theorem ln_Lw_118 : Cond.methodLink "IronpourLaw" 118 M_Ip_waiting.1 ∈ z_gw := z_mj6 (i := 100) rfl (by decide +kernel)
theorem w_im_Ip_waiting : Cond.instanceMethod M_Ip_waiting.1 ∈ z_gw := z_mj6 (i := 101) rfl (by decide +kernel)
theorem w_se_Ip_waiting : Cond.selects M_Ip_waiting.1.cls M_Ip_waiting.1 M_Ip_waiting.1 ∈ z_gw := z_mj6 (i := 102) rfl (by decide +kernel)
theorem d_Lw_waiting_12 : decode method_32_code 12 = .ok (.astore_n 3, 1) := zo_78 (zd_b zq_method_32_code_0 12 rfl rfl rfl)
theorem d_Lw_waiting_13 : decode method_32_code 13 = .ok (.iconst 1, 1) := zo_4 (zd_b zq_method_32_code_0 13 rfl rfl rfl)
theorem d_Lw_waiting_14 : decode method_32_code 14 = .ok (.ireturn, 1) := zo_172 (zd_b zq_method_32_code_0 14 rfl rfl rfl)
theorem d_Lw_waiting_7 : decode method_32_code 7 = .ok (.i2l, 1) := zo_133 (zd_b zq_method_32_code_0 7 rfl rfl rfl)
theorem d_Lw_waiting_8 : decode method_32_code 8 = .ok (.lastore, 1) := zo_80 (zd_b zq_method_32_code_0 8 rfl rfl rfl)
theorem d_Lw_waiting_9 : decode method_32_code 9 = .ok (.goto 6, 3) := zo_167 (d := 0) (e := 6) (zd_b zq_method_32_code_0 9 rfl rfl rfl) (zd_b zq_method_32_code_0 10 rfl rfl rfl) (zd_b zq_method_32_code_0 11 rfl rfl rfl) (by decide +kernel)
theorem d_Lw_waiting_15 : decode method_32_code 15 = .ok (.iconst 0, 1) := zo_3 (zd_b zq_method_32_code_0 15 rfl rfl rfl)
theorem d_Lw_waiting_16 : decode method_32_code 16 = .ok (.ireturn, 1) := zo_172 (zd_b zq_method_32_code_0 16 rfl rfl rfl)
set_option maxHeartbeats 4000000 in
set_option maxRecDepth 100000 in
theorem W_waiting {g : zG} {ad : Nat → Nat} {t : zTT} {u : zNN} {w : zW} (hI : IVm g ad t u w) (x : Int32) : zMB g M_Lw_waiting [.ref (ad 0), .int x, .ref (ad 69)] w (fun o w1 => MKx g ad t u.1 o w1) 10 300 := by
  obtain ⟨s, hI⟩ := hI
  obtain ⟨e_a, wf_a, k_a⟩ := hI.1.2 0 (by decide)
  obtain rfl := kd_0.mp k_a
  obtain ⟨e_o1, wf_o1, k_o1⟩ := hI.1.2 69 (by decide)
  obtain rfl := kd_69.mp k_o1
  refine y_ofH (by decide) (by decide) (Nat.le_of_ble_eq_true rfl) (y_base (cs := [((ad 0), .inr (11, [.ref (ad 1), .ref (ad 5), .ref (ad 18), .ref (ad 31), .ref (ad 32), .ref (ad 36), .ref (ad 42), .ref (ad 45), .ref (ad 47), .ref (ad 49), .ref (ad 50), .ref (ad 51)])), ((ad 69), .inl (3, 1, .inr (.inl (((mg t s).1 69).2.1))))]) (hI.1.I [0, 69] _ rfl (by decide) (by decide) (List.forall_mem_cons.mpr ⟨wf_a, (List.forall_mem_cons.mpr ⟨wf_o1, (fun _ h => nomatch h)⟩)⟩)) ?_)
  refine y_lvE (lv2 := [(0, .ref (ad 0)), (1, .int x), (2, .ref (ad 69))]) rfl ?_
  refine y_aload_n d_Lw_waiting_0 rfl 2 rfl ?_
  refine y_iconst d_Lw_waiting_1 (v := 0) (by decide) ?_
  refine y_aload_n d_Lw_waiting_2 rfl 0 rfl ?_
  refine y_iload_n d_Lw_waiting_3 rfl 1 rfl ?_
  refine yw_callVH (As := [.int x]) (rest := [.int 0, .ref (ad 69)]) (q0 := 0) rfl rfl ln_Lw_118 w_im_Ip_waiting w_se_Ip_waiting ok_Lw_waiting_Ip_waiting d_Lw_waiting_4 (fun wA hA => K_Ip_waiting ⟨_, (hI.gen (t2 := (mg t s)) (is := [0, 69]) (L2 := []) hA rfl ⟨kd_0.mpr rfl, kd_69.mpr rfl, trivial⟩ (by decide) (by decide) (fun _ h => nomatch h) (fun _ h => nomatch h) (fun _ _ _ => rfl) (fun h => h) rfl)⟩ x) rfl rfl (Nat.le_of_ble_eq_true rfl) (by omega) (by omega) (fun wA4 hA4 E wB4 hx => ?_) (fun wA4 hA4 v wB4 hx => ?_)
  · obtain ⟨h1, u2, hu, hI2⟩ := hx
    obtain rfl := List.mem_singleton.mp (zriE h1)
    refine ⟨"java/util/NoSuchElementException", [], [], (0, 9, 12, 33), rfl, (fun z hz => nomatch hz), by decide, by decide, lx_Lw_33, ce_33, fun qx => ?_⟩
    refine y_base (cs := []) (z_I.nil wB4) ?_
    refine y_astore_n (lv' := [(3, .ref qx), (0, .ref (ad 0)), (1, .int x), (2, .ref (ad 69))]) d_Lw_waiting_12 rfl (by decide) rfl ?_
    refine y_iconst d_Lw_waiting_13 (v := 1) (by decide) ?_
    refine y_iret d_Lw_waiting_14 rfl rfl ?_
    exact fun w1 h1 => ⟨⟨_, rfl⟩, u2, hu, (z_I.same (z_I.nil _) h1).symm ▸ hI2⟩
  · obtain ⟨h1, u2, hu, hI2⟩ := hx
    obtain ⟨v9, rfl⟩ := zriV h1
    refine yw_st (st2 := [.int v9, .int 0, .ref (ad 69)]) rfl ?_
    obtain ⟨s9, hI⟩ := hI2
    obtain ⟨e_o1, wf_o1, k_o1⟩ := hI.1.2 69 (by decide)
    obtain rfl := kd_69.mp k_o1
    refine y_base (cs := [((ad 69), .inl (3, 1, .inr (.inl (((mg t s9).1 69).2.1))))]) (hI.1.I [69] _ rfl (by decide) (by decide) (List.forall_mem_cons.mpr ⟨wf_o1, (fun _ h => nomatch h)⟩)) ?_
    refine y_i2l d_Lw_waiting_7 (v := v9.toInt64) rfl ?_
    refine y_last d_Lw_waiting_8 (q0 := 0) rfl (fun q => q.elim (by decide) (by decide)) (f' := vp_updL (((mg t s9).1 69).2.1) 0 v9.toInt64) rfl (cs' := [((ad 69), .inl (3, 1, .inr (.inl (vp_updL (((mg t s9).1 69).2.1) 0 v9.toInt64))))]) rfl ?_
    refine y_goto (tgt := 15) d_Lw_waiting_9 (by decide) ?_
    refine y_iconst d_Lw_waiting_15 (v := 0) (by decide) ?_
    refine y_iret d_Lw_waiting_16 rfl rfl ?_
    exact fun w1 h1 => ⟨⟨_, rfl⟩, u2, hu, IVm.tz ((hI.gen (t2 := (zup (mg t s9).1 [(69, (((mg t s9).1 69).1, vp_updL (((mg t s9).1 69).2.1) 0 v9.toInt64, ((mg t s9).1 69).2.2))], (mg t s9).2)) (is := [69]) (L2 := []) h1 rfl ⟨kd_69.mpr rfl, trivial⟩ (by decide) (by decide) (fun _ h => nomatch h) (fun _ h => nomatch h) (fun i hi hn => zup_out (fun q => hn ((by decide : ∀ j ∈ ([69] : List Nat), j ∈ ([69] : List Nat)) i q))) (fun h => h) rfl)) (tx_all rfl)⟩
abbrev M_Lw_pour : zM := (⟨"IronpourLaw", "pour", "(LIronpour;[J)I"⟩, method_33_code, 3, (Option.some FieldType.int), 9, 251, [((0 : Nat), (8 : Nat), (11 : Nat), (33 : Nat)), ((0 : Nat), (8 : Nat), (14 : Nat), (69 : Nat)), ((0 : Nat), (8 : Nat), (17 : Nat), (78 : Nat))])
theorem d_Lw_pour_0 : decode method_33_code 0 = .ok (.aload_n 1, 1) := zo_43 (zd_b zq_method_33_code_0 0 rfl rfl rfl)
theorem d_Lw_pour_1 : decode method_33_code 1 = .ok (.iconst 0, 1) := zo_3 (zd_b zq_method_33_code_0 1 rfl rfl rfl)
theorem d_Lw_pour_2 : decode method_33_code 2 = .ok (.aload_n 0, 1) := zo_42 (zd_b zq_method_33_code_0 2 rfl rfl rfl)
theorem d_Lw_pour_3 : decode method_33_code 3 = .ok (.invokevirtual 121, 3) := zo_182 (d := 0) (e := 121) (zd_b zq_method_33_code_0 3 rfl rfl rfl) (zd_b zq_method_33_code_0 4 rfl rfl rfl) (zd_b zq_method_33_code_0 5 rfl rfl rfl)
theorem ok_Lw_pour_Ip_pour : z_okH M_Lw_pour M_Ip_pour 0 := ⟨z_mj6 (i := 111) rfl (by decide +kernel), rfl, ⟨by decide +kernel, by decide +kernel, by decide +kernel⟩, ⟨by decide, by decide⟩, z_mj1 (i := 1) rfl (by decide +kernel)⟩
theorem ln_Lw_121 : Cond.methodLink "IronpourLaw" 121 M_Ip_pour.1 ∈ z_gw := z_mj6 (i := 108) rfl (by decide +kernel)
theorem w_im_Ip_pour : Cond.instanceMethod M_Ip_pour.1 ∈ z_gw := z_mj6 (i := 109) rfl (by decide +kernel)
theorem w_se_Ip_pour : Cond.selects M_Ip_pour.1.cls M_Ip_pour.1 M_Ip_pour.1 ∈ z_gw := z_mj6 (i := 110) rfl (by decide +kernel)
theorem d_Lw_pour_11 : decode method_33_code 11 = .ok (.astore_n 2, 1) := zo_77 (zd_b zq_method_33_code_0 11 rfl rfl rfl)
theorem d_Lw_pour_12 : decode method_33_code 12 = .ok (.iconst 1, 1) := zo_4 (zd_b zq_method_33_code_0 12 rfl rfl rfl)
theorem d_Lw_pour_13 : decode method_33_code 13 = .ok (.ireturn, 1) := zo_172 (zd_b zq_method_33_code_0 13 rfl rfl rfl)
theorem d_Lw_pour_14 : decode method_33_code 14 = .ok (.astore_n 2, 1) := zo_77 (zd_b zq_method_33_code_0 14 rfl rfl rfl)
theorem d_Lw_pour_15 : decode method_33_code 15 = .ok (.iconst 2, 1) := zo_5 (zd_b zq_method_33_code_0 15 rfl rfl rfl)
theorem d_Lw_pour_16 : decode method_33_code 16 = .ok (.ireturn, 1) := zo_172 (zd_b zq_method_33_code_0 16 rfl rfl rfl)
theorem d_Lw_pour_17 : decode method_33_code 17 = .ok (.astore_n 2, 1) := zo_77 (zd_b zq_method_33_code_0 17 rfl rfl rfl)
theorem d_Lw_pour_18 : decode method_33_code 18 = .ok (.iconst 3, 1) := zo_6 (zd_b zq_method_33_code_0 18 rfl rfl rfl)
theorem d_Lw_pour_19 : decode method_33_code 19 = .ok (.ireturn, 1) := zo_172 (zd_b zq_method_33_code_0 19 rfl rfl rfl)
theorem d_Lw_pour_6 : decode method_33_code 6 = .ok (.i2l, 1) := zo_133 (zd_b zq_method_33_code_0 6 rfl rfl rfl)
theorem d_Lw_pour_7 : decode method_33_code 7 = .ok (.lastore, 1) := zo_80 (zd_b zq_method_33_code_0 7 rfl rfl rfl)
theorem d_Lw_pour_8 : decode method_33_code 8 = .ok (.goto 12, 3) := zo_167 (d := 0) (e := 12) (zd_b zq_method_33_code_0 8 rfl rfl rfl) (zd_b zq_method_33_code_0 9 rfl rfl rfl) (zd_b zq_method_33_code_0 10 rfl rfl rfl) (by decide +kernel)
theorem d_Lw_pour_20 : decode method_33_code 20 = .ok (.iconst 0, 1) := zo_3 (zd_b zq_method_33_code_0 20 rfl rfl rfl)
theorem d_Lw_pour_21 : decode method_33_code 21 = .ok (.ireturn, 1) := zo_172 (zd_b zq_method_33_code_0 21 rfl rfl rfl)
set_option maxHeartbeats 4000000 in
set_option maxRecDepth 100000 in
theorem W_pour {g : zG} {ad : Nat → Nat} {t : zTT} {u : zNN} {w : zW} (hI : IVm g ad t u w) : zMB g M_Lw_pour [.ref (ad 0), .ref (ad 69)] w (fun o w1 => ∃ (X9 : zTr), MKx g ad (tK_Ip_pour X9 t u.1) (nK_Ip_pour t u.1) o w1) 10 300 := by
  obtain ⟨s, hI⟩ := hI
  obtain ⟨e_a, wf_a, k_a⟩ := hI.1.2 0 (by decide)
  obtain rfl := kd_0.mp k_a
  obtain ⟨e_o1, wf_o1, k_o1⟩ := hI.1.2 69 (by decide)
  obtain rfl := kd_69.mp k_o1
  refine y_ofH (by decide) (by decide) (Nat.le_of_ble_eq_true rfl) (y_base (cs := [((ad 0), .inr (11, [.ref (ad 1), .ref (ad 5), .ref (ad 18), .ref (ad 31), .ref (ad 32), .ref (ad 36), .ref (ad 42), .ref (ad 45), .ref (ad 47), .ref (ad 49), .ref (ad 50), .ref (ad 51)])), ((ad 69), .inl (3, 1, .inr (.inl (((mg t s).1 69).2.1))))]) (hI.1.I [0, 69] _ rfl (by decide) (by decide) (List.forall_mem_cons.mpr ⟨wf_a, (List.forall_mem_cons.mpr ⟨wf_o1, (fun _ h => nomatch h)⟩)⟩)) ?_)
  refine y_lvE (lv2 := [(0, .ref (ad 0)), (1, .ref (ad 69))]) rfl ?_
  refine y_aload_n d_Lw_pour_0 rfl 1 rfl ?_
  refine y_iconst d_Lw_pour_1 (v := 0) (by decide) ?_
  refine y_aload_n d_Lw_pour_2 rfl 0 rfl ?_
  refine yw_callVH (As := []) (rest := [.int 0, .ref (ad 69)]) (q0 := 0) rfl rfl ln_Lw_121 w_im_Ip_pour w_se_Ip_pour ok_Lw_pour_Ip_pour d_Lw_pour_3 (fun wA hA => K_Ip_pour ⟨_, (hI.gen (t2 := (mg t s)) (is := [0, 69]) (L2 := []) hA rfl ⟨kd_0.mpr rfl, kd_69.mpr rfl, trivial⟩ (by decide) (by decide) (fun _ h => nomatch h) (fun _ h => nomatch h) (fun _ _ _ => rfl) (fun h => h) rfl)⟩) rfl rfl (Nat.le_of_ble_eq_true rfl) (by omega) (by omega) (fun wA3 hA3 E wB3 hx => ?_) (fun wA3 hA3 v wB3 hx => ?_)
  · obtain ⟨X9, h1, u2, hu, hI2⟩ := hx
    rcases List.mem_cons.mp (zriE h1) with rfl | g3
    · refine ⟨"java/util/NoSuchElementException", [], [(0, 8, 14, 69), (0, 8, 17, 78)], (0, 8, 11, 33), rfl, (fun z hz => nomatch hz), by decide, by decide, lx_Lw_33, ce_33, fun qx => ?_⟩
      refine y_base (cs := []) (z_I.nil wB3) ?_
      refine y_astore_n (lv' := [(2, .ref qx), (0, .ref (ad 0)), (1, .ref (ad 69))]) d_Lw_pour_11 rfl (by decide) rfl ?_
      refine y_iconst d_Lw_pour_12 (v := 1) (by decide) ?_
      refine y_iret d_Lw_pour_13 rfl rfl ?_
      exact fun w1 h1 => ⟨X9, ⟨_, rfl⟩, u2, hu, (z_I.same (z_I.nil _) h1).symm ▸ hI2⟩
    · rcases List.mem_cons.mp g3 with rfl | g2
      · refine ⟨"java/lang/IllegalStateException", [(0, 8, 11, 33)], [(0, 8, 17, 78)], (0, 8, 14, 69), rfl, (fun z hz => by simp only [List.mem_cons, List.not_mem_nil, or_false] at hz; rcases hz with rfl; exact Or.inr ⟨by decide, _, lx_Lw_33, by decide⟩), by decide, by decide, lx_Lw_69, ce_69, fun qx => ?_⟩
        refine y_base (cs := []) (z_I.nil wB3) ?_
        refine y_astore_n (lv' := [(2, .ref qx), (0, .ref (ad 0)), (1, .ref (ad 69))]) d_Lw_pour_14 rfl (by decide) rfl ?_
        refine y_iconst d_Lw_pour_15 (v := 2) (by decide) ?_
        refine y_iret d_Lw_pour_16 rfl rfl ?_
        exact fun w1 h1 => ⟨X9, ⟨_, rfl⟩, u2, hu, (z_I.same (z_I.nil _) h1).symm ▸ hI2⟩
      · obtain rfl := List.mem_singleton.mp g2
        refine ⟨"java/lang/UnsupportedOperationException", [(0, 8, 11, 33), (0, 8, 14, 69)], [], (0, 8, 17, 78), rfl, (fun z hz => by simp only [List.mem_cons, List.not_mem_nil, or_false] at hz; rcases hz with rfl | rfl <;> first | exact Or.inr ⟨by decide, _, lx_Lw_33, by decide⟩ | exact Or.inr ⟨by decide, _, lx_Lw_69, by decide⟩), by decide, by decide, lx_Lw_78, ce_78, fun qx => ?_⟩
        refine y_base (cs := []) (z_I.nil wB3) ?_
        refine y_astore_n (lv' := [(2, .ref qx), (0, .ref (ad 0)), (1, .ref (ad 69))]) d_Lw_pour_17 rfl (by decide) rfl ?_
        refine y_iconst d_Lw_pour_18 (v := 3) (by decide) ?_
        refine y_iret d_Lw_pour_19 rfl rfl ?_
        exact fun w1 h1 => ⟨X9, ⟨_, rfl⟩, u2, hu, (z_I.same (z_I.nil _) h1).symm ▸ hI2⟩
  · obtain ⟨X9, h1, u2, hu, hI2⟩ := hx
    obtain ⟨v9, rfl⟩ := zriV h1
    refine yw_st (st2 := [.int v9, .int 0, .ref (ad 69)]) rfl ?_
    obtain ⟨s9, hI⟩ := hI2
    obtain ⟨e_o1, wf_o1, k_o1⟩ := hI.1.2 69 (by decide)
    obtain rfl := kd_69.mp k_o1
    refine y_base (cs := [((ad 69), .inl (3, 1, .inr (.inl (((mg (tK_Ip_pour X9 t u.1) s9).1 69).2.1))))]) (hI.1.I [69] _ rfl (by decide) (by decide) (List.forall_mem_cons.mpr ⟨wf_o1, (fun _ h => nomatch h)⟩)) ?_
    refine y_i2l d_Lw_pour_6 (v := v9.toInt64) rfl ?_
    refine y_last d_Lw_pour_7 (q0 := 0) rfl (fun q => q.elim (by decide) (by decide)) (f' := vp_updL (((mg (tK_Ip_pour X9 t u.1) s9).1 69).2.1) 0 v9.toInt64) rfl (cs' := [((ad 69), .inl (3, 1, .inr (.inl (vp_updL (((mg (tK_Ip_pour X9 t u.1) s9).1 69).2.1) 0 v9.toInt64))))]) rfl ?_
    refine y_goto (tgt := 20) d_Lw_pour_8 (by decide) ?_
    refine y_iconst d_Lw_pour_20 (v := 0) (by decide) ?_
    refine y_iret d_Lw_pour_21 rfl rfl ?_
    exact fun w1 h1 => ⟨X9, ⟨_, rfl⟩, u2, hu, IVm.tz ((hI.gen (t2 := (zup (mg (tK_Ip_pour X9 t u.1) s9).1 [(69, (((mg (tK_Ip_pour X9 t u.1) s9).1 69).1, vp_updL (((mg (tK_Ip_pour X9 t u.1) s9).1 69).2.1) 0 v9.toInt64, ((mg (tK_Ip_pour X9 t u.1) s9).1 69).2.2))], (mg (tK_Ip_pour X9 t u.1) s9).2)) (is := [69]) (L2 := []) h1 rfl ⟨kd_69.mpr rfl, trivial⟩ (by decide) (by decide) (fun _ h => nomatch h) (fun _ h => nomatch h) (fun i hi hn => zup_out (fun q => hn ((by decide : ∀ j ∈ ([69] : List Nat), j ∈ ([69] : List Nat)) i q))) (fun h => h) rfl)) (tx_all rfl)⟩
abbrev M_Lw_alloy : zM := (⟨"IronpourLaw", "alloy", "(LIronpour;I[J)I"⟩, method_34_code, 4, (Option.some FieldType.int), 8, 142, [((0 : Nat), (9 : Nat), (12 : Nat), (19 : Nat))])
theorem d_Lw_alloy_0 : decode method_34_code 0 = .ok (.aload_n 2, 1) := zo_44 (zd_b zq_method_34_code_0 0 rfl rfl rfl)
theorem d_Lw_alloy_1 : decode method_34_code 1 = .ok (.iconst 0, 1) := zo_3 (zd_b zq_method_34_code_0 1 rfl rfl rfl)
theorem d_Lw_alloy_2 : decode method_34_code 2 = .ok (.aload_n 0, 1) := zo_42 (zd_b zq_method_34_code_0 2 rfl rfl rfl)
theorem d_Lw_alloy_3 : decode method_34_code 3 = .ok (.iload_n 1, 1) := zo_27 (zd_b zq_method_34_code_0 3 rfl rfl rfl)
theorem d_Lw_alloy_4 : decode method_34_code 4 = .ok (.invokevirtual 124, 3) := zo_182 (d := 0) (e := 124) (zd_b zq_method_34_code_0 4 rfl rfl rfl) (zd_b zq_method_34_code_0 5 rfl rfl rfl) (zd_b zq_method_34_code_0 6 rfl rfl rfl)
theorem ok_Lw_alloy_Ip_alloy : z_okH M_Lw_alloy M_Ip_alloy 1 := ⟨z_mj6 (i := 189) rfl (by decide +kernel), rfl, ⟨by decide +kernel, by decide +kernel, by decide +kernel⟩, ⟨by decide, by decide⟩, z_mj1 (i := 1) rfl (by decide +kernel)⟩
theorem ln_Lw_124 : Cond.methodLink "IronpourLaw" 124 M_Ip_alloy.1 ∈ z_gw := z_mj6 (i := 186) rfl (by decide +kernel)
theorem w_im_Ip_alloy : Cond.instanceMethod M_Ip_alloy.1 ∈ z_gw := z_mj6 (i := 187) rfl (by decide +kernel)
theorem w_se_Ip_alloy : Cond.selects M_Ip_alloy.1.cls M_Ip_alloy.1 M_Ip_alloy.1 ∈ z_gw := z_mj6 (i := 188) rfl (by decide +kernel)
theorem d_Lw_alloy_12 : decode method_34_code 12 = .ok (.astore_n 3, 1) := zo_78 (zd_b zq_method_34_code_0 12 rfl rfl rfl)
theorem d_Lw_alloy_13 : decode method_34_code 13 = .ok (.iconst 1, 1) := zo_4 (zd_b zq_method_34_code_0 13 rfl rfl rfl)
theorem d_Lw_alloy_14 : decode method_34_code 14 = .ok (.ireturn, 1) := zo_172 (zd_b zq_method_34_code_0 14 rfl rfl rfl)
theorem d_Lw_alloy_7 : decode method_34_code 7 = .ok (.i2l, 1) := zo_133 (zd_b zq_method_34_code_0 7 rfl rfl rfl)
theorem d_Lw_alloy_8 : decode method_34_code 8 = .ok (.lastore, 1) := zo_80 (zd_b zq_method_34_code_0 8 rfl rfl rfl)
theorem d_Lw_alloy_9 : decode method_34_code 9 = .ok (.goto 6, 3) := zo_167 (d := 0) (e := 6) (zd_b zq_method_34_code_0 9 rfl rfl rfl) (zd_b zq_method_34_code_0 10 rfl rfl rfl) (zd_b zq_method_34_code_0 11 rfl rfl rfl) (by decide +kernel)
theorem d_Lw_alloy_15 : decode method_34_code 15 = .ok (.iconst 0, 1) := zo_3 (zd_b zq_method_34_code_0 15 rfl rfl rfl)
theorem d_Lw_alloy_16 : decode method_34_code 16 = .ok (.ireturn, 1) := zo_172 (zd_b zq_method_34_code_0 16 rfl rfl rfl)
set_option maxHeartbeats 4000000 in
set_option maxRecDepth 100000 in
theorem W_alloy {g : zG} {ad : Nat → Nat} {t : zTT} {u : zNN} {w : zW} (hI : IVm g ad t u w) (x : Int32) : zMB g M_Lw_alloy [.ref (ad 0), .int x, .ref (ad 69)] w (fun o w1 => MKx g ad t u.1 o w1) 10 300 := by
  obtain ⟨s, hI⟩ := hI
  obtain ⟨e_a, wf_a, k_a⟩ := hI.1.2 0 (by decide)
  obtain rfl := kd_0.mp k_a
  obtain ⟨e_o1, wf_o1, k_o1⟩ := hI.1.2 69 (by decide)
  obtain rfl := kd_69.mp k_o1
  refine y_ofH (by decide) (by decide) (Nat.le_of_ble_eq_true rfl) (y_base (cs := [((ad 0), .inr (11, [.ref (ad 1), .ref (ad 5), .ref (ad 18), .ref (ad 31), .ref (ad 32), .ref (ad 36), .ref (ad 42), .ref (ad 45), .ref (ad 47), .ref (ad 49), .ref (ad 50), .ref (ad 51)])), ((ad 69), .inl (3, 1, .inr (.inl (((mg t s).1 69).2.1))))]) (hI.1.I [0, 69] _ rfl (by decide) (by decide) (List.forall_mem_cons.mpr ⟨wf_a, (List.forall_mem_cons.mpr ⟨wf_o1, (fun _ h => nomatch h)⟩)⟩)) ?_)
  refine y_lvE (lv2 := [(0, .ref (ad 0)), (1, .int x), (2, .ref (ad 69))]) rfl ?_
  refine y_aload_n d_Lw_alloy_0 rfl 2 rfl ?_
  refine y_iconst d_Lw_alloy_1 (v := 0) (by decide) ?_
  refine y_aload_n d_Lw_alloy_2 rfl 0 rfl ?_
  refine y_iload_n d_Lw_alloy_3 rfl 1 rfl ?_
  refine yw_callVH (As := [.int x]) (rest := [.int 0, .ref (ad 69)]) (q0 := 0) rfl rfl ln_Lw_124 w_im_Ip_alloy w_se_Ip_alloy ok_Lw_alloy_Ip_alloy d_Lw_alloy_4 (fun wA hA => K_Ip_alloy ⟨_, (hI.gen (t2 := (mg t s)) (is := [0, 69]) (L2 := []) hA rfl ⟨kd_0.mpr rfl, kd_69.mpr rfl, trivial⟩ (by decide) (by decide) (fun _ h => nomatch h) (fun _ h => nomatch h) (fun _ _ _ => rfl) (fun h => h) rfl)⟩ x) rfl rfl (Nat.le_of_ble_eq_true rfl) (by omega) (by omega) (fun wA4 hA4 E wB4 hx => ?_) (fun wA4 hA4 v wB4 hx => ?_)
  · obtain ⟨h1, u2, hu, hI2⟩ := hx
    obtain rfl := List.mem_singleton.mp (zriE h1)
    refine ⟨"java/lang/IndexOutOfBoundsException", [], [], (0, 9, 12, 19), rfl, (fun z hz => nomatch hz), by decide, by decide, lx_Lw_19, ce_19, fun qx => ?_⟩
    refine y_base (cs := []) (z_I.nil wB4) ?_
    refine y_astore_n (lv' := [(3, .ref qx), (0, .ref (ad 0)), (1, .int x), (2, .ref (ad 69))]) d_Lw_alloy_12 rfl (by decide) rfl ?_
    refine y_iconst d_Lw_alloy_13 (v := 1) (by decide) ?_
    refine y_iret d_Lw_alloy_14 rfl rfl ?_
    exact fun w1 h1 => ⟨⟨_, rfl⟩, u2, hu, (z_I.same (z_I.nil _) h1).symm ▸ hI2⟩
  · obtain ⟨h1, u2, hu, hI2⟩ := hx
    obtain ⟨v9, rfl⟩ := zriV h1
    refine yw_st (st2 := [.int v9, .int 0, .ref (ad 69)]) rfl ?_
    obtain ⟨s9, hI⟩ := hI2
    obtain ⟨e_o1, wf_o1, k_o1⟩ := hI.1.2 69 (by decide)
    obtain rfl := kd_69.mp k_o1
    refine y_base (cs := [((ad 69), .inl (3, 1, .inr (.inl (((mg t s9).1 69).2.1))))]) (hI.1.I [69] _ rfl (by decide) (by decide) (List.forall_mem_cons.mpr ⟨wf_o1, (fun _ h => nomatch h)⟩)) ?_
    refine y_i2l d_Lw_alloy_7 (v := v9.toInt64) rfl ?_
    refine y_last d_Lw_alloy_8 (q0 := 0) rfl (fun q => q.elim (by decide) (by decide)) (f' := vp_updL (((mg t s9).1 69).2.1) 0 v9.toInt64) rfl (cs' := [((ad 69), .inl (3, 1, .inr (.inl (vp_updL (((mg t s9).1 69).2.1) 0 v9.toInt64))))]) rfl ?_
    refine y_goto (tgt := 15) d_Lw_alloy_9 (by decide) ?_
    refine y_iconst d_Lw_alloy_15 (v := 0) (by decide) ?_
    refine y_iret d_Lw_alloy_16 rfl rfl ?_
    exact fun w1 h1 => ⟨⟨_, rfl⟩, u2, hu, IVm.tz ((hI.gen (t2 := (zup (mg t s9).1 [(69, (((mg t s9).1 69).1, vp_updL (((mg t s9).1 69).2.1) 0 v9.toInt64, ((mg t s9).1 69).2.2))], (mg t s9).2)) (is := [69]) (L2 := []) h1 rfl ⟨kd_69.mpr rfl, trivial⟩ (by decide) (by decide) (fun _ h => nomatch h) (fun _ h => nomatch h) (fun i hi hn => zup_out (fun q => hn ((by decide : ∀ j ∈ ([69] : List Nat), j ∈ ([69] : List Nat)) i q))) (fun h => h) rfl)) (tx_all rfl)⟩
abbrev M_Lw_faults : zM := (⟨"IronpourLaw", "faults", "(LIronpour;I[J)I"⟩, method_35_code, 4, (Option.some FieldType.int), 8, 142, [((0 : Nat), (9 : Nat), (12 : Nat), (19 : Nat))])
theorem d_Lw_faults_0 : decode method_35_code 0 = .ok (.aload_n 2, 1) := zo_44 (zd_b zq_method_35_code_0 0 rfl rfl rfl)
theorem d_Lw_faults_1 : decode method_35_code 1 = .ok (.iconst 0, 1) := zo_3 (zd_b zq_method_35_code_0 1 rfl rfl rfl)
theorem d_Lw_faults_2 : decode method_35_code 2 = .ok (.aload_n 0, 1) := zo_42 (zd_b zq_method_35_code_0 2 rfl rfl rfl)
theorem d_Lw_faults_3 : decode method_35_code 3 = .ok (.iload_n 1, 1) := zo_27 (zd_b zq_method_35_code_0 3 rfl rfl rfl)
theorem d_Lw_faults_4 : decode method_35_code 4 = .ok (.invokevirtual 128, 3) := zo_182 (d := 0) (e := 128) (zd_b zq_method_35_code_0 4 rfl rfl rfl) (zd_b zq_method_35_code_0 5 rfl rfl rfl) (zd_b zq_method_35_code_0 6 rfl rfl rfl)
theorem ok_Lw_faults_Ip_faults : z_okH M_Lw_faults M_Ip_faults 1 := ⟨z_mj6 (i := 202) rfl (by decide +kernel), rfl, ⟨by decide +kernel, by decide +kernel, by decide +kernel⟩, ⟨by decide, by decide⟩, z_mj1 (i := 1) rfl (by decide +kernel)⟩
theorem ln_Lw_128 : Cond.methodLink "IronpourLaw" 128 M_Ip_faults.1 ∈ z_gw := z_mj6 (i := 199) rfl (by decide +kernel)
theorem w_im_Ip_faults : Cond.instanceMethod M_Ip_faults.1 ∈ z_gw := z_mj6 (i := 200) rfl (by decide +kernel)
theorem w_se_Ip_faults : Cond.selects M_Ip_faults.1.cls M_Ip_faults.1 M_Ip_faults.1 ∈ z_gw := z_mj6 (i := 201) rfl (by decide +kernel)
theorem d_Lw_faults_12 : decode method_35_code 12 = .ok (.astore_n 3, 1) := zo_78 (zd_b zq_method_35_code_0 12 rfl rfl rfl)
theorem d_Lw_faults_13 : decode method_35_code 13 = .ok (.iconst 1, 1) := zo_4 (zd_b zq_method_35_code_0 13 rfl rfl rfl)
theorem d_Lw_faults_14 : decode method_35_code 14 = .ok (.ireturn, 1) := zo_172 (zd_b zq_method_35_code_0 14 rfl rfl rfl)
theorem d_Lw_faults_7 : decode method_35_code 7 = .ok (.i2l, 1) := zo_133 (zd_b zq_method_35_code_0 7 rfl rfl rfl)
theorem d_Lw_faults_8 : decode method_35_code 8 = .ok (.lastore, 1) := zo_80 (zd_b zq_method_35_code_0 8 rfl rfl rfl)
theorem d_Lw_faults_9 : decode method_35_code 9 = .ok (.goto 6, 3) := zo_167 (d := 0) (e := 6) (zd_b zq_method_35_code_0 9 rfl rfl rfl) (zd_b zq_method_35_code_0 10 rfl rfl rfl) (zd_b zq_method_35_code_0 11 rfl rfl rfl) (by decide +kernel)
theorem d_Lw_faults_15 : decode method_35_code 15 = .ok (.iconst 0, 1) := zo_3 (zd_b zq_method_35_code_0 15 rfl rfl rfl)
theorem d_Lw_faults_16 : decode method_35_code 16 = .ok (.ireturn, 1) := zo_172 (zd_b zq_method_35_code_0 16 rfl rfl rfl)
set_option maxHeartbeats 4000000 in
set_option maxRecDepth 100000 in
theorem W_faults {g : zG} {ad : Nat → Nat} {t : zTT} {u : zNN} {w : zW} (hI : IVm g ad t u w) (x : Int32) : zMB g M_Lw_faults [.ref (ad 0), .int x, .ref (ad 69)] w (fun o w1 => MKx g ad t u.1 o w1) 10 300 := by
  obtain ⟨s, hI⟩ := hI
  obtain ⟨e_a, wf_a, k_a⟩ := hI.1.2 0 (by decide)
  obtain rfl := kd_0.mp k_a
  obtain ⟨e_o1, wf_o1, k_o1⟩ := hI.1.2 69 (by decide)
  obtain rfl := kd_69.mp k_o1
  refine y_ofH (by decide) (by decide) (Nat.le_of_ble_eq_true rfl) (y_base (cs := [((ad 0), .inr (11, [.ref (ad 1), .ref (ad 5), .ref (ad 18), .ref (ad 31), .ref (ad 32), .ref (ad 36), .ref (ad 42), .ref (ad 45), .ref (ad 47), .ref (ad 49), .ref (ad 50), .ref (ad 51)])), ((ad 69), .inl (3, 1, .inr (.inl (((mg t s).1 69).2.1))))]) (hI.1.I [0, 69] _ rfl (by decide) (by decide) (List.forall_mem_cons.mpr ⟨wf_a, (List.forall_mem_cons.mpr ⟨wf_o1, (fun _ h => nomatch h)⟩)⟩)) ?_)
  refine y_lvE (lv2 := [(0, .ref (ad 0)), (1, .int x), (2, .ref (ad 69))]) rfl ?_
  refine y_aload_n d_Lw_faults_0 rfl 2 rfl ?_
  refine y_iconst d_Lw_faults_1 (v := 0) (by decide) ?_
  refine y_aload_n d_Lw_faults_2 rfl 0 rfl ?_
  refine y_iload_n d_Lw_faults_3 rfl 1 rfl ?_
  refine yw_callVH (As := [.int x]) (rest := [.int 0, .ref (ad 69)]) (q0 := 0) rfl rfl ln_Lw_128 w_im_Ip_faults w_se_Ip_faults ok_Lw_faults_Ip_faults d_Lw_faults_4 (fun wA hA => K_Ip_faults ⟨_, (hI.gen (t2 := (mg t s)) (is := [0, 69]) (L2 := []) hA rfl ⟨kd_0.mpr rfl, kd_69.mpr rfl, trivial⟩ (by decide) (by decide) (fun _ h => nomatch h) (fun _ h => nomatch h) (fun _ _ _ => rfl) (fun h => h) rfl)⟩ x) rfl rfl (Nat.le_of_ble_eq_true rfl) (by omega) (by omega) (fun wA4 hA4 E wB4 hx => ?_) (fun wA4 hA4 v wB4 hx => ?_)
  · obtain ⟨h1, u2, hu, hI2⟩ := hx
    obtain rfl := List.mem_singleton.mp (zriE h1)
    refine ⟨"java/lang/IndexOutOfBoundsException", [], [], (0, 9, 12, 19), rfl, (fun z hz => nomatch hz), by decide, by decide, lx_Lw_19, ce_19, fun qx => ?_⟩
    refine y_base (cs := []) (z_I.nil wB4) ?_
    refine y_astore_n (lv' := [(3, .ref qx), (0, .ref (ad 0)), (1, .int x), (2, .ref (ad 69))]) d_Lw_faults_12 rfl (by decide) rfl ?_
    refine y_iconst d_Lw_faults_13 (v := 1) (by decide) ?_
    refine y_iret d_Lw_faults_14 rfl rfl ?_
    exact fun w1 h1 => ⟨⟨_, rfl⟩, u2, hu, (z_I.same (z_I.nil _) h1).symm ▸ hI2⟩
  · obtain ⟨h1, u2, hu, hI2⟩ := hx
    obtain ⟨v9, rfl⟩ := zriV h1
    refine yw_st (st2 := [.int v9, .int 0, .ref (ad 69)]) rfl ?_
    obtain ⟨s9, hI⟩ := hI2
    obtain ⟨e_o1, wf_o1, k_o1⟩ := hI.1.2 69 (by decide)
    obtain rfl := kd_69.mp k_o1
    refine y_base (cs := [((ad 69), .inl (3, 1, .inr (.inl (((mg t s9).1 69).2.1))))]) (hI.1.I [69] _ rfl (by decide) (by decide) (List.forall_mem_cons.mpr ⟨wf_o1, (fun _ h => nomatch h)⟩)) ?_
    refine y_i2l d_Lw_faults_7 (v := v9.toInt64) rfl ?_
    refine y_last d_Lw_faults_8 (q0 := 0) rfl (fun q => q.elim (by decide) (by decide)) (f' := vp_updL (((mg t s9).1 69).2.1) 0 v9.toInt64) rfl (cs' := [((ad 69), .inl (3, 1, .inr (.inl (vp_updL (((mg t s9).1 69).2.1) 0 v9.toInt64))))]) rfl ?_
    refine y_goto (tgt := 15) d_Lw_faults_9 (by decide) ?_
    refine y_iconst d_Lw_faults_15 (v := 0) (by decide) ?_
    refine y_iret d_Lw_faults_16 rfl rfl ?_
    exact fun w1 h1 => ⟨⟨_, rfl⟩, u2, hu, IVm.tz ((hI.gen (t2 := (zup (mg t s9).1 [(69, (((mg t s9).1 69).1, vp_updL (((mg t s9).1 69).2.1) 0 v9.toInt64, ((mg t s9).1 69).2.2))], (mg t s9).2)) (is := [69]) (L2 := []) h1 rfl ⟨kd_69.mpr rfl, trivial⟩ (by decide) (by decide) (fun _ h => nomatch h) (fun _ h => nomatch h) (fun i hi hn => zup_out (fun q => hn ((by decide : ∀ j ∈ ([69] : List Nat), j ∈ ([69] : List Nat)) i q))) (fun h => h) rfl)) (tx_all rfl)⟩
abbrev M_Lw_shrunkIn : zM := (⟨"IronpourLaw", "shrunkIn", "(LIronpour;I[J)I"⟩, method_36_code, 4, (Option.some FieldType.int), 8, 142, [((0 : Nat), (9 : Nat), (12 : Nat), (19 : Nat))])
theorem d_Lw_shrunkIn_0 : decode method_36_code 0 = .ok (.aload_n 2, 1) := zo_44 (zd_b zq_method_36_code_0 0 rfl rfl rfl)
theorem d_Lw_shrunkIn_1 : decode method_36_code 1 = .ok (.iconst 0, 1) := zo_3 (zd_b zq_method_36_code_0 1 rfl rfl rfl)
theorem d_Lw_shrunkIn_2 : decode method_36_code 2 = .ok (.aload_n 0, 1) := zo_42 (zd_b zq_method_36_code_0 2 rfl rfl rfl)
theorem d_Lw_shrunkIn_3 : decode method_36_code 3 = .ok (.iload_n 1, 1) := zo_27 (zd_b zq_method_36_code_0 3 rfl rfl rfl)
theorem d_Lw_shrunkIn_4 : decode method_36_code 4 = .ok (.invokevirtual 131, 3) := zo_182 (d := 0) (e := 131) (zd_b zq_method_36_code_0 4 rfl rfl rfl) (zd_b zq_method_36_code_0 5 rfl rfl rfl) (zd_b zq_method_36_code_0 6 rfl rfl rfl)
theorem ok_Lw_shrunkIn_Ip_shrunkIn : z_okH M_Lw_shrunkIn M_Ip_shrunkIn 1 := ⟨z_mj6 (i := 209) rfl (by decide +kernel), rfl, ⟨by decide +kernel, by decide +kernel, by decide +kernel⟩, ⟨by decide, by decide⟩, z_mj1 (i := 1) rfl (by decide +kernel)⟩
theorem ln_Lw_131 : Cond.methodLink "IronpourLaw" 131 M_Ip_shrunkIn.1 ∈ z_gw := z_mj6 (i := 206) rfl (by decide +kernel)
theorem w_im_Ip_shrunkIn : Cond.instanceMethod M_Ip_shrunkIn.1 ∈ z_gw := z_mj6 (i := 207) rfl (by decide +kernel)
theorem w_se_Ip_shrunkIn : Cond.selects M_Ip_shrunkIn.1.cls M_Ip_shrunkIn.1 M_Ip_shrunkIn.1 ∈ z_gw := z_mj6 (i := 208) rfl (by decide +kernel)
theorem d_Lw_shrunkIn_12 : decode method_36_code 12 = .ok (.astore_n 3, 1) := zo_78 (zd_b zq_method_36_code_0 12 rfl rfl rfl)
theorem d_Lw_shrunkIn_13 : decode method_36_code 13 = .ok (.iconst 1, 1) := zo_4 (zd_b zq_method_36_code_0 13 rfl rfl rfl)
theorem d_Lw_shrunkIn_14 : decode method_36_code 14 = .ok (.ireturn, 1) := zo_172 (zd_b zq_method_36_code_0 14 rfl rfl rfl)
theorem d_Lw_shrunkIn_7 : decode method_36_code 7 = .ok (.i2l, 1) := zo_133 (zd_b zq_method_36_code_0 7 rfl rfl rfl)
theorem d_Lw_shrunkIn_8 : decode method_36_code 8 = .ok (.lastore, 1) := zo_80 (zd_b zq_method_36_code_0 8 rfl rfl rfl)
theorem d_Lw_shrunkIn_9 : decode method_36_code 9 = .ok (.goto 6, 3) := zo_167 (d := 0) (e := 6) (zd_b zq_method_36_code_0 9 rfl rfl rfl) (zd_b zq_method_36_code_0 10 rfl rfl rfl) (zd_b zq_method_36_code_0 11 rfl rfl rfl) (by decide +kernel)
theorem d_Lw_shrunkIn_15 : decode method_36_code 15 = .ok (.iconst 0, 1) := zo_3 (zd_b zq_method_36_code_0 15 rfl rfl rfl)
theorem d_Lw_shrunkIn_16 : decode method_36_code 16 = .ok (.ireturn, 1) := zo_172 (zd_b zq_method_36_code_0 16 rfl rfl rfl)
set_option maxHeartbeats 4000000 in
set_option maxRecDepth 100000 in
theorem W_shrunkIn {g : zG} {ad : Nat → Nat} {t : zTT} {u : zNN} {w : zW} (hI : IVm g ad t u w) (x : Int32) : zMB g M_Lw_shrunkIn [.ref (ad 0), .int x, .ref (ad 69)] w (fun o w1 => MKx g ad t u.1 o w1) 10 300 := by
  obtain ⟨s, hI⟩ := hI
  obtain ⟨e_a, wf_a, k_a⟩ := hI.1.2 0 (by decide)
  obtain rfl := kd_0.mp k_a
  obtain ⟨e_o1, wf_o1, k_o1⟩ := hI.1.2 69 (by decide)
  obtain rfl := kd_69.mp k_o1
  refine y_ofH (by decide) (by decide) (Nat.le_of_ble_eq_true rfl) (y_base (cs := [((ad 0), .inr (11, [.ref (ad 1), .ref (ad 5), .ref (ad 18), .ref (ad 31), .ref (ad 32), .ref (ad 36), .ref (ad 42), .ref (ad 45), .ref (ad 47), .ref (ad 49), .ref (ad 50), .ref (ad 51)])), ((ad 69), .inl (3, 1, .inr (.inl (((mg t s).1 69).2.1))))]) (hI.1.I [0, 69] _ rfl (by decide) (by decide) (List.forall_mem_cons.mpr ⟨wf_a, (List.forall_mem_cons.mpr ⟨wf_o1, (fun _ h => nomatch h)⟩)⟩)) ?_)
  refine y_lvE (lv2 := [(0, .ref (ad 0)), (1, .int x), (2, .ref (ad 69))]) rfl ?_
  refine y_aload_n d_Lw_shrunkIn_0 rfl 2 rfl ?_
  refine y_iconst d_Lw_shrunkIn_1 (v := 0) (by decide) ?_
  refine y_aload_n d_Lw_shrunkIn_2 rfl 0 rfl ?_
  refine y_iload_n d_Lw_shrunkIn_3 rfl 1 rfl ?_
  refine yw_callVH (As := [.int x]) (rest := [.int 0, .ref (ad 69)]) (q0 := 0) rfl rfl ln_Lw_131 w_im_Ip_shrunkIn w_se_Ip_shrunkIn ok_Lw_shrunkIn_Ip_shrunkIn d_Lw_shrunkIn_4 (fun wA hA => K_Ip_shrunkIn ⟨_, (hI.gen (t2 := (mg t s)) (is := [0, 69]) (L2 := []) hA rfl ⟨kd_0.mpr rfl, kd_69.mpr rfl, trivial⟩ (by decide) (by decide) (fun _ h => nomatch h) (fun _ h => nomatch h) (fun _ _ _ => rfl) (fun h => h) rfl)⟩ x) rfl rfl (Nat.le_of_ble_eq_true rfl) (by omega) (by omega) (fun wA4 hA4 E wB4 hx => ?_) (fun wA4 hA4 v wB4 hx => ?_)
  · obtain ⟨h1, u2, hu, hI2⟩ := hx
    obtain rfl := List.mem_singleton.mp (zriE h1)
    refine ⟨"java/lang/IndexOutOfBoundsException", [], [], (0, 9, 12, 19), rfl, (fun z hz => nomatch hz), by decide, by decide, lx_Lw_19, ce_19, fun qx => ?_⟩
    refine y_base (cs := []) (z_I.nil wB4) ?_
    refine y_astore_n (lv' := [(3, .ref qx), (0, .ref (ad 0)), (1, .int x), (2, .ref (ad 69))]) d_Lw_shrunkIn_12 rfl (by decide) rfl ?_
    refine y_iconst d_Lw_shrunkIn_13 (v := 1) (by decide) ?_
    refine y_iret d_Lw_shrunkIn_14 rfl rfl ?_
    exact fun w1 h1 => ⟨⟨_, rfl⟩, u2, hu, (z_I.same (z_I.nil _) h1).symm ▸ hI2⟩
  · obtain ⟨h1, u2, hu, hI2⟩ := hx
    obtain ⟨v9, rfl⟩ := zriV h1
    refine yw_st (st2 := [.int v9, .int 0, .ref (ad 69)]) rfl ?_
    obtain ⟨s9, hI⟩ := hI2
    obtain ⟨e_o1, wf_o1, k_o1⟩ := hI.1.2 69 (by decide)
    obtain rfl := kd_69.mp k_o1
    refine y_base (cs := [((ad 69), .inl (3, 1, .inr (.inl (((mg t s9).1 69).2.1))))]) (hI.1.I [69] _ rfl (by decide) (by decide) (List.forall_mem_cons.mpr ⟨wf_o1, (fun _ h => nomatch h)⟩)) ?_
    refine y_i2l d_Lw_shrunkIn_7 (v := v9.toInt64) rfl ?_
    refine y_last d_Lw_shrunkIn_8 (q0 := 0) rfl (fun q => q.elim (by decide) (by decide)) (f' := vp_updL (((mg t s9).1 69).2.1) 0 v9.toInt64) rfl (cs' := [((ad 69), .inl (3, 1, .inr (.inl (vp_updL (((mg t s9).1 69).2.1) 0 v9.toInt64))))]) rfl ?_
    refine y_goto (tgt := 15) d_Lw_shrunkIn_9 (by decide) ?_
    refine y_iconst d_Lw_shrunkIn_15 (v := 0) (by decide) ?_
    refine y_iret d_Lw_shrunkIn_16 rfl rfl ?_
    exact fun w1 h1 => ⟨⟨_, rfl⟩, u2, hu, IVm.tz ((hI.gen (t2 := (zup (mg t s9).1 [(69, (((mg t s9).1 69).1, vp_updL (((mg t s9).1 69).2.1) 0 v9.toInt64, ((mg t s9).1 69).2.2))], (mg t s9).2)) (is := [69]) (L2 := []) h1 rfl ⟨kd_69.mpr rfl, trivial⟩ (by decide) (by decide) (fun _ h => nomatch h) (fun _ h => nomatch h) (fun i hi hn => zup_out (fun q => hn ((by decide : ∀ j ∈ ([69] : List Nat), j ∈ ([69] : List Nat)) i q))) (fun h => h) rfl)) (tx_all rfl)⟩
abbrev M_Lw_has : zM := (⟨"IronpourLaw", "has", "(LIronpour;IC[J)I"⟩, method_37_code, 5, (Option.some FieldType.int), 10, 223, [((0 : Nat), (10 : Nat), (13 : Nat), (19 : Nat)), ((0 : Nat), (10 : Nat), (17 : Nat), (13 : Nat))])
theorem d_Lw_has_0 : decode method_37_code 0 = .ok (.aload_n 3, 1) := zo_45 (zd_b zq_method_37_code_0 0 rfl rfl rfl)
theorem d_Lw_has_1 : decode method_37_code 1 = .ok (.iconst 0, 1) := zo_3 (zd_b zq_method_37_code_0 1 rfl rfl rfl)
theorem d_Lw_has_2 : decode method_37_code 2 = .ok (.aload_n 0, 1) := zo_42 (zd_b zq_method_37_code_0 2 rfl rfl rfl)
theorem d_Lw_has_3 : decode method_37_code 3 = .ok (.iload_n 1, 1) := zo_27 (zd_b zq_method_37_code_0 3 rfl rfl rfl)
theorem d_Lw_has_4 : decode method_37_code 4 = .ok (.iload_n 2, 1) := zo_28 (zd_b zq_method_37_code_0 4 rfl rfl rfl)
theorem d_Lw_has_5 : decode method_37_code 5 = .ok (.invokevirtual 134, 3) := zo_182 (d := 0) (e := 134) (zd_b zq_method_37_code_0 5 rfl rfl rfl) (zd_b zq_method_37_code_0 6 rfl rfl rfl) (zd_b zq_method_37_code_0 7 rfl rfl rfl)
theorem ok_Lw_has_Ip_has : z_okH M_Lw_has M_Ip_has 2 := ⟨z_mj6 (i := 216) rfl (by decide +kernel), rfl, ⟨by decide +kernel, by decide +kernel, by decide +kernel⟩, ⟨by decide, by decide⟩, z_mj1 (i := 1) rfl (by decide +kernel)⟩
theorem ln_Lw_134 : Cond.methodLink "IronpourLaw" 134 M_Ip_has.1 ∈ z_gw := z_mj6 (i := 213) rfl (by decide +kernel)
theorem w_im_Ip_has : Cond.instanceMethod M_Ip_has.1 ∈ z_gw := z_mj6 (i := 214) rfl (by decide +kernel)
theorem w_se_Ip_has : Cond.selects M_Ip_has.1.cls M_Ip_has.1 M_Ip_has.1 ∈ z_gw := z_mj6 (i := 215) rfl (by decide +kernel)
theorem d_Lw_has_13 : decode method_37_code 13 = .ok (.astore 4, 2) := zo_58 (d := 4) (zd_b zq_method_37_code_0 13 rfl rfl rfl) (zd_b zq_method_37_code_0 14 rfl rfl rfl)
theorem d_Lw_has_15 : decode method_37_code 15 = .ok (.iconst 1, 1) := zo_4 (zd_b zq_method_37_code_0 15 rfl rfl rfl)
theorem d_Lw_has_16 : decode method_37_code 16 = .ok (.ireturn, 1) := zo_172 (zd_b zq_method_37_code_0 16 rfl rfl rfl)
theorem d_Lw_has_17 : decode method_37_code 17 = .ok (.astore 4, 2) := zo_58 (d := 4) (zd_b zq_method_37_code_0 17 rfl rfl rfl) (zd_b zq_method_37_code_0 18 rfl rfl rfl)
theorem d_Lw_has_19 : decode method_37_code 19 = .ok (.iconst 2, 1) := zo_5 (zd_b zq_method_37_code_0 19 rfl rfl rfl)
theorem d_Lw_has_20 : decode method_37_code 20 = .ok (.ireturn, 1) := zo_172 (zd_b zq_method_37_code_0 20 rfl rfl rfl)
theorem d_Lw_has_8 : decode method_37_code 8 = .ok (.i2l, 1) := zo_133 (zd_b zq_method_37_code_0 8 rfl rfl rfl)
theorem d_Lw_has_9 : decode method_37_code 9 = .ok (.lastore, 1) := zo_80 (zd_b zq_method_37_code_0 9 rfl rfl rfl)
theorem d_Lw_has_10 : decode method_37_code 10 = .ok (.goto 11, 3) := zo_167 (d := 0) (e := 11) (zd_b zq_method_37_code_0 10 rfl rfl rfl) (zd_b zq_method_37_code_0 11 rfl rfl rfl) (zd_b zq_method_37_code_0 12 rfl rfl rfl) (by decide +kernel)
theorem d_Lw_has_21 : decode method_37_code 21 = .ok (.iconst 0, 1) := zo_3 (zd_b zq_method_37_code_0 21 rfl rfl rfl)
theorem d_Lw_has_22 : decode method_37_code 22 = .ok (.ireturn, 1) := zo_172 (zd_b zq_method_37_code_0 22 rfl rfl rfl)
set_option maxHeartbeats 4000000 in
set_option maxRecDepth 100000 in
theorem W_has {g : zG} {ad : Nat → Nat} {t : zTT} {u : zNN} {w : zW} (hI : IVm g ad t u w) (x c : Int32) : zMB g M_Lw_has [.ref (ad 0), .int x, .int c, .ref (ad 69)] w (fun o w1 => MKx g ad t u.1 o w1) 10 300 := by
  obtain ⟨s, hI⟩ := hI
  obtain ⟨e_a, wf_a, k_a⟩ := hI.1.2 0 (by decide)
  obtain rfl := kd_0.mp k_a
  obtain ⟨e_o1, wf_o1, k_o1⟩ := hI.1.2 69 (by decide)
  obtain rfl := kd_69.mp k_o1
  refine y_ofH (by decide) (by decide) (Nat.le_of_ble_eq_true rfl) (y_base (cs := [((ad 0), .inr (11, [.ref (ad 1), .ref (ad 5), .ref (ad 18), .ref (ad 31), .ref (ad 32), .ref (ad 36), .ref (ad 42), .ref (ad 45), .ref (ad 47), .ref (ad 49), .ref (ad 50), .ref (ad 51)])), ((ad 69), .inl (3, 1, .inr (.inl (((mg t s).1 69).2.1))))]) (hI.1.I [0, 69] _ rfl (by decide) (by decide) (List.forall_mem_cons.mpr ⟨wf_a, (List.forall_mem_cons.mpr ⟨wf_o1, (fun _ h => nomatch h)⟩)⟩)) ?_)
  refine y_lvE (lv2 := [(0, .ref (ad 0)), (1, .int x), (2, .int c), (3, .ref (ad 69))]) rfl ?_
  refine y_aload_n d_Lw_has_0 rfl 3 rfl ?_
  refine y_iconst d_Lw_has_1 (v := 0) (by decide) ?_
  refine y_aload_n d_Lw_has_2 rfl 0 rfl ?_
  refine y_iload_n d_Lw_has_3 rfl 1 rfl ?_
  refine y_iload_n d_Lw_has_4 rfl 2 rfl ?_
  refine yw_callVH (As := [.int x, .int c]) (rest := [.int 0, .ref (ad 69)]) (q0 := 0) rfl rfl ln_Lw_134 w_im_Ip_has w_se_Ip_has ok_Lw_has_Ip_has d_Lw_has_5 (fun wA hA => K_Ip_has ⟨_, (hI.gen (t2 := (mg t s)) (is := [0, 69]) (L2 := []) hA rfl ⟨kd_0.mpr rfl, kd_69.mpr rfl, trivial⟩ (by decide) (by decide) (fun _ h => nomatch h) (fun _ h => nomatch h) (fun _ _ _ => rfl) (fun h => h) rfl)⟩ x c) rfl rfl (Nat.le_of_ble_eq_true rfl) (by omega) (by omega) (fun wA5 hA5 E wB5 hx => ?_) (fun wA5 hA5 v wB5 hx => ?_)
  · obtain ⟨h1, u2, hu, hI2⟩ := hx
    rcases List.mem_cons.mp (zriE h1) with rfl | g2
    · refine ⟨"java/lang/IndexOutOfBoundsException", [], [(0, 10, 17, 13)], (0, 10, 13, 19), rfl, (fun z hz => nomatch hz), by decide, by decide, lx_Lw_19, ce_19, fun qx => ?_⟩
      refine y_base (cs := []) (z_I.nil wB5) ?_
      refine y_astore (lv' := [(4, .ref qx), (0, .ref (ad 0)), (1, .int x), (2, .int c), (3, .ref (ad 69))]) d_Lw_has_13 (by decide) rfl ?_
      refine y_iconst d_Lw_has_15 (v := 1) (by decide) ?_
      refine y_iret d_Lw_has_16 rfl rfl ?_
      exact fun w1 h1 => ⟨⟨_, rfl⟩, u2, hu, (z_I.same (z_I.nil _) h1).symm ▸ hI2⟩
    · obtain rfl := List.mem_singleton.mp g2
      refine ⟨"java/lang/IllegalArgumentException", [(0, 10, 13, 19)], [], (0, 10, 17, 13), rfl, (fun z hz => by simp only [List.mem_cons, List.not_mem_nil, or_false] at hz; rcases hz with rfl; exact Or.inr ⟨by decide, _, lx_Lw_19, by decide⟩), by decide, by decide, lx_Lw_13, ce_13, fun qx => ?_⟩
      refine y_base (cs := []) (z_I.nil wB5) ?_
      refine y_astore (lv' := [(4, .ref qx), (0, .ref (ad 0)), (1, .int x), (2, .int c), (3, .ref (ad 69))]) d_Lw_has_17 (by decide) rfl ?_
      refine y_iconst d_Lw_has_19 (v := 2) (by decide) ?_
      refine y_iret d_Lw_has_20 rfl rfl ?_
      exact fun w1 h1 => ⟨⟨_, rfl⟩, u2, hu, (z_I.same (z_I.nil _) h1).symm ▸ hI2⟩
  · obtain ⟨h1, u2, hu, hI2⟩ := hx
    obtain ⟨v9, rfl⟩ := zriV h1
    refine yw_st (st2 := [.int v9, .int 0, .ref (ad 69)]) rfl ?_
    obtain ⟨s9, hI⟩ := hI2
    obtain ⟨e_o1, wf_o1, k_o1⟩ := hI.1.2 69 (by decide)
    obtain rfl := kd_69.mp k_o1
    refine y_base (cs := [((ad 69), .inl (3, 1, .inr (.inl (((mg t s9).1 69).2.1))))]) (hI.1.I [69] _ rfl (by decide) (by decide) (List.forall_mem_cons.mpr ⟨wf_o1, (fun _ h => nomatch h)⟩)) ?_
    refine y_i2l d_Lw_has_8 (v := v9.toInt64) rfl ?_
    refine y_last d_Lw_has_9 (q0 := 0) rfl (fun q => q.elim (by decide) (by decide)) (f' := vp_updL (((mg t s9).1 69).2.1) 0 v9.toInt64) rfl (cs' := [((ad 69), .inl (3, 1, .inr (.inl (vp_updL (((mg t s9).1 69).2.1) 0 v9.toInt64))))]) rfl ?_
    refine y_goto (tgt := 21) d_Lw_has_10 (by decide) ?_
    refine y_iconst d_Lw_has_21 (v := 0) (by decide) ?_
    refine y_iret d_Lw_has_22 rfl rfl ?_
    exact fun w1 h1 => ⟨⟨_, rfl⟩, u2, hu, IVm.tz ((hI.gen (t2 := (zup (mg t s9).1 [(69, (((mg t s9).1 69).1, vp_updL (((mg t s9).1 69).2.1) 0 v9.toInt64, ((mg t s9).1 69).2.2))], (mg t s9).2)) (is := [69]) (L2 := []) h1 rfl ⟨kd_69.mpr rfl, trivial⟩ (by decide) (by decide) (fun _ h => nomatch h) (fun _ h => nomatch h) (fun i hi hn => zup_out (fun q => hn ((by decide : ∀ j ∈ ([69] : List Nat), j ∈ ([69] : List Nat)) i q))) (fun h => h) rfl)) (tx_all rfl)⟩
abbrev M_Lw_bar : zM := (⟨"IronpourLaw", "bar", "(LIronpour;I[J)I"⟩, method_38_code, 4, (Option.some FieldType.int), 8, 142, [((0 : Nat), (9 : Nat), (12 : Nat), (19 : Nat))])
theorem d_Lw_bar_0 : decode method_38_code 0 = .ok (.aload_n 2, 1) := zo_44 (zd_b zq_method_38_code_0 0 rfl rfl rfl)
theorem d_Lw_bar_1 : decode method_38_code 1 = .ok (.iconst 0, 1) := zo_3 (zd_b zq_method_38_code_0 1 rfl rfl rfl)
theorem d_Lw_bar_2 : decode method_38_code 2 = .ok (.aload_n 0, 1) := zo_42 (zd_b zq_method_38_code_0 2 rfl rfl rfl)
theorem d_Lw_bar_3 : decode method_38_code 3 = .ok (.iload_n 1, 1) := zo_27 (zd_b zq_method_38_code_0 3 rfl rfl rfl)
theorem d_Lw_bar_4 : decode method_38_code 4 = .ok (.invokevirtual 138, 3) := zo_182 (d := 0) (e := 138) (zd_b zq_method_38_code_0 4 rfl rfl rfl) (zd_b zq_method_38_code_0 5 rfl rfl rfl) (zd_b zq_method_38_code_0 6 rfl rfl rfl)
theorem ok_Lw_bar_Ip_bar : z_okH M_Lw_bar M_Ip_bar 1 := ⟨z_mj6 (i := 223) rfl (by decide +kernel), rfl, ⟨by decide +kernel, by decide +kernel, by decide +kernel⟩, ⟨by decide, by decide⟩, z_mj1 (i := 1) rfl (by decide +kernel)⟩
theorem ln_Lw_138 : Cond.methodLink "IronpourLaw" 138 M_Ip_bar.1 ∈ z_gw := z_mj6 (i := 220) rfl (by decide +kernel)
theorem w_im_Ip_bar : Cond.instanceMethod M_Ip_bar.1 ∈ z_gw := z_mj6 (i := 221) rfl (by decide +kernel)
theorem w_se_Ip_bar : Cond.selects M_Ip_bar.1.cls M_Ip_bar.1 M_Ip_bar.1 ∈ z_gw := z_mj6 (i := 222) rfl (by decide +kernel)
theorem d_Lw_bar_12 : decode method_38_code 12 = .ok (.astore_n 3, 1) := zo_78 (zd_b zq_method_38_code_0 12 rfl rfl rfl)
theorem d_Lw_bar_13 : decode method_38_code 13 = .ok (.iconst 1, 1) := zo_4 (zd_b zq_method_38_code_0 13 rfl rfl rfl)
theorem d_Lw_bar_14 : decode method_38_code 14 = .ok (.ireturn, 1) := zo_172 (zd_b zq_method_38_code_0 14 rfl rfl rfl)
theorem d_Lw_bar_7 : decode method_38_code 7 = .ok (.i2l, 1) := zo_133 (zd_b zq_method_38_code_0 7 rfl rfl rfl)
theorem d_Lw_bar_8 : decode method_38_code 8 = .ok (.lastore, 1) := zo_80 (zd_b zq_method_38_code_0 8 rfl rfl rfl)
theorem d_Lw_bar_9 : decode method_38_code 9 = .ok (.goto 6, 3) := zo_167 (d := 0) (e := 6) (zd_b zq_method_38_code_0 9 rfl rfl rfl) (zd_b zq_method_38_code_0 10 rfl rfl rfl) (zd_b zq_method_38_code_0 11 rfl rfl rfl) (by decide +kernel)
theorem d_Lw_bar_15 : decode method_38_code 15 = .ok (.iconst 0, 1) := zo_3 (zd_b zq_method_38_code_0 15 rfl rfl rfl)
theorem d_Lw_bar_16 : decode method_38_code 16 = .ok (.ireturn, 1) := zo_172 (zd_b zq_method_38_code_0 16 rfl rfl rfl)
set_option maxHeartbeats 4000000 in
set_option maxRecDepth 100000 in
theorem W_bar {g : zG} {ad : Nat → Nat} {t : zTT} {u : zNN} {w : zW} (hI : IVm g ad t u w) (x : Int32) : zMB g M_Lw_bar [.ref (ad 0), .int x, .ref (ad 69)] w (fun o w1 => MKx g ad t u.1 o w1) 10 300 := by
  obtain ⟨s, hI⟩ := hI
  obtain ⟨e_a, wf_a, k_a⟩ := hI.1.2 0 (by decide)
  obtain rfl := kd_0.mp k_a
  obtain ⟨e_o1, wf_o1, k_o1⟩ := hI.1.2 69 (by decide)
  obtain rfl := kd_69.mp k_o1
  refine y_ofH (by decide) (by decide) (Nat.le_of_ble_eq_true rfl) (y_base (cs := [((ad 0), .inr (11, [.ref (ad 1), .ref (ad 5), .ref (ad 18), .ref (ad 31), .ref (ad 32), .ref (ad 36), .ref (ad 42), .ref (ad 45), .ref (ad 47), .ref (ad 49), .ref (ad 50), .ref (ad 51)])), ((ad 69), .inl (3, 1, .inr (.inl (((mg t s).1 69).2.1))))]) (hI.1.I [0, 69] _ rfl (by decide) (by decide) (List.forall_mem_cons.mpr ⟨wf_a, (List.forall_mem_cons.mpr ⟨wf_o1, (fun _ h => nomatch h)⟩)⟩)) ?_)
  refine y_lvE (lv2 := [(0, .ref (ad 0)), (1, .int x), (2, .ref (ad 69))]) rfl ?_
  refine y_aload_n d_Lw_bar_0 rfl 2 rfl ?_
  refine y_iconst d_Lw_bar_1 (v := 0) (by decide) ?_
  refine y_aload_n d_Lw_bar_2 rfl 0 rfl ?_
  refine y_iload_n d_Lw_bar_3 rfl 1 rfl ?_
  refine yw_callVH (As := [.int x]) (rest := [.int 0, .ref (ad 69)]) (q0 := 0) rfl rfl ln_Lw_138 w_im_Ip_bar w_se_Ip_bar ok_Lw_bar_Ip_bar d_Lw_bar_4 (fun wA hA => K_Ip_bar ⟨_, (hI.gen (t2 := (mg t s)) (is := [0, 69]) (L2 := []) hA rfl ⟨kd_0.mpr rfl, kd_69.mpr rfl, trivial⟩ (by decide) (by decide) (fun _ h => nomatch h) (fun _ h => nomatch h) (fun _ _ _ => rfl) (fun h => h) rfl)⟩ x) rfl rfl (Nat.le_of_ble_eq_true rfl) (by omega) (by omega) (fun wA4 hA4 E wB4 hx => ?_) (fun wA4 hA4 v wB4 hx => ?_)
  · obtain ⟨h1, u2, hu, hI2⟩ := hx
    obtain rfl := List.mem_singleton.mp (zriE h1)
    refine ⟨"java/lang/IndexOutOfBoundsException", [], [], (0, 9, 12, 19), rfl, (fun z hz => nomatch hz), by decide, by decide, lx_Lw_19, ce_19, fun qx => ?_⟩
    refine y_base (cs := []) (z_I.nil wB4) ?_
    refine y_astore_n (lv' := [(3, .ref qx), (0, .ref (ad 0)), (1, .int x), (2, .ref (ad 69))]) d_Lw_bar_12 rfl (by decide) rfl ?_
    refine y_iconst d_Lw_bar_13 (v := 1) (by decide) ?_
    refine y_iret d_Lw_bar_14 rfl rfl ?_
    exact fun w1 h1 => ⟨⟨_, rfl⟩, u2, hu, (z_I.same (z_I.nil _) h1).symm ▸ hI2⟩
  · obtain ⟨h1, u2, hu, hI2⟩ := hx
    obtain ⟨v9, rfl⟩ := zriV h1
    refine yw_st (st2 := [.int v9, .int 0, .ref (ad 69)]) rfl ?_
    obtain ⟨s9, hI⟩ := hI2
    obtain ⟨e_o1, wf_o1, k_o1⟩ := hI.1.2 69 (by decide)
    obtain rfl := kd_69.mp k_o1
    refine y_base (cs := [((ad 69), .inl (3, 1, .inr (.inl (((mg t s9).1 69).2.1))))]) (hI.1.I [69] _ rfl (by decide) (by decide) (List.forall_mem_cons.mpr ⟨wf_o1, (fun _ h => nomatch h)⟩)) ?_
    refine y_i2l d_Lw_bar_7 (v := v9.toInt64) rfl ?_
    refine y_last d_Lw_bar_8 (q0 := 0) rfl (fun q => q.elim (by decide) (by decide)) (f' := vp_updL (((mg t s9).1 69).2.1) 0 v9.toInt64) rfl (cs' := [((ad 69), .inl (3, 1, .inr (.inl (vp_updL (((mg t s9).1 69).2.1) 0 v9.toInt64))))]) rfl ?_
    refine y_goto (tgt := 15) d_Lw_bar_9 (by decide) ?_
    refine y_iconst d_Lw_bar_15 (v := 0) (by decide) ?_
    refine y_iret d_Lw_bar_16 rfl rfl ?_
    exact fun w1 h1 => ⟨⟨_, rfl⟩, u2, hu, IVm.tz ((hI.gen (t2 := (zup (mg t s9).1 [(69, (((mg t s9).1 69).1, vp_updL (((mg t s9).1 69).2.1) 0 v9.toInt64, ((mg t s9).1 69).2.2))], (mg t s9).2)) (is := [69]) (L2 := []) h1 rfl ⟨kd_69.mpr rfl, trivial⟩ (by decide) (by decide) (fun _ h => nomatch h) (fun _ h => nomatch h) (fun i hi hn => zup_out (fun q => hn ((by decide : ∀ j ∈ ([69] : List Nat), j ∈ ([69] : List Nat)) i q))) (fun h => h) rfl)) (tx_all rfl)⟩
abbrev M_Lw_weld : zM := (⟨"IronpourLaw", "weld", "(LIronpour;I[J)I"⟩, method_39_code, 4, (Option.some FieldType.int), 8, 144, [((0 : Nat), (16 : Nat), (19 : Nat), (19 : Nat)), ((0 : Nat), (16 : Nat), (22 : Nat), (78 : Nat)), ((0 : Nat), (16 : Nat), (25 : Nat), (69 : Nat))])
theorem d_Lw_weld_0 : decode method_39_code 0 = .ok (.aload_n 2, 1) := zo_44 (zd_b zq_method_39_code_0 0 rfl rfl rfl)
theorem d_Lw_weld_1 : decode method_39_code 1 = .ok (.iconst 0, 1) := zo_3 (zd_b zq_method_39_code_0 1 rfl rfl rfl)
theorem d_Lw_weld_2 : decode method_39_code 2 = .ok (.aload_n 0, 1) := zo_42 (zd_b zq_method_39_code_0 2 rfl rfl rfl)
theorem d_Lw_weld_3 : decode method_39_code 3 = .ok (.iload_n 1, 1) := zo_27 (zd_b zq_method_39_code_0 3 rfl rfl rfl)
theorem d_Lw_weld_4 : decode method_39_code 4 = .ok (.invokevirtual 141, 3) := zo_182 (d := 0) (e := 141) (zd_b zq_method_39_code_0 4 rfl rfl rfl) (zd_b zq_method_39_code_0 5 rfl rfl rfl) (zd_b zq_method_39_code_0 6 rfl rfl rfl)
theorem ok_Lw_weld_Ip_weld : z_okH M_Lw_weld M_Ip_weld 1 := ⟨z_mj7 (i := 1) rfl (by decide +kernel), rfl, ⟨by decide +kernel, by decide +kernel, by decide +kernel⟩, ⟨by decide, by decide⟩, z_mj1 (i := 1) rfl (by decide +kernel)⟩
theorem ln_Lw_141 : Cond.methodLink "IronpourLaw" 141 M_Ip_weld.1 ∈ z_gw := z_mj6 (i := 238) rfl (by decide +kernel)
theorem w_im_Ip_weld : Cond.instanceMethod M_Ip_weld.1 ∈ z_gw := z_mj6 (i := 239) rfl (by decide +kernel)
theorem w_se_Ip_weld : Cond.selects M_Ip_weld.1.cls M_Ip_weld.1 M_Ip_weld.1 ∈ z_gw := z_mj7 (i := 0) rfl (by decide +kernel)
theorem d_Lw_weld_19 : decode method_39_code 19 = .ok (.astore_n 3, 1) := zo_78 (zd_b zq_method_39_code_0 19 rfl rfl rfl)
theorem d_Lw_weld_20 : decode method_39_code 20 = .ok (.iconst 1, 1) := zo_4 (zd_b zq_method_39_code_0 20 rfl rfl rfl)
theorem d_Lw_weld_21 : decode method_39_code 21 = .ok (.ireturn, 1) := zo_172 (zd_b zq_method_39_code_0 21 rfl rfl rfl)
theorem d_Lw_weld_22 : decode method_39_code 22 = .ok (.astore_n 3, 1) := zo_78 (zd_b zq_method_39_code_0 22 rfl rfl rfl)
theorem d_Lw_weld_23 : decode method_39_code 23 = .ok (.iconst 2, 1) := zo_5 (zd_b zq_method_39_code_0 23 rfl rfl rfl)
theorem d_Lw_weld_24 : decode method_39_code 24 = .ok (.ireturn, 1) := zo_172 (zd_b zq_method_39_code_0 24 rfl rfl rfl)
theorem d_Lw_weld_25 : decode method_39_code 25 = .ok (.astore_n 3, 1) := zo_78 (zd_b zq_method_39_code_0 25 rfl rfl rfl)
theorem d_Lw_weld_26 : decode method_39_code 26 = .ok (.iconst 3, 1) := zo_6 (zd_b zq_method_39_code_0 26 rfl rfl rfl)
theorem d_Lw_weld_27 : decode method_39_code 27 = .ok (.ireturn, 1) := zo_172 (zd_b zq_method_39_code_0 27 rfl rfl rfl)
theorem d_Lw_weld_7 : decode method_39_code 7 = .ok (.ifCond .eq 7, 3) := zo_153 (d := 0) (e := 7) (zd_b zq_method_39_code_0 7 rfl rfl rfl) (zd_b zq_method_39_code_0 8 rfl rfl rfl) (zd_b zq_method_39_code_0 9 rfl rfl rfl) (by decide +kernel)
theorem d_Lw_weld_14 : decode method_39_code 14 = .ok (.lconst 0, 1) := zo_9 (zd_b zq_method_39_code_0 14 rfl rfl rfl)
theorem d_Lw_weld_15 : decode method_39_code 15 = .ok (.lastore, 1) := zo_80 (zd_b zq_method_39_code_0 15 rfl rfl rfl)
theorem d_Lw_weld_16 : decode method_39_code 16 = .ok (.goto 12, 3) := zo_167 (d := 0) (e := 12) (zd_b zq_method_39_code_0 16 rfl rfl rfl) (zd_b zq_method_39_code_0 17 rfl rfl rfl) (zd_b zq_method_39_code_0 18 rfl rfl rfl) (by decide +kernel)
theorem d_Lw_weld_28 : decode method_39_code 28 = .ok (.iconst 0, 1) := zo_3 (zd_b zq_method_39_code_0 28 rfl rfl rfl)
theorem d_Lw_weld_29 : decode method_39_code 29 = .ok (.ireturn, 1) := zo_172 (zd_b zq_method_39_code_0 29 rfl rfl rfl)
theorem d_Lw_weld_10 : decode method_39_code 10 = .ok (.lconst 1, 1) := zo_10 (zd_b zq_method_39_code_0 10 rfl rfl rfl)
theorem d_Lw_weld_11 : decode method_39_code 11 = .ok (.goto 4, 3) := zo_167 (d := 0) (e := 4) (zd_b zq_method_39_code_0 11 rfl rfl rfl) (zd_b zq_method_39_code_0 12 rfl rfl rfl) (zd_b zq_method_39_code_0 13 rfl rfl rfl) (by decide +kernel)
set_option maxHeartbeats 4000000 in
set_option maxRecDepth 100000 in
theorem W_weld {g : zG} {ad : Nat → Nat} {t : zTT} {u : zNN} {w : zW} (hI : IVm g ad t u w) (x : Int32) : zMB g M_Lw_weld [.ref (ad 0), .int x, .ref (ad 69)] w (fun o w1 => MKx g ad (tK_Ip_weld x t u.1) u.1 o w1) 10 300 := by
  obtain ⟨s, hI⟩ := hI
  obtain ⟨e_a, wf_a, k_a⟩ := hI.1.2 0 (by decide)
  obtain rfl := kd_0.mp k_a
  obtain ⟨e_o1, wf_o1, k_o1⟩ := hI.1.2 69 (by decide)
  obtain rfl := kd_69.mp k_o1
  refine y_ofH (by decide) (by decide) (Nat.le_of_ble_eq_true rfl) (y_base (cs := [((ad 0), .inr (11, [.ref (ad 1), .ref (ad 5), .ref (ad 18), .ref (ad 31), .ref (ad 32), .ref (ad 36), .ref (ad 42), .ref (ad 45), .ref (ad 47), .ref (ad 49), .ref (ad 50), .ref (ad 51)])), ((ad 69), .inl (3, 1, .inr (.inl (((mg t s).1 69).2.1))))]) (hI.1.I [0, 69] _ rfl (by decide) (by decide) (List.forall_mem_cons.mpr ⟨wf_a, (List.forall_mem_cons.mpr ⟨wf_o1, (fun _ h => nomatch h)⟩)⟩)) ?_)
  refine y_lvE (lv2 := [(0, .ref (ad 0)), (1, .int x), (2, .ref (ad 69))]) rfl ?_
  refine y_aload_n d_Lw_weld_0 rfl 2 rfl ?_
  refine y_iconst d_Lw_weld_1 (v := 0) (by decide) ?_
  refine y_aload_n d_Lw_weld_2 rfl 0 rfl ?_
  refine y_iload_n d_Lw_weld_3 rfl 1 rfl ?_
  refine yw_callVH (As := [.int x]) (rest := [.int 0, .ref (ad 69)]) (q0 := 0) rfl rfl ln_Lw_141 w_im_Ip_weld w_se_Ip_weld ok_Lw_weld_Ip_weld d_Lw_weld_4 (fun wA hA => K_Ip_weld ⟨_, (hI.gen (t2 := (mg t s)) (is := [0, 69]) (L2 := []) hA rfl ⟨kd_0.mpr rfl, kd_69.mpr rfl, trivial⟩ (by decide) (by decide) (fun _ h => nomatch h) (fun _ h => nomatch h) (fun _ _ _ => rfl) (fun h => h) rfl)⟩ x) rfl rfl (Nat.le_of_ble_eq_true rfl) (by omega) (by omega) (fun wA4 hA4 E wB4 hx => ?_) (fun wA4 hA4 v wB4 hx => ?_)
  · obtain ⟨h1, u2, hu, hI2⟩ := hx
    rcases List.mem_cons.mp (zriE h1) with rfl | g3
    · refine ⟨"java/lang/IndexOutOfBoundsException", [], [(0, 16, 22, 78), (0, 16, 25, 69)], (0, 16, 19, 19), rfl, (fun z hz => nomatch hz), by decide, by decide, lx_Lw_19, ce_19, fun qx => ?_⟩
      refine y_base (cs := []) (z_I.nil wB4) ?_
      refine y_astore_n (lv' := [(3, .ref qx), (0, .ref (ad 0)), (1, .int x), (2, .ref (ad 69))]) d_Lw_weld_19 rfl (by decide) rfl ?_
      refine y_iconst d_Lw_weld_20 (v := 1) (by decide) ?_
      refine y_iret d_Lw_weld_21 rfl rfl ?_
      exact fun w1 h1 => ⟨⟨_, rfl⟩, u2, hu, (z_I.same (z_I.nil _) h1).symm ▸ hI2⟩
    · rcases List.mem_cons.mp g3 with rfl | g2
      · refine ⟨"java/lang/UnsupportedOperationException", [(0, 16, 19, 19)], [(0, 16, 25, 69)], (0, 16, 22, 78), rfl, (fun z hz => by simp only [List.mem_cons, List.not_mem_nil, or_false] at hz; rcases hz with rfl; exact Or.inr ⟨by decide, _, lx_Lw_19, by decide⟩), by decide, by decide, lx_Lw_78, ce_78, fun qx => ?_⟩
        refine y_base (cs := []) (z_I.nil wB4) ?_
        refine y_astore_n (lv' := [(3, .ref qx), (0, .ref (ad 0)), (1, .int x), (2, .ref (ad 69))]) d_Lw_weld_22 rfl (by decide) rfl ?_
        refine y_iconst d_Lw_weld_23 (v := 2) (by decide) ?_
        refine y_iret d_Lw_weld_24 rfl rfl ?_
        exact fun w1 h1 => ⟨⟨_, rfl⟩, u2, hu, (z_I.same (z_I.nil _) h1).symm ▸ hI2⟩
      · obtain rfl := List.mem_singleton.mp g2
        refine ⟨"java/lang/IllegalStateException", [(0, 16, 19, 19), (0, 16, 22, 78)], [], (0, 16, 25, 69), rfl, (fun z hz => by simp only [List.mem_cons, List.not_mem_nil, or_false] at hz; rcases hz with rfl | rfl <;> first | exact Or.inr ⟨by decide, _, lx_Lw_19, by decide⟩ | exact Or.inr ⟨by decide, _, lx_Lw_78, by decide⟩), by decide, by decide, lx_Lw_69, ce_69, fun qx => ?_⟩
        refine y_base (cs := []) (z_I.nil wB4) ?_
        refine y_astore_n (lv' := [(3, .ref qx), (0, .ref (ad 0)), (1, .int x), (2, .ref (ad 69))]) d_Lw_weld_25 rfl (by decide) rfl ?_
        refine y_iconst d_Lw_weld_26 (v := 3) (by decide) ?_
        refine y_iret d_Lw_weld_27 rfl rfl ?_
        exact fun w1 h1 => ⟨⟨_, rfl⟩, u2, hu, (z_I.same (z_I.nil _) h1).symm ▸ hI2⟩
  · obtain ⟨h1, u2, hu, hI2⟩ := hx
    obtain ⟨v9, rfl⟩ := zriV h1
    refine yw_st (st2 := [.int v9, .int 0, .ref (ad 69)]) rfl ?_
    obtain ⟨s9, hI⟩ := hI2
    obtain ⟨e_o1, wf_o1, k_o1⟩ := hI.1.2 69 (by decide)
    obtain rfl := kd_69.mp k_o1
    refine y_base (cs := [((ad 69), .inl (3, 1, .inr (.inl (((mg (tK_Ip_weld x t u.1) s9).1 69).2.1))))]) (hI.1.I [69] _ rfl (by decide) (by decide) (List.forall_mem_cons.mpr ⟨wf_o1, (fun _ h => nomatch h)⟩)) ?_
    refine y_if_eq (tgt := 14) d_Lw_weld_7 (by decide) (fun c_7 => ?_) (fun c_7 => ?_)
    · refine y_lconst d_Lw_weld_14 (v := 0) (by decide) ?_
      refine y_last d_Lw_weld_15 (q0 := 0) rfl (fun q => q.elim (by decide) (by decide)) (f' := vp_updL (((mg (tK_Ip_weld x t u.1) s9).1 69).2.1) 0 0) rfl (cs' := [((ad 69), .inl (3, 1, .inr (.inl (vp_updL (((mg (tK_Ip_weld x t u.1) s9).1 69).2.1) 0 0))))]) rfl ?_
      refine y_goto (tgt := 28) d_Lw_weld_16 (by decide) ?_
      refine y_iconst d_Lw_weld_28 (v := 0) (by decide) ?_
      refine y_iret d_Lw_weld_29 rfl rfl ?_
      exact fun w1 h1 => ⟨⟨_, rfl⟩, u2, hu, IVm.tz ((hI.gen (t2 := (zup (mg (tK_Ip_weld x t u.1) s9).1 [(69, (((mg (tK_Ip_weld x t u.1) s9).1 69).1, vp_updL (((mg (tK_Ip_weld x t u.1) s9).1 69).2.1) 0 0, ((mg (tK_Ip_weld x t u.1) s9).1 69).2.2))], (mg (tK_Ip_weld x t u.1) s9).2)) (is := [69]) (L2 := []) h1 rfl ⟨kd_69.mpr rfl, trivial⟩ (by decide) (by decide) (fun _ h => nomatch h) (fun _ h => nomatch h) (fun i hi hn => zup_out (fun q => hn ((by decide : ∀ j ∈ ([69] : List Nat), j ∈ ([69] : List Nat)) i q))) (fun h => h) rfl)) (tx_all rfl)⟩
    · refine y_lconst d_Lw_weld_10 (v := 1) (by decide) ?_
      refine y_goto (tgt := 15) d_Lw_weld_11 (by decide) ?_
      refine y_last d_Lw_weld_15 (q0 := 0) rfl (fun q => q.elim (by decide) (by decide)) (f' := vp_updL (((mg (tK_Ip_weld x t u.1) s9).1 69).2.1) 0 1) rfl (cs' := [((ad 69), .inl (3, 1, .inr (.inl (vp_updL (((mg (tK_Ip_weld x t u.1) s9).1 69).2.1) 0 1))))]) rfl ?_
      refine y_goto (tgt := 28) d_Lw_weld_16 (by decide) ?_
      refine y_iconst d_Lw_weld_28 (v := 0) (by decide) ?_
      refine y_iret d_Lw_weld_29 rfl rfl ?_
      exact fun w1 h1 => ⟨⟨_, rfl⟩, u2, hu, IVm.tz ((hI.gen (t2 := (zup (mg (tK_Ip_weld x t u.1) s9).1 [(69, (((mg (tK_Ip_weld x t u.1) s9).1 69).1, vp_updL (((mg (tK_Ip_weld x t u.1) s9).1 69).2.1) 0 1, ((mg (tK_Ip_weld x t u.1) s9).1 69).2.2))], (mg (tK_Ip_weld x t u.1) s9).2)) (is := [69]) (L2 := []) h1 rfl ⟨kd_69.mpr rfl, trivial⟩ (by decide) (by decide) (fun _ h => nomatch h) (fun _ h => nomatch h) (fun i hi hn => zup_out (fun q => hn ((by decide : ∀ j ∈ ([69] : List Nat), j ∈ ([69] : List Nat)) i q))) (fun h => h) rfl)) (tx_all rfl)⟩
abbrev M_Lw_deliver : zM := (⟨"IronpourLaw", "deliver", "(LIronpour;I[J)I"⟩, method_40_code, 4, (Option.some FieldType.int), 8, 143, [((0 : Nat), (16 : Nat), (19 : Nat), (19 : Nat)), ((0 : Nat), (16 : Nat), (22 : Nat), (69 : Nat))])
theorem d_Lw_deliver_0 : decode method_40_code 0 = .ok (.aload_n 2, 1) := zo_44 (zd_b zq_method_40_code_0 0 rfl rfl rfl)
theorem d_Lw_deliver_1 : decode method_40_code 1 = .ok (.iconst 0, 1) := zo_3 (zd_b zq_method_40_code_0 1 rfl rfl rfl)
theorem d_Lw_deliver_2 : decode method_40_code 2 = .ok (.aload_n 0, 1) := zo_42 (zd_b zq_method_40_code_0 2 rfl rfl rfl)
theorem d_Lw_deliver_3 : decode method_40_code 3 = .ok (.iload_n 1, 1) := zo_27 (zd_b zq_method_40_code_0 3 rfl rfl rfl)
theorem d_Lw_deliver_4 : decode method_40_code 4 = .ok (.invokevirtual 145, 3) := zo_182 (d := 0) (e := 145) (zd_b zq_method_40_code_0 4 rfl rfl rfl) (zd_b zq_method_40_code_0 5 rfl rfl rfl) (zd_b zq_method_40_code_0 6 rfl rfl rfl)
theorem ok_Lw_deliver_Ip_deliver : z_okH M_Lw_deliver M_Ip_deliver 1 := ⟨z_mj7 (i := 17) rfl (by decide +kernel), rfl, ⟨by decide +kernel, by decide +kernel, by decide +kernel⟩, ⟨by decide, by decide⟩, z_mj1 (i := 1) rfl (by decide +kernel)⟩
theorem ln_Lw_145 : Cond.methodLink "IronpourLaw" 145 M_Ip_deliver.1 ∈ z_gw := z_mj7 (i := 14) rfl (by decide +kernel)
theorem w_im_Ip_deliver : Cond.instanceMethod M_Ip_deliver.1 ∈ z_gw := z_mj7 (i := 15) rfl (by decide +kernel)
theorem w_se_Ip_deliver : Cond.selects M_Ip_deliver.1.cls M_Ip_deliver.1 M_Ip_deliver.1 ∈ z_gw := z_mj7 (i := 16) rfl (by decide +kernel)
theorem d_Lw_deliver_19 : decode method_40_code 19 = .ok (.astore_n 3, 1) := zo_78 (zd_b zq_method_40_code_0 19 rfl rfl rfl)
theorem d_Lw_deliver_20 : decode method_40_code 20 = .ok (.iconst 1, 1) := zo_4 (zd_b zq_method_40_code_0 20 rfl rfl rfl)
theorem d_Lw_deliver_21 : decode method_40_code 21 = .ok (.ireturn, 1) := zo_172 (zd_b zq_method_40_code_0 21 rfl rfl rfl)
theorem d_Lw_deliver_22 : decode method_40_code 22 = .ok (.astore_n 3, 1) := zo_78 (zd_b zq_method_40_code_0 22 rfl rfl rfl)
theorem d_Lw_deliver_23 : decode method_40_code 23 = .ok (.iconst 2, 1) := zo_5 (zd_b zq_method_40_code_0 23 rfl rfl rfl)
theorem d_Lw_deliver_24 : decode method_40_code 24 = .ok (.ireturn, 1) := zo_172 (zd_b zq_method_40_code_0 24 rfl rfl rfl)
theorem d_Lw_deliver_7 : decode method_40_code 7 = .ok (.ifCond .eq 7, 3) := zo_153 (d := 0) (e := 7) (zd_b zq_method_40_code_0 7 rfl rfl rfl) (zd_b zq_method_40_code_0 8 rfl rfl rfl) (zd_b zq_method_40_code_0 9 rfl rfl rfl) (by decide +kernel)
theorem d_Lw_deliver_14 : decode method_40_code 14 = .ok (.lconst 0, 1) := zo_9 (zd_b zq_method_40_code_0 14 rfl rfl rfl)
theorem d_Lw_deliver_15 : decode method_40_code 15 = .ok (.lastore, 1) := zo_80 (zd_b zq_method_40_code_0 15 rfl rfl rfl)
theorem d_Lw_deliver_16 : decode method_40_code 16 = .ok (.goto 9, 3) := zo_167 (d := 0) (e := 9) (zd_b zq_method_40_code_0 16 rfl rfl rfl) (zd_b zq_method_40_code_0 17 rfl rfl rfl) (zd_b zq_method_40_code_0 18 rfl rfl rfl) (by decide +kernel)
theorem d_Lw_deliver_25 : decode method_40_code 25 = .ok (.iconst 0, 1) := zo_3 (zd_b zq_method_40_code_0 25 rfl rfl rfl)
theorem d_Lw_deliver_26 : decode method_40_code 26 = .ok (.ireturn, 1) := zo_172 (zd_b zq_method_40_code_0 26 rfl rfl rfl)
theorem d_Lw_deliver_10 : decode method_40_code 10 = .ok (.lconst 1, 1) := zo_10 (zd_b zq_method_40_code_0 10 rfl rfl rfl)
theorem d_Lw_deliver_11 : decode method_40_code 11 = .ok (.goto 4, 3) := zo_167 (d := 0) (e := 4) (zd_b zq_method_40_code_0 11 rfl rfl rfl) (zd_b zq_method_40_code_0 12 rfl rfl rfl) (zd_b zq_method_40_code_0 13 rfl rfl rfl) (by decide +kernel)
set_option maxHeartbeats 4000000 in
set_option maxRecDepth 100000 in
theorem W_deliver {g : zG} {ad : Nat → Nat} {t : zTT} {u : zNN} {w : zW} (hI : IVm g ad t u w) (x : Int32) : zMB g M_Lw_deliver [.ref (ad 0), .int x, .ref (ad 69)] w (fun o w1 => MKx g ad (tK_Ip_deliver x t u.1) u.1 o w1) 10 300 := by
  obtain ⟨s, hI⟩ := hI
  obtain ⟨e_a, wf_a, k_a⟩ := hI.1.2 0 (by decide)
  obtain rfl := kd_0.mp k_a
  obtain ⟨e_o1, wf_o1, k_o1⟩ := hI.1.2 69 (by decide)
  obtain rfl := kd_69.mp k_o1
  refine y_ofH (by decide) (by decide) (Nat.le_of_ble_eq_true rfl) (y_base (cs := [((ad 0), .inr (11, [.ref (ad 1), .ref (ad 5), .ref (ad 18), .ref (ad 31), .ref (ad 32), .ref (ad 36), .ref (ad 42), .ref (ad 45), .ref (ad 47), .ref (ad 49), .ref (ad 50), .ref (ad 51)])), ((ad 69), .inl (3, 1, .inr (.inl (((mg t s).1 69).2.1))))]) (hI.1.I [0, 69] _ rfl (by decide) (by decide) (List.forall_mem_cons.mpr ⟨wf_a, (List.forall_mem_cons.mpr ⟨wf_o1, (fun _ h => nomatch h)⟩)⟩)) ?_)
  refine y_lvE (lv2 := [(0, .ref (ad 0)), (1, .int x), (2, .ref (ad 69))]) rfl ?_
  refine y_aload_n d_Lw_deliver_0 rfl 2 rfl ?_
  refine y_iconst d_Lw_deliver_1 (v := 0) (by decide) ?_
  refine y_aload_n d_Lw_deliver_2 rfl 0 rfl ?_
  refine y_iload_n d_Lw_deliver_3 rfl 1 rfl ?_
  refine yw_callVH (As := [.int x]) (rest := [.int 0, .ref (ad 69)]) (q0 := 0) rfl rfl ln_Lw_145 w_im_Ip_deliver w_se_Ip_deliver ok_Lw_deliver_Ip_deliver d_Lw_deliver_4 (fun wA hA => K_Ip_deliver ⟨_, (hI.gen (t2 := (mg t s)) (is := [0, 69]) (L2 := []) hA rfl ⟨kd_0.mpr rfl, kd_69.mpr rfl, trivial⟩ (by decide) (by decide) (fun _ h => nomatch h) (fun _ h => nomatch h) (fun _ _ _ => rfl) (fun h => h) rfl)⟩ x) rfl rfl (Nat.le_of_ble_eq_true rfl) (by omega) (by omega) (fun wA4 hA4 E wB4 hx => ?_) (fun wA4 hA4 v wB4 hx => ?_)
  · obtain ⟨h1, u2, hu, hI2⟩ := hx
    rcases List.mem_cons.mp (zriE h1) with rfl | g2
    · refine ⟨"java/lang/IndexOutOfBoundsException", [], [(0, 16, 22, 69)], (0, 16, 19, 19), rfl, (fun z hz => nomatch hz), by decide, by decide, lx_Lw_19, ce_19, fun qx => ?_⟩
      refine y_base (cs := []) (z_I.nil wB4) ?_
      refine y_astore_n (lv' := [(3, .ref qx), (0, .ref (ad 0)), (1, .int x), (2, .ref (ad 69))]) d_Lw_deliver_19 rfl (by decide) rfl ?_
      refine y_iconst d_Lw_deliver_20 (v := 1) (by decide) ?_
      refine y_iret d_Lw_deliver_21 rfl rfl ?_
      exact fun w1 h1 => ⟨⟨_, rfl⟩, u2, hu, (z_I.same (z_I.nil _) h1).symm ▸ hI2⟩
    · obtain rfl := List.mem_singleton.mp g2
      refine ⟨"java/lang/IllegalStateException", [(0, 16, 19, 19)], [], (0, 16, 22, 69), rfl, (fun z hz => by simp only [List.mem_cons, List.not_mem_nil, or_false] at hz; rcases hz with rfl; exact Or.inr ⟨by decide, _, lx_Lw_19, by decide⟩), by decide, by decide, lx_Lw_69, ce_69, fun qx => ?_⟩
      refine y_base (cs := []) (z_I.nil wB4) ?_
      refine y_astore_n (lv' := [(3, .ref qx), (0, .ref (ad 0)), (1, .int x), (2, .ref (ad 69))]) d_Lw_deliver_22 rfl (by decide) rfl ?_
      refine y_iconst d_Lw_deliver_23 (v := 2) (by decide) ?_
      refine y_iret d_Lw_deliver_24 rfl rfl ?_
      exact fun w1 h1 => ⟨⟨_, rfl⟩, u2, hu, (z_I.same (z_I.nil _) h1).symm ▸ hI2⟩
  · obtain ⟨h1, u2, hu, hI2⟩ := hx
    obtain ⟨v9, rfl⟩ := zriV h1
    refine yw_st (st2 := [.int v9, .int 0, .ref (ad 69)]) rfl ?_
    obtain ⟨s9, hI⟩ := hI2
    obtain ⟨e_o1, wf_o1, k_o1⟩ := hI.1.2 69 (by decide)
    obtain rfl := kd_69.mp k_o1
    refine y_base (cs := [((ad 69), .inl (3, 1, .inr (.inl (((mg (tK_Ip_deliver x t u.1) s9).1 69).2.1))))]) (hI.1.I [69] _ rfl (by decide) (by decide) (List.forall_mem_cons.mpr ⟨wf_o1, (fun _ h => nomatch h)⟩)) ?_
    refine y_if_eq (tgt := 14) d_Lw_deliver_7 (by decide) (fun c_7 => ?_) (fun c_7 => ?_)
    · refine y_lconst d_Lw_deliver_14 (v := 0) (by decide) ?_
      refine y_last d_Lw_deliver_15 (q0 := 0) rfl (fun q => q.elim (by decide) (by decide)) (f' := vp_updL (((mg (tK_Ip_deliver x t u.1) s9).1 69).2.1) 0 0) rfl (cs' := [((ad 69), .inl (3, 1, .inr (.inl (vp_updL (((mg (tK_Ip_deliver x t u.1) s9).1 69).2.1) 0 0))))]) rfl ?_
      refine y_goto (tgt := 25) d_Lw_deliver_16 (by decide) ?_
      refine y_iconst d_Lw_deliver_25 (v := 0) (by decide) ?_
      refine y_iret d_Lw_deliver_26 rfl rfl ?_
      exact fun w1 h1 => ⟨⟨_, rfl⟩, u2, hu, IVm.tz ((hI.gen (t2 := (zup (mg (tK_Ip_deliver x t u.1) s9).1 [(69, (((mg (tK_Ip_deliver x t u.1) s9).1 69).1, vp_updL (((mg (tK_Ip_deliver x t u.1) s9).1 69).2.1) 0 0, ((mg (tK_Ip_deliver x t u.1) s9).1 69).2.2))], (mg (tK_Ip_deliver x t u.1) s9).2)) (is := [69]) (L2 := []) h1 rfl ⟨kd_69.mpr rfl, trivial⟩ (by decide) (by decide) (fun _ h => nomatch h) (fun _ h => nomatch h) (fun i hi hn => zup_out (fun q => hn ((by decide : ∀ j ∈ ([69] : List Nat), j ∈ ([69] : List Nat)) i q))) (fun h => h) rfl)) (tx_all rfl)⟩
    · refine y_lconst d_Lw_deliver_10 (v := 1) (by decide) ?_
      refine y_goto (tgt := 15) d_Lw_deliver_11 (by decide) ?_
      refine y_last d_Lw_deliver_15 (q0 := 0) rfl (fun q => q.elim (by decide) (by decide)) (f' := vp_updL (((mg (tK_Ip_deliver x t u.1) s9).1 69).2.1) 0 1) rfl (cs' := [((ad 69), .inl (3, 1, .inr (.inl (vp_updL (((mg (tK_Ip_deliver x t u.1) s9).1 69).2.1) 0 1))))]) rfl ?_
      refine y_goto (tgt := 25) d_Lw_deliver_16 (by decide) ?_
      refine y_iconst d_Lw_deliver_25 (v := 0) (by decide) ?_
      refine y_iret d_Lw_deliver_26 rfl rfl ?_
      exact fun w1 h1 => ⟨⟨_, rfl⟩, u2, hu, IVm.tz ((hI.gen (t2 := (zup (mg (tK_Ip_deliver x t u.1) s9).1 [(69, (((mg (tK_Ip_deliver x t u.1) s9).1 69).1, vp_updL (((mg (tK_Ip_deliver x t u.1) s9).1 69).2.1) 0 1, ((mg (tK_Ip_deliver x t u.1) s9).1 69).2.2))], (mg (tK_Ip_deliver x t u.1) s9).2)) (is := [69]) (L2 := []) h1 rfl ⟨kd_69.mpr rfl, trivial⟩ (by decide) (by decide) (fun _ h => nomatch h) (fun _ h => nomatch h) (fun i hi hn => zup_out (fun q => hn ((by decide : ∀ j ∈ ([69] : List Nat), j ∈ ([69] : List Nat)) i q))) (fun h => h) rfl)) (tx_all rfl)⟩
abbrev M_Lw_breakUp : zM := (⟨"IronpourLaw", "breakUp", "(LIronpour;I[J)I"⟩, method_41_code, 4, (Option.some FieldType.int), 8, 144, [((0 : Nat), (9 : Nat), (12 : Nat), (19 : Nat)), ((0 : Nat), (9 : Nat), (15 : Nat), (69 : Nat))])
theorem d_Lw_breakUp_0 : decode method_41_code 0 = .ok (.aload_n 2, 1) := zo_44 (zd_b zq_method_41_code_0 0 rfl rfl rfl)
theorem d_Lw_breakUp_1 : decode method_41_code 1 = .ok (.iconst 0, 1) := zo_3 (zd_b zq_method_41_code_0 1 rfl rfl rfl)
theorem d_Lw_breakUp_2 : decode method_41_code 2 = .ok (.aload_n 0, 1) := zo_42 (zd_b zq_method_41_code_0 2 rfl rfl rfl)
theorem d_Lw_breakUp_3 : decode method_41_code 3 = .ok (.iload_n 1, 1) := zo_27 (zd_b zq_method_41_code_0 3 rfl rfl rfl)
theorem d_Lw_breakUp_4 : decode method_41_code 4 = .ok (.invokevirtual 148, 3) := zo_182 (d := 0) (e := 148) (zd_b zq_method_41_code_0 4 rfl rfl rfl) (zd_b zq_method_41_code_0 5 rfl rfl rfl) (zd_b zq_method_41_code_0 6 rfl rfl rfl)
theorem ok_Lw_breakUp_Ip_breakUp : z_okH M_Lw_breakUp M_Ip_breakUp 1 := ⟨z_mj7 (i := 24) rfl (by decide +kernel), rfl, ⟨by decide +kernel, by decide +kernel, by decide +kernel⟩, ⟨by decide, by decide⟩, z_mj1 (i := 1) rfl (by decide +kernel)⟩
theorem ln_Lw_148 : Cond.methodLink "IronpourLaw" 148 M_Ip_breakUp.1 ∈ z_gw := z_mj7 (i := 21) rfl (by decide +kernel)
theorem w_im_Ip_breakUp : Cond.instanceMethod M_Ip_breakUp.1 ∈ z_gw := z_mj7 (i := 22) rfl (by decide +kernel)
theorem w_se_Ip_breakUp : Cond.selects M_Ip_breakUp.1.cls M_Ip_breakUp.1 M_Ip_breakUp.1 ∈ z_gw := z_mj7 (i := 23) rfl (by decide +kernel)
theorem d_Lw_breakUp_12 : decode method_41_code 12 = .ok (.astore_n 3, 1) := zo_78 (zd_b zq_method_41_code_0 12 rfl rfl rfl)
theorem d_Lw_breakUp_13 : decode method_41_code 13 = .ok (.iconst 1, 1) := zo_4 (zd_b zq_method_41_code_0 13 rfl rfl rfl)
theorem d_Lw_breakUp_14 : decode method_41_code 14 = .ok (.ireturn, 1) := zo_172 (zd_b zq_method_41_code_0 14 rfl rfl rfl)
theorem d_Lw_breakUp_15 : decode method_41_code 15 = .ok (.astore_n 3, 1) := zo_78 (zd_b zq_method_41_code_0 15 rfl rfl rfl)
theorem d_Lw_breakUp_16 : decode method_41_code 16 = .ok (.iconst 2, 1) := zo_5 (zd_b zq_method_41_code_0 16 rfl rfl rfl)
theorem d_Lw_breakUp_17 : decode method_41_code 17 = .ok (.ireturn, 1) := zo_172 (zd_b zq_method_41_code_0 17 rfl rfl rfl)
theorem d_Lw_breakUp_7 : decode method_41_code 7 = .ok (.i2l, 1) := zo_133 (zd_b zq_method_41_code_0 7 rfl rfl rfl)
theorem d_Lw_breakUp_8 : decode method_41_code 8 = .ok (.lastore, 1) := zo_80 (zd_b zq_method_41_code_0 8 rfl rfl rfl)
theorem d_Lw_breakUp_9 : decode method_41_code 9 = .ok (.goto 9, 3) := zo_167 (d := 0) (e := 9) (zd_b zq_method_41_code_0 9 rfl rfl rfl) (zd_b zq_method_41_code_0 10 rfl rfl rfl) (zd_b zq_method_41_code_0 11 rfl rfl rfl) (by decide +kernel)
theorem d_Lw_breakUp_18 : decode method_41_code 18 = .ok (.iconst 0, 1) := zo_3 (zd_b zq_method_41_code_0 18 rfl rfl rfl)
theorem d_Lw_breakUp_19 : decode method_41_code 19 = .ok (.ireturn, 1) := zo_172 (zd_b zq_method_41_code_0 19 rfl rfl rfl)
set_option maxHeartbeats 4000000 in
set_option maxRecDepth 100000 in
theorem W_breakUp {g : zG} {ad : Nat → Nat} {t : zTT} {u : zNN} {w : zW} (hI : IVm g ad t u w) (x : Int32) : zMB g M_Lw_breakUp [.ref (ad 0), .int x, .ref (ad 69)] w (fun o w1 => MKx g ad (tK_Ip_breakUp x t u.1) u.1 o w1) 10 300 := by
  obtain ⟨s, hI⟩ := hI
  obtain ⟨e_a, wf_a, k_a⟩ := hI.1.2 0 (by decide)
  obtain rfl := kd_0.mp k_a
  obtain ⟨e_o1, wf_o1, k_o1⟩ := hI.1.2 69 (by decide)
  obtain rfl := kd_69.mp k_o1
  refine y_ofH (by decide) (by decide) (Nat.le_of_ble_eq_true rfl) (y_base (cs := [((ad 0), .inr (11, [.ref (ad 1), .ref (ad 5), .ref (ad 18), .ref (ad 31), .ref (ad 32), .ref (ad 36), .ref (ad 42), .ref (ad 45), .ref (ad 47), .ref (ad 49), .ref (ad 50), .ref (ad 51)])), ((ad 69), .inl (3, 1, .inr (.inl (((mg t s).1 69).2.1))))]) (hI.1.I [0, 69] _ rfl (by decide) (by decide) (List.forall_mem_cons.mpr ⟨wf_a, (List.forall_mem_cons.mpr ⟨wf_o1, (fun _ h => nomatch h)⟩)⟩)) ?_)
  refine y_lvE (lv2 := [(0, .ref (ad 0)), (1, .int x), (2, .ref (ad 69))]) rfl ?_
  refine y_aload_n d_Lw_breakUp_0 rfl 2 rfl ?_
  refine y_iconst d_Lw_breakUp_1 (v := 0) (by decide) ?_
  refine y_aload_n d_Lw_breakUp_2 rfl 0 rfl ?_
  refine y_iload_n d_Lw_breakUp_3 rfl 1 rfl ?_
  refine yw_callVH (As := [.int x]) (rest := [.int 0, .ref (ad 69)]) (q0 := 0) rfl rfl ln_Lw_148 w_im_Ip_breakUp w_se_Ip_breakUp ok_Lw_breakUp_Ip_breakUp d_Lw_breakUp_4 (fun wA hA => K_Ip_breakUp ⟨_, (hI.gen (t2 := (mg t s)) (is := [0, 69]) (L2 := []) hA rfl ⟨kd_0.mpr rfl, kd_69.mpr rfl, trivial⟩ (by decide) (by decide) (fun _ h => nomatch h) (fun _ h => nomatch h) (fun _ _ _ => rfl) (fun h => h) rfl)⟩ x) rfl rfl (Nat.le_of_ble_eq_true rfl) (by omega) (by omega) (fun wA4 hA4 E wB4 hx => ?_) (fun wA4 hA4 v wB4 hx => ?_)
  · obtain ⟨h1, u2, hu, hI2⟩ := hx
    rcases List.mem_cons.mp (zriE h1) with rfl | g2
    · refine ⟨"java/lang/IndexOutOfBoundsException", [], [(0, 9, 15, 69)], (0, 9, 12, 19), rfl, (fun z hz => nomatch hz), by decide, by decide, lx_Lw_19, ce_19, fun qx => ?_⟩
      refine y_base (cs := []) (z_I.nil wB4) ?_
      refine y_astore_n (lv' := [(3, .ref qx), (0, .ref (ad 0)), (1, .int x), (2, .ref (ad 69))]) d_Lw_breakUp_12 rfl (by decide) rfl ?_
      refine y_iconst d_Lw_breakUp_13 (v := 1) (by decide) ?_
      refine y_iret d_Lw_breakUp_14 rfl rfl ?_
      exact fun w1 h1 => ⟨⟨_, rfl⟩, u2, hu, (z_I.same (z_I.nil _) h1).symm ▸ hI2⟩
    · obtain rfl := List.mem_singleton.mp g2
      refine ⟨"java/lang/IllegalStateException", [(0, 9, 12, 19)], [], (0, 9, 15, 69), rfl, (fun z hz => by simp only [List.mem_cons, List.not_mem_nil, or_false] at hz; rcases hz with rfl; exact Or.inr ⟨by decide, _, lx_Lw_19, by decide⟩), by decide, by decide, lx_Lw_69, ce_69, fun qx => ?_⟩
      refine y_base (cs := []) (z_I.nil wB4) ?_
      refine y_astore_n (lv' := [(3, .ref qx), (0, .ref (ad 0)), (1, .int x), (2, .ref (ad 69))]) d_Lw_breakUp_15 rfl (by decide) rfl ?_
      refine y_iconst d_Lw_breakUp_16 (v := 2) (by decide) ?_
      refine y_iret d_Lw_breakUp_17 rfl rfl ?_
      exact fun w1 h1 => ⟨⟨_, rfl⟩, u2, hu, (z_I.same (z_I.nil _) h1).symm ▸ hI2⟩
  · obtain ⟨h1, u2, hu, hI2⟩ := hx
    obtain ⟨v9, rfl⟩ := zriV h1
    refine yw_st (st2 := [.int v9, .int 0, .ref (ad 69)]) rfl ?_
    obtain ⟨s9, hI⟩ := hI2
    obtain ⟨e_o1, wf_o1, k_o1⟩ := hI.1.2 69 (by decide)
    obtain rfl := kd_69.mp k_o1
    refine y_base (cs := [((ad 69), .inl (3, 1, .inr (.inl (((mg (tK_Ip_breakUp x t u.1) s9).1 69).2.1))))]) (hI.1.I [69] _ rfl (by decide) (by decide) (List.forall_mem_cons.mpr ⟨wf_o1, (fun _ h => nomatch h)⟩)) ?_
    refine y_i2l d_Lw_breakUp_7 (v := v9.toInt64) rfl ?_
    refine y_last d_Lw_breakUp_8 (q0 := 0) rfl (fun q => q.elim (by decide) (by decide)) (f' := vp_updL (((mg (tK_Ip_breakUp x t u.1) s9).1 69).2.1) 0 v9.toInt64) rfl (cs' := [((ad 69), .inl (3, 1, .inr (.inl (vp_updL (((mg (tK_Ip_breakUp x t u.1) s9).1 69).2.1) 0 v9.toInt64))))]) rfl ?_
    refine y_goto (tgt := 18) d_Lw_breakUp_9 (by decide) ?_
    refine y_iconst d_Lw_breakUp_18 (v := 0) (by decide) ?_
    refine y_iret d_Lw_breakUp_19 rfl rfl ?_
    exact fun w1 h1 => ⟨⟨_, rfl⟩, u2, hu, IVm.tz ((hI.gen (t2 := (zup (mg (tK_Ip_breakUp x t u.1) s9).1 [(69, (((mg (tK_Ip_breakUp x t u.1) s9).1 69).1, vp_updL (((mg (tK_Ip_breakUp x t u.1) s9).1 69).2.1) 0 v9.toInt64, ((mg (tK_Ip_breakUp x t u.1) s9).1 69).2.2))], (mg (tK_Ip_breakUp x t u.1) s9).2)) (is := [69]) (L2 := []) h1 rfl ⟨kd_69.mpr rfl, trivial⟩ (by decide) (by decide) (fun _ h => nomatch h) (fun _ h => nomatch h) (fun i hi hn => zup_out (fun q => hn ((by decide : ∀ j ∈ ([69] : List Nat), j ∈ ([69] : List Nat)) i q))) (fun h => h) rfl)) (tx_all rfl)⟩
abbrev M_Lw_worst : zM := (⟨"IronpourLaw", "worst", "(LIronpour;[J)I"⟩, method_42_code, 3, (Option.some FieldType.int), 7, 132, [((0 : Nat), (8 : Nat), (11 : Nat), (33 : Nat))])
theorem d_Lw_worst_0 : decode method_42_code 0 = .ok (.aload_n 1, 1) := zo_43 (zd_b zq_method_42_code_0 0 rfl rfl rfl)
theorem d_Lw_worst_1 : decode method_42_code 1 = .ok (.iconst 0, 1) := zo_3 (zd_b zq_method_42_code_0 1 rfl rfl rfl)
theorem d_Lw_worst_2 : decode method_42_code 2 = .ok (.aload_n 0, 1) := zo_42 (zd_b zq_method_42_code_0 2 rfl rfl rfl)
theorem d_Lw_worst_3 : decode method_42_code 3 = .ok (.invokevirtual 151, 3) := zo_182 (d := 0) (e := 151) (zd_b zq_method_42_code_0 3 rfl rfl rfl) (zd_b zq_method_42_code_0 4 rfl rfl rfl) (zd_b zq_method_42_code_0 5 rfl rfl rfl)
theorem ok_Lw_worst_Ip_worst : z_okH M_Lw_worst M_Ip_worst 0 := ⟨z_mj7 (i := 35) rfl (by decide +kernel), rfl, ⟨by decide +kernel, by decide +kernel, by decide +kernel⟩, ⟨by decide, by decide⟩, z_mj1 (i := 1) rfl (by decide +kernel)⟩
theorem ln_Lw_151 : Cond.methodLink "IronpourLaw" 151 M_Ip_worst.1 ∈ z_gw := z_mj7 (i := 32) rfl (by decide +kernel)
theorem w_im_Ip_worst : Cond.instanceMethod M_Ip_worst.1 ∈ z_gw := z_mj7 (i := 33) rfl (by decide +kernel)
theorem w_se_Ip_worst : Cond.selects M_Ip_worst.1.cls M_Ip_worst.1 M_Ip_worst.1 ∈ z_gw := z_mj7 (i := 34) rfl (by decide +kernel)
theorem d_Lw_worst_11 : decode method_42_code 11 = .ok (.astore_n 2, 1) := zo_77 (zd_b zq_method_42_code_0 11 rfl rfl rfl)
theorem d_Lw_worst_12 : decode method_42_code 12 = .ok (.iconst 1, 1) := zo_4 (zd_b zq_method_42_code_0 12 rfl rfl rfl)
theorem d_Lw_worst_13 : decode method_42_code 13 = .ok (.ireturn, 1) := zo_172 (zd_b zq_method_42_code_0 13 rfl rfl rfl)
theorem d_Lw_worst_6 : decode method_42_code 6 = .ok (.i2l, 1) := zo_133 (zd_b zq_method_42_code_0 6 rfl rfl rfl)
theorem d_Lw_worst_7 : decode method_42_code 7 = .ok (.lastore, 1) := zo_80 (zd_b zq_method_42_code_0 7 rfl rfl rfl)
theorem d_Lw_worst_8 : decode method_42_code 8 = .ok (.goto 6, 3) := zo_167 (d := 0) (e := 6) (zd_b zq_method_42_code_0 8 rfl rfl rfl) (zd_b zq_method_42_code_0 9 rfl rfl rfl) (zd_b zq_method_42_code_0 10 rfl rfl rfl) (by decide +kernel)
theorem d_Lw_worst_14 : decode method_42_code 14 = .ok (.iconst 0, 1) := zo_3 (zd_b zq_method_42_code_0 14 rfl rfl rfl)
theorem d_Lw_worst_15 : decode method_42_code 15 = .ok (.ireturn, 1) := zo_172 (zd_b zq_method_42_code_0 15 rfl rfl rfl)
set_option maxHeartbeats 4000000 in
set_option maxRecDepth 100000 in
theorem W_worst {g : zG} {ad : Nat → Nat} {t : zTT} {u : zNN} {w : zW} (hI : IVm g ad t u w) : zMB g M_Lw_worst [.ref (ad 0), .ref (ad 69)] w (fun o w1 => MKx g ad t u.1 o w1) 10 300 := by
  obtain ⟨s, hI⟩ := hI
  obtain ⟨e_a, wf_a, k_a⟩ := hI.1.2 0 (by decide)
  obtain rfl := kd_0.mp k_a
  obtain ⟨e_o1, wf_o1, k_o1⟩ := hI.1.2 69 (by decide)
  obtain rfl := kd_69.mp k_o1
  refine y_ofH (by decide) (by decide) (Nat.le_of_ble_eq_true rfl) (y_base (cs := [((ad 0), .inr (11, [.ref (ad 1), .ref (ad 5), .ref (ad 18), .ref (ad 31), .ref (ad 32), .ref (ad 36), .ref (ad 42), .ref (ad 45), .ref (ad 47), .ref (ad 49), .ref (ad 50), .ref (ad 51)])), ((ad 69), .inl (3, 1, .inr (.inl (((mg t s).1 69).2.1))))]) (hI.1.I [0, 69] _ rfl (by decide) (by decide) (List.forall_mem_cons.mpr ⟨wf_a, (List.forall_mem_cons.mpr ⟨wf_o1, (fun _ h => nomatch h)⟩)⟩)) ?_)
  refine y_lvE (lv2 := [(0, .ref (ad 0)), (1, .ref (ad 69))]) rfl ?_
  refine y_aload_n d_Lw_worst_0 rfl 1 rfl ?_
  refine y_iconst d_Lw_worst_1 (v := 0) (by decide) ?_
  refine y_aload_n d_Lw_worst_2 rfl 0 rfl ?_
  refine yw_callVH (As := []) (rest := [.int 0, .ref (ad 69)]) (q0 := 0) rfl rfl ln_Lw_151 w_im_Ip_worst w_se_Ip_worst ok_Lw_worst_Ip_worst d_Lw_worst_3 (fun wA hA => K_Ip_worst ⟨_, (hI.gen (t2 := (mg t s)) (is := [0, 69]) (L2 := []) hA rfl ⟨kd_0.mpr rfl, kd_69.mpr rfl, trivial⟩ (by decide) (by decide) (fun _ h => nomatch h) (fun _ h => nomatch h) (fun _ _ _ => rfl) (fun h => h) rfl)⟩) rfl rfl (Nat.le_of_ble_eq_true rfl) (by omega) (by omega) (fun wA3 hA3 E wB3 hx => ?_) (fun wA3 hA3 v wB3 hx => ?_)
  · obtain ⟨h1, u2, hu, hI2⟩ := hx
    obtain rfl := List.mem_singleton.mp (zriE h1)
    refine ⟨"java/util/NoSuchElementException", [], [], (0, 8, 11, 33), rfl, (fun z hz => nomatch hz), by decide, by decide, lx_Lw_33, ce_33, fun qx => ?_⟩
    refine y_base (cs := []) (z_I.nil wB3) ?_
    refine y_astore_n (lv' := [(2, .ref qx), (0, .ref (ad 0)), (1, .ref (ad 69))]) d_Lw_worst_11 rfl (by decide) rfl ?_
    refine y_iconst d_Lw_worst_12 (v := 1) (by decide) ?_
    refine y_iret d_Lw_worst_13 rfl rfl ?_
    exact fun w1 h1 => ⟨⟨_, rfl⟩, u2, hu, (z_I.same (z_I.nil _) h1).symm ▸ hI2⟩
  · obtain ⟨h1, u2, hu, hI2⟩ := hx
    obtain ⟨v9, rfl⟩ := zriV h1
    refine yw_st (st2 := [.int v9, .int 0, .ref (ad 69)]) rfl ?_
    obtain ⟨s9, hI⟩ := hI2
    obtain ⟨e_o1, wf_o1, k_o1⟩ := hI.1.2 69 (by decide)
    obtain rfl := kd_69.mp k_o1
    refine y_base (cs := [((ad 69), .inl (3, 1, .inr (.inl (((mg t s9).1 69).2.1))))]) (hI.1.I [69] _ rfl (by decide) (by decide) (List.forall_mem_cons.mpr ⟨wf_o1, (fun _ h => nomatch h)⟩)) ?_
    refine y_i2l d_Lw_worst_6 (v := v9.toInt64) rfl ?_
    refine y_last d_Lw_worst_7 (q0 := 0) rfl (fun q => q.elim (by decide) (by decide)) (f' := vp_updL (((mg t s9).1 69).2.1) 0 v9.toInt64) rfl (cs' := [((ad 69), .inl (3, 1, .inr (.inl (vp_updL (((mg t s9).1 69).2.1) 0 v9.toInt64))))]) rfl ?_
    refine y_goto (tgt := 14) d_Lw_worst_8 (by decide) ?_
    refine y_iconst d_Lw_worst_14 (v := 0) (by decide) ?_
    refine y_iret d_Lw_worst_15 rfl rfl ?_
    exact fun w1 h1 => ⟨⟨_, rfl⟩, u2, hu, IVm.tz ((hI.gen (t2 := (zup (mg t s9).1 [(69, (((mg t s9).1 69).1, vp_updL (((mg t s9).1 69).2.1) 0 v9.toInt64, ((mg t s9).1 69).2.2))], (mg t s9).2)) (is := [69]) (L2 := []) h1 rfl ⟨kd_69.mpr rfl, trivial⟩ (by decide) (by decide) (fun _ h => nomatch h) (fun _ h => nomatch h) (fun i hi hn => zup_out (fun q => hn ((by decide : ∀ j ∈ ([69] : List Nat), j ∈ ([69] : List Nat)) i q))) (fun h => h) rfl)) (tx_all rfl)⟩
abbrev M_Lw_goodShare : zM := (⟨"IronpourLaw", "goodShare", "(LIronpour;[D)I"⟩, method_43_code, 3, (Option.some FieldType.int), 7, 131, [((0 : Nat), (8 : Nat), (11 : Nat), (159 : Nat))])
theorem d_Lw_goodShare_0 : decode method_43_code 0 = .ok (.aload_n 1, 1) := zo_43 (zd_b zq_method_43_code_0 0 rfl rfl rfl)
theorem d_Lw_goodShare_1 : decode method_43_code 1 = .ok (.iconst 0, 1) := zo_3 (zd_b zq_method_43_code_0 1 rfl rfl rfl)
theorem d_Lw_goodShare_2 : decode method_43_code 2 = .ok (.aload_n 0, 1) := zo_42 (zd_b zq_method_43_code_0 2 rfl rfl rfl)
theorem d_Lw_goodShare_3 : decode method_43_code 3 = .ok (.invokevirtual 155, 3) := zo_182 (d := 0) (e := 155) (zd_b zq_method_43_code_0 3 rfl rfl rfl) (zd_b zq_method_43_code_0 4 rfl rfl rfl) (zd_b zq_method_43_code_0 5 rfl rfl rfl)
theorem ok_Lw_goodShare_Ip_goodShare : z_okH M_Lw_goodShare M_Ip_goodShare 0 := ⟨z_mj7 (i := 62) rfl (by decide +kernel), rfl, ⟨by decide +kernel, by decide +kernel, by decide +kernel⟩, ⟨by decide, by decide⟩, z_mj1 (i := 1) rfl (by decide +kernel)⟩
theorem ln_Lw_155 : Cond.methodLink "IronpourLaw" 155 M_Ip_goodShare.1 ∈ z_gw := z_mj7 (i := 59) rfl (by decide +kernel)
theorem w_im_Ip_goodShare : Cond.instanceMethod M_Ip_goodShare.1 ∈ z_gw := z_mj7 (i := 60) rfl (by decide +kernel)
theorem w_se_Ip_goodShare : Cond.selects M_Ip_goodShare.1.cls M_Ip_goodShare.1 M_Ip_goodShare.1 ∈ z_gw := z_mj7 (i := 61) rfl (by decide +kernel)
theorem ce_159 : Cond.castable "java/lang/ArithmeticException" "java/lang/ArithmeticException" ∈ z_nw := z_mk7 (i := 57) rfl (by decide +kernel)
theorem lx_Lw_159 : Cond.classLink "IronpourLaw" 159 "java/lang/ArithmeticException" ∈ z_gw := z_mj7 (i := 45) rfl (by decide +kernel)
theorem d_Lw_goodShare_11 : decode method_43_code 11 = .ok (.astore_n 2, 1) := zo_77 (zd_b zq_method_43_code_0 11 rfl rfl rfl)
theorem d_Lw_goodShare_12 : decode method_43_code 12 = .ok (.iconst 1, 1) := zo_4 (zd_b zq_method_43_code_0 12 rfl rfl rfl)
theorem d_Lw_goodShare_13 : decode method_43_code 13 = .ok (.ireturn, 1) := zo_172 (zd_b zq_method_43_code_0 13 rfl rfl rfl)
theorem d_Lw_goodShare_6 : decode method_43_code 6 = .ok (.f2d, 1) := zo_141 (zd_b zq_method_43_code_0 6 rfl rfl rfl)
theorem d_Lw_goodShare_7 : decode method_43_code 7 = .ok (.dastore, 1) := zo_82 (zd_b zq_method_43_code_0 7 rfl rfl rfl)
theorem d_Lw_goodShare_8 : decode method_43_code 8 = .ok (.goto 6, 3) := zo_167 (d := 0) (e := 6) (zd_b zq_method_43_code_0 8 rfl rfl rfl) (zd_b zq_method_43_code_0 9 rfl rfl rfl) (zd_b zq_method_43_code_0 10 rfl rfl rfl) (by decide +kernel)
theorem d_Lw_goodShare_14 : decode method_43_code 14 = .ok (.iconst 0, 1) := zo_3 (zd_b zq_method_43_code_0 14 rfl rfl rfl)
theorem d_Lw_goodShare_15 : decode method_43_code 15 = .ok (.ireturn, 1) := zo_172 (zd_b zq_method_43_code_0 15 rfl rfl rfl)
set_option maxHeartbeats 4000000 in
set_option maxRecDepth 100000 in
theorem W_goodShare {g : zG} {ad : Nat → Nat} {t : zTT} {u : zNN} {w : zW} (hI : IVm g ad t u w) : zMB g M_Lw_goodShare [.ref (ad 0), .ref (ad 70)] w (fun o w1 => (∃ v : Int32, o = .inl (some (.int v))) ∧ IVm g ad t u w1) 10 300 := by
  obtain ⟨s, hI⟩ := hI
  obtain ⟨e_a, wf_a, k_a⟩ := hI.1.2 0 (by decide)
  obtain rfl := kd_0.mp k_a
  obtain ⟨e_o2, wf_o2, k_o2⟩ := hI.1.2 70 (by decide)
  obtain ⟨v_o2_f, rfl⟩ := kd_70.mp k_o2
  refine y_ofH (by decide) (by decide) (Nat.le_of_ble_eq_true rfl) (y_base (cs := [((ad 0), .inr (11, [.ref (ad 1), .ref (ad 5), .ref (ad 18), .ref (ad 31), .ref (ad 32), .ref (ad 36), .ref (ad 42), .ref (ad 45), .ref (ad 47), .ref (ad 49), .ref (ad 50), .ref (ad 51)])), ((ad 70), .inl (4, 1, .inr (.inr (.inr (.inl v_o2_f)))))]) (hI.1.I [0, 70] _ rfl (by decide) (by decide) (List.forall_mem_cons.mpr ⟨wf_a, (List.forall_mem_cons.mpr ⟨wf_o2, (fun _ h => nomatch h)⟩)⟩)) ?_)
  refine y_lvE (lv2 := [(0, .ref (ad 0)), (1, .ref (ad 70))]) rfl ?_
  refine y_aload_n d_Lw_goodShare_0 rfl 1 rfl ?_
  refine y_iconst d_Lw_goodShare_1 (v := 0) (by decide) ?_
  refine y_aload_n d_Lw_goodShare_2 rfl 0 rfl ?_
  refine yw_callVH (As := []) (rest := [.int 0, .ref (ad 70)]) (q0 := 0) rfl rfl ln_Lw_155 w_im_Ip_goodShare w_se_Ip_goodShare ok_Lw_goodShare_Ip_goodShare d_Lw_goodShare_3 (fun wA hA => Q_Ip_goodShare (hI.gen (t2 := (mg t s)) (is := [0, 70]) (L2 := []) hA rfl ⟨kd_0.mpr rfl, kd_70.mpr ⟨_, rfl⟩, trivial⟩ (by decide) (by decide) (fun _ h => nomatch h) (fun _ h => nomatch h) (fun _ _ _ => rfl) (fun h => h) rfl)) rfl rfl (Nat.le_of_ble_eq_true rfl) (by omega) (by omega) (fun wA3 hA3 E wB3 hx => ?_) (fun wA3 hA3 v wB3 hx => ?_)
  · obtain ⟨h1, hI2⟩ := hx
    obtain rfl : E = "java/lang/ArithmeticException" := by
      rcases h1 with ⟨v, e9, -⟩ | e9
      · cases e9
      · cases e9; rfl
    refine ⟨"java/lang/ArithmeticException", [], [], (0, 8, 11, 159), rfl, (fun z hz => nomatch hz), by decide, by decide, lx_Lw_159, ce_159, fun qx => ?_⟩
    refine y_base (cs := []) (z_I.nil wB3) ?_
    refine y_astore_n (lv' := [(2, .ref qx), (0, .ref (ad 0)), (1, .ref (ad 70))]) d_Lw_goodShare_11 rfl (by decide) rfl ?_
    refine y_iconst d_Lw_goodShare_12 (v := 1) (by decide) ?_
    refine y_iret d_Lw_goodShare_13 rfl rfl ?_
    exact fun w1 h1 => ⟨⟨_, rfl⟩, ⟨s, (z_I.same (z_I.nil _) h1).symm ▸ hI2⟩⟩
  · obtain ⟨h1, hI2⟩ := hx
    obtain ⟨v9, rfl, hn9⟩ : ∃ v9 : UInt32, v = some (.float v9) ∧ Jvm.FP.Core.fIsNaN v9 = false := by
      rcases h1 with ⟨v9, e9, h9⟩ | e9
      · cases e9; exact ⟨v9, rfl, h9⟩
      · cases e9
    refine yw_st (st2 := [.float v9, .int 0, .ref (ad 70)]) rfl ?_
    have hI := hI2
    obtain ⟨e_o2, wf_o2, k_o2⟩ := hI.1.2 70 (by decide)
    obtain ⟨v_o2_f, rfl⟩ := kd_70.mp k_o2
    refine y_base (cs := [((ad 70), .inl (4, 1, .inr (.inr (.inr (.inl v_o2_f)))))]) (hI.1.I [70] _ rfl (by decide) (by decide) (List.forall_mem_cons.mpr ⟨wf_o2, (fun _ h => nomatch h)⟩)) ?_
    refine y_f2d d_Lw_goodShare_6 (vf_f2d hn9) ?_
    refine y_dast d_Lw_goodShare_7 (q0 := 0) rfl (fun q => q.elim (by decide) (by decide)) (f' := vf_upd v_o2_f 0 (FP.f2d v9)) rfl (cs' := [((ad 70), .inl (4, 1, .inr (.inr (.inr (.inl (vf_upd v_o2_f 0 (FP.f2d v9)))))))]) rfl ?_
    refine y_goto (tgt := 14) d_Lw_goodShare_8 (by decide) ?_
    refine y_iconst d_Lw_goodShare_14 (v := 0) (by decide) ?_
    refine y_iret d_Lw_goodShare_15 rfl rfl ?_
    exact fun w1 h1 => ⟨⟨_, rfl⟩, ⟨_, (hI.gen (t2 := (mg t s)) (is := [70]) (L2 := []) h1 rfl ⟨kd_70.mpr ⟨_, rfl⟩, trivial⟩ (by decide) (by decide) (fun _ h => nomatch h) (fun _ h => nomatch h) (fun _ _ _ => rfl) (fun h => h) rfl)⟩⟩
abbrev M_Lw_meanBar : zM := (⟨"IronpourLaw", "meanBar", "(LIronpour;[D)I"⟩, method_44_code, 3, (Option.some FieldType.int), 7, 124, [((0 : Nat), (7 : Nat), (10 : Nat), (159 : Nat))])
theorem d_Lw_meanBar_0 : decode method_44_code 0 = .ok (.aload_n 1, 1) := zo_43 (zd_b zq_method_44_code_0 0 rfl rfl rfl)
theorem d_Lw_meanBar_1 : decode method_44_code 1 = .ok (.iconst 0, 1) := zo_3 (zd_b zq_method_44_code_0 1 rfl rfl rfl)
theorem d_Lw_meanBar_2 : decode method_44_code 2 = .ok (.aload_n 0, 1) := zo_42 (zd_b zq_method_44_code_0 2 rfl rfl rfl)
theorem d_Lw_meanBar_3 : decode method_44_code 3 = .ok (.invokevirtual 161, 3) := zo_182 (d := 0) (e := 161) (zd_b zq_method_44_code_0 3 rfl rfl rfl) (zd_b zq_method_44_code_0 4 rfl rfl rfl) (zd_b zq_method_44_code_0 5 rfl rfl rfl)
theorem ok_Lw_meanBar_Ip_meanBar : z_okH M_Lw_meanBar M_Ip_meanBar 0 := ⟨z_mj7 (i := 73) rfl (by decide +kernel), rfl, ⟨by decide +kernel, by decide +kernel, by decide +kernel⟩, ⟨by decide, by decide⟩, z_mj1 (i := 1) rfl (by decide +kernel)⟩
theorem ln_Lw_161 : Cond.methodLink "IronpourLaw" 161 M_Ip_meanBar.1 ∈ z_gw := z_mj7 (i := 70) rfl (by decide +kernel)
theorem w_im_Ip_meanBar : Cond.instanceMethod M_Ip_meanBar.1 ∈ z_gw := z_mj7 (i := 71) rfl (by decide +kernel)
theorem w_se_Ip_meanBar : Cond.selects M_Ip_meanBar.1.cls M_Ip_meanBar.1 M_Ip_meanBar.1 ∈ z_gw := z_mj7 (i := 72) rfl (by decide +kernel)
theorem d_Lw_meanBar_10 : decode method_44_code 10 = .ok (.astore_n 2, 1) := zo_77 (zd_b zq_method_44_code_0 10 rfl rfl rfl)
theorem d_Lw_meanBar_11 : decode method_44_code 11 = .ok (.iconst 1, 1) := zo_4 (zd_b zq_method_44_code_0 11 rfl rfl rfl)
theorem d_Lw_meanBar_12 : decode method_44_code 12 = .ok (.ireturn, 1) := zo_172 (zd_b zq_method_44_code_0 12 rfl rfl rfl)
theorem d_Lw_meanBar_6 : decode method_44_code 6 = .ok (.dastore, 1) := zo_82 (zd_b zq_method_44_code_0 6 rfl rfl rfl)
theorem d_Lw_meanBar_7 : decode method_44_code 7 = .ok (.goto 6, 3) := zo_167 (d := 0) (e := 6) (zd_b zq_method_44_code_0 7 rfl rfl rfl) (zd_b zq_method_44_code_0 8 rfl rfl rfl) (zd_b zq_method_44_code_0 9 rfl rfl rfl) (by decide +kernel)
theorem d_Lw_meanBar_13 : decode method_44_code 13 = .ok (.iconst 0, 1) := zo_3 (zd_b zq_method_44_code_0 13 rfl rfl rfl)
theorem d_Lw_meanBar_14 : decode method_44_code 14 = .ok (.ireturn, 1) := zo_172 (zd_b zq_method_44_code_0 14 rfl rfl rfl)
set_option maxHeartbeats 4000000 in
set_option maxRecDepth 100000 in
theorem W_meanBar {g : zG} {ad : Nat → Nat} {t : zTT} {u : zNN} {w : zW} (hI : IVm g ad t u w) : zMB g M_Lw_meanBar [.ref (ad 0), .ref (ad 70)] w (fun o w1 => (∃ v : Int32, o = .inl (some (.int v))) ∧ IVm g ad t u w1) 10 300 := by
  obtain ⟨s, hI⟩ := hI
  obtain ⟨e_a, wf_a, k_a⟩ := hI.1.2 0 (by decide)
  obtain rfl := kd_0.mp k_a
  obtain ⟨e_o2, wf_o2, k_o2⟩ := hI.1.2 70 (by decide)
  obtain ⟨v_o2_f, rfl⟩ := kd_70.mp k_o2
  refine y_ofH (by decide) (by decide) (Nat.le_of_ble_eq_true rfl) (y_base (cs := [((ad 0), .inr (11, [.ref (ad 1), .ref (ad 5), .ref (ad 18), .ref (ad 31), .ref (ad 32), .ref (ad 36), .ref (ad 42), .ref (ad 45), .ref (ad 47), .ref (ad 49), .ref (ad 50), .ref (ad 51)])), ((ad 70), .inl (4, 1, .inr (.inr (.inr (.inl v_o2_f)))))]) (hI.1.I [0, 70] _ rfl (by decide) (by decide) (List.forall_mem_cons.mpr ⟨wf_a, (List.forall_mem_cons.mpr ⟨wf_o2, (fun _ h => nomatch h)⟩)⟩)) ?_)
  refine y_lvE (lv2 := [(0, .ref (ad 0)), (1, .ref (ad 70))]) rfl ?_
  refine y_aload_n d_Lw_meanBar_0 rfl 1 rfl ?_
  refine y_iconst d_Lw_meanBar_1 (v := 0) (by decide) ?_
  refine y_aload_n d_Lw_meanBar_2 rfl 0 rfl ?_
  refine yw_callVH (As := []) (rest := [.int 0, .ref (ad 70)]) (q0 := 0) rfl rfl ln_Lw_161 w_im_Ip_meanBar w_se_Ip_meanBar ok_Lw_meanBar_Ip_meanBar d_Lw_meanBar_3 (fun wA hA => Q_Ip_meanBar (hI.gen (t2 := (mg t s)) (is := [0, 70]) (L2 := []) hA rfl ⟨kd_0.mpr rfl, kd_70.mpr ⟨_, rfl⟩, trivial⟩ (by decide) (by decide) (fun _ h => nomatch h) (fun _ h => nomatch h) (fun _ _ _ => rfl) (fun h => h) rfl)) rfl rfl (Nat.le_of_ble_eq_true rfl) (by omega) (by omega) (fun wA3 hA3 E wB3 hx => ?_) (fun wA3 hA3 v wB3 hx => ?_)
  · obtain ⟨h1, hI2⟩ := hx
    obtain rfl : E = "java/lang/ArithmeticException" := by
      rcases h1 with ⟨v, e9⟩ | e9
      · cases e9
      · cases e9; rfl
    refine ⟨"java/lang/ArithmeticException", [], [], (0, 7, 10, 159), rfl, (fun z hz => nomatch hz), by decide, by decide, lx_Lw_159, ce_159, fun qx => ?_⟩
    refine y_base (cs := []) (z_I.nil wB3) ?_
    refine y_astore_n (lv' := [(2, .ref qx), (0, .ref (ad 0)), (1, .ref (ad 70))]) d_Lw_meanBar_10 rfl (by decide) rfl ?_
    refine y_iconst d_Lw_meanBar_11 (v := 1) (by decide) ?_
    refine y_iret d_Lw_meanBar_12 rfl rfl ?_
    exact fun w1 h1 => ⟨⟨_, rfl⟩, ⟨s, (z_I.same (z_I.nil _) h1).symm ▸ hI2⟩⟩
  · obtain ⟨h1, hI2⟩ := hx
    obtain ⟨v9, rfl⟩ : ∃ v9 : UInt64, v = some (.double v9) := by
      rcases h1 with ⟨v9, e9⟩ | e9
      · cases e9; exact ⟨v9, rfl⟩
      · cases e9
    refine yw_st (st2 := [.double v9, .int 0, .ref (ad 70)]) rfl ?_
    have hI := hI2
    obtain ⟨e_o2, wf_o2, k_o2⟩ := hI.1.2 70 (by decide)
    obtain ⟨v_o2_f, rfl⟩ := kd_70.mp k_o2
    refine y_base (cs := [((ad 70), .inl (4, 1, .inr (.inr (.inr (.inl v_o2_f)))))]) (hI.1.I [70] _ rfl (by decide) (by decide) (List.forall_mem_cons.mpr ⟨wf_o2, (fun _ h => nomatch h)⟩)) ?_
    refine y_dast d_Lw_meanBar_6 (q0 := 0) rfl (fun q => q.elim (by decide) (by decide)) (f' := vf_upd v_o2_f 0 v9) rfl (cs' := [((ad 70), .inl (4, 1, .inr (.inr (.inr (.inl (vf_upd v_o2_f 0 v9))))))]) rfl ?_
    refine y_goto (tgt := 13) d_Lw_meanBar_7 (by decide) ?_
    refine y_iconst d_Lw_meanBar_13 (v := 0) (by decide) ?_
    refine y_iret d_Lw_meanBar_14 rfl rfl ?_
    exact fun w1 h1 => ⟨⟨_, rfl⟩, ⟨_, (hI.gen (t2 := (mg t s)) (is := [70]) (L2 := []) h1 rfl ⟨kd_70.mpr ⟨_, rfl⟩, trivial⟩ (by decide) (by decide) (fun _ h => nomatch h) (fun _ h => nomatch h) (fun _ _ _ => rfl) (fun h => h) rfl)⟩⟩
end
section
theorem TH.nil {ad : Nat → Nat} {c : Int32} {w w1 : zW} (h1 : z_I w w1 0 []) (hT : TH ad c w) : TH ad c w1 := (z_I.same (z_I.nil w) h1).symm ▸ hT
end
section
theorem y_pop2 {g : zG} {M : zM} {Ψ : zO → zW → Prop} {w0 : zW} {n pc : Nat} {lv : List (Nat × Value)} {st : List Value} {cs : zC} {kc ks : Nat} {v : Value} (hd : decode M.2.1 pc = .ok (.pop2, 1)) (hv : v.category = 2) (k : DU g M Ψ w0 n (pc + 1) lv st cs kc ks) : DU g M Ψ w0 n pc lv (v :: st) cs kc ks := fun w p l e R s m args below meth c A mc ms H locs cells slots ls ws I C T => lv_pop2_2 C.1.1 C.1.2.1 hd hv (k w p l e R s m args below meth c A mc ms H locs cells slots ls ws I C T)
def zs (g : zG) (k : Nat) : Int32 := Int32.ofNat (g.2.2 (100 + k))
def zc (g : zG) (k : Nat) : Int32 := ((zs g k).toUInt32 % 65536).toInt32
def lwQ : zO → zW → Prop := fun o _ => o = .inl (some (.int 1))
theorem z_shL {L : Nat} (h : L < 7) : nI L - 7 < (0 : Int32) := by
  have h9 : L = 0 ∨ L = 1 ∨ L = 2 ∨ L = 3 ∨ L = 4 ∨ L = 5 ∨ L = 6 := by omega
  rcases h9 with rfl | rfl | rfl | rfl | rfl | rfl | rfl <;> decide
theorem z_shl {L k : Nat} (h : ¬ k + 7 ≤ L) (hL : L < 2 ^ 31) (hk : k < 2 ^ 31) : nI L - 7 < nI k := by
  by_cases h7 : L < 7
  · exact Int32.lt_of_lt_of_le (z_shL h7) (Int32.not_lt.mp (nI_nneg hk))
  · rw [show nI L - 7 = nI (L - 7) from pk_sub (a := L) (b := 7) (by omega)]
    exact (nI_ltI (by omega) hk).mpr (by omega)
abbrev M_Lw_law : zM := (⟨"IronpourLaw", "law", "([I)Z"⟩, code, 9, (Option.some FieldType.boolean), 11, 274, [])
theorem d_Lw_law_1780 : decode code 1780 = .ok (.iinc 5 7, 3) := by decide +kernel
theorem d_Lw_law_1783 : decode code 1783 = .ok (.goto (-1755), 3) := zo_167 (d := 249) (e := 37) (zd_b zq_code_55 23 rfl rfl rfl) (zd_b zq_code_55 24 rfl rfl rfl) (zd_b zq_code_55 25 rfl rfl rfl) (by decide +kernel)
def LWI (g : zG) (ad : Nat → Nat) (j r : Nat) : Prop := ∀ (t : zTT) (u : zNN) (w : zW), IVm g ad t u w → REL t u.1 (48 * (j + 1)) → DW g M_Lw_law lwQ w 28 [(5, .int (nI (7 * (j + 1)))), (4, .ref (ad 70)), (3, .ref (ad 69)), (2, .ref (ad 52)), (1, .ref (ad 0)), (0, .ref (g.2.2 40))] [] (100 * r) (1000 * r)
set_option maxHeartbeats 4000000 in
set_option maxRecDepth 100000 in
theorem LC_next {g : zG} {ad : Nat → Nat} {t : zTT} {u : zNN} {w : zW} {j : Nat} (hI : IVm g ad t u w) (hR : REL t u.1 (48 * (j + 1))) {r : Nat} (hJ : 7 * j + 7 ≤ g.2.2 41) (hL : g.2.2 41 ≤ 3584) (ih : LWI g ad j r) {kc ks : Nat} (h1 : 100 * r ≤ kc) (h2 : 1000 * r ≤ ks) : DW g M_Lw_law lwQ w 1780 [(5, .int (nI (7 * j))), (4, .ref (ad 70)), (3, .ref (ad 69)), (2, .ref (ad 52)), (1, .ref (ad 0)), (0, .ref (g.2.2 40))] [] kc ks := by
  refine y_base (cs := []) (z_I.nil w) ?_
  refine y_iinc (lv' := [(5, .int (nI ((7 * j) + 7))), (4, .ref (ad 70)), (3, .ref (ad 69)), (2, .ref (ad 52)), (1, .ref (ad 0)), (0, .ref (g.2.2 40))]) (v := nI ((7 * j) + 7)) d_Lw_law_1780 (j := 0) rfl (nI_add _ _) (by decide) rfl ?_
  refine y_goto (tgt := 28) d_Lw_law_1783 (by decide) ?_
  refine y_lv (lv' := [(5, .int (nI ((7 * j) + 7))), (4, .ref (ad 70)), (3, .ref (ad 69)), (2, .ref (ad 52)), (1, .ref (ad 0)), (0, .ref (g.2.2 40))]) [0, 1, 2, 3, 4, 5] rfl ?_
  refine y_end (fun wC hC => ?_)
  exact yw_bud h1 h2 (ih _ _ _ (IVm.nil hC hI) hR)
theorem d_Lw_law_1453 : decode code 1453 = .ok (.aload_n 1, 1) := zo_43 (zd_b zq_code_45 13 rfl rfl rfl)
theorem d_Lw_law_1454 : decode code 1454 = .ok (.invokevirtual 294, 3) := zo_182 (d := 1) (e := 38) (zd_b zq_code_45 14 rfl rfl rfl) (zd_b zq_code_45 15 rfl rfl rfl) (zd_b zq_code_45 16 rfl rfl rfl)
theorem ok_Lw_law_Ip_castings : z_ok M_Lw_law M_Ip_castings 0 := ⟨z_mj2 (i := 168) rfl (by decide +kernel), rfl, ⟨by decide +kernel, by decide +kernel, by decide +kernel⟩, ⟨by decide, by decide⟩, z_mj1 (i := 1) rfl (by decide +kernel), rfl⟩
theorem ln_Lw_294 : Cond.methodLink "IronpourLaw" 294 M_Ip_castings.1 ∈ z_gw := z_mj2 (i := 165) rfl (by decide +kernel)
theorem w_im_Ip_castings : Cond.instanceMethod M_Ip_castings.1 ∈ z_gw := z_mj2 (i := 166) rfl (by decide +kernel)
theorem w_se_Ip_castings : Cond.selects M_Ip_castings.1.cls M_Ip_castings.1 M_Ip_castings.1 ∈ z_gw := z_mj2 (i := 167) rfl (by decide +kernel)
theorem d_Lw_law_1457 : decode code 1457 = .ok (.aload_n 2, 1) := zo_44 (zd_b zq_code_45 17 rfl rfl rfl)
theorem d_Lw_law_1458 : decode code 1458 = .ok (.invokevirtual 297, 3) := zo_182 (d := 1) (e := 41) (zd_b zq_code_45 18 rfl rfl rfl) (zd_b zq_code_45 19 rfl rfl rfl) (zd_b zq_code_45 20 rfl rfl rfl)
theorem ok_Lw_law_Mm_castings : z_ok M_Lw_law M_Mm_castings 0 := ⟨z_mj9 (i := 5) rfl (by decide +kernel), rfl, ⟨by decide +kernel, by decide +kernel, by decide +kernel⟩, ⟨by decide, by decide⟩, z_mj1 (i := 14) rfl (by decide +kernel), rfl⟩
theorem ln_Lw_297 : Cond.methodLink "IronpourLaw" 297 M_Mm_castings.1 ∈ z_gw := z_mj9 (i := 2) rfl (by decide +kernel)
theorem w_im_Mm_castings : Cond.instanceMethod M_Mm_castings.1 ∈ z_gw := z_mj9 (i := 3) rfl (by decide +kernel)
theorem w_se_Mm_castings : Cond.selects M_Mm_castings.1.cls M_Mm_castings.1 M_Mm_castings.1 ∈ z_gw := z_mj9 (i := 4) rfl (by decide +kernel)
theorem d_Lw_law_1461 : decode code 1461 = .ok (.if_icmp .eq 319, 3) := zo_159 (d := 1) (e := 63) (zd_b zq_code_45 21 rfl rfl rfl) (zd_b zq_code_45 22 rfl rfl rfl) (zd_b zq_code_45 23 rfl rfl rfl) (by decide +kernel)
set_option maxHeartbeats 4000000 in
set_option maxRecDepth 100000 in
theorem LC_castings {g : zG} {ad : Nat → Nat} {t : zTT} {u : zNN} {w : zW} {j : Nat} (hI : IVm g ad t u w) (hR : REL t u.1 (48 * j)) {r : Nat} (hJ : 7 * j + 7 ≤ g.2.2 41) (hL : g.2.2 41 ≤ 3584) (ih : LWI g ad j r) : DW g M_Lw_law lwQ w 1453 [(5, .int (nI (7 * j))), (4, .ref (ad 70)), (3, .ref (ad 69)), (2, .ref (ad 52)), (1, .ref (ad 0)), (0, .ref (g.2.2 40))] [] (100 * (r + 1)) (1000 * (r + 1)) := by
  refine y_base (cs := []) (z_I.nil w) ?_
  refine y_aload_n d_Lw_law_1453 rfl 4 rfl ?_
  refine yw_callVL (As := []) (rest := []) (ci := 11) rfl (fun wA hA => (IVm.nil hA hI).ra) ln_Lw_294 w_im_Ip_castings w_se_Ip_castings ok_Lw_law_Ip_castings d_Lw_law_1454 (fun wA hA => KE_Ip_castings (IVm.nil hA hI)) rfl rfl (Nat.le_of_ble_eq_true rfl) (by omega) (by omega) (fun wA1454 hA1454 E wB1454 hx => ?_) (fun wA1454 hA1454 v wB1454 hx => ?_)
  · obtain ⟨h1, -⟩ := hx
    obtain ⟨k9, hk9, -⟩ := h1.X
    exact absurd hk9 (by simp)
  · obtain ⟨h1, uC, huC, hI2⟩ := hx
    obtain ⟨v9, rfl, hp9, hq9⟩ := h1.V
    refine yw_st (st2 := [.int v9]) rfl ?_
    obtain ⟨s9, hI9⟩ := hI2
    have hI : IVo g ad ((s9 69).2.1 0) t uC wB1454 := ⟨s9, rfl, hI9⟩
    refine y_base (cs := []) (z_I.nil _) ?_
    refine y_aload_n d_Lw_law_1457 rfl 3 rfl ?_
    refine yw_callVL (As := []) (rest := [.int v9]) (ci := 12) rfl (fun wA hA => (IVo.nil hA hI).m.rm) ln_Lw_297 w_im_Mm_castings w_se_Mm_castings ok_Lw_law_Mm_castings d_Lw_law_1458 (fun wA hA => KE_Mm_castings (IVo.nil hA hI)) rfl rfl (Nat.le_of_ble_eq_true rfl) (by omega) (by omega) (fun wA1458 hA1458 E wB1458 hx => ?_) (fun wA1458 hA1458 v wB1458 hx => ?_)
    · obtain ⟨e0, -⟩ := hx
      cases e0
    · obtain ⟨e0, hT, uM, huM, hI2⟩ := hx
      cases e0
      refine yw_st (st2 := [.int ((vK_Mm_castings ad t uC.1).2), .int v9]) rfl ?_
      have hI := hI2.m
      refine y_base (cs := []) (z_I.nil _) ?_
      refine y_icmp_eq (tgt := 1780) d_Lw_law_1461 (by decide) (fun c_1461 => ?_) (fun c_1461 => ?_)
      · refine y_lv (lv' := [(5, .int (nI (7 * j))), (4, .ref (ad 70)), (3, .ref (ad 69)), (2, .ref (ad 52)), (1, .ref (ad 0)), (0, .ref (g.2.2 40))]) [0, 1, 2, 3, 4, 5] rfl ?_
        refine y_end (fun wC hC => ?_)
        exact LC_next (IVm.nil hC hI) ((hR.n (huM.trans huC)).up (by omega)) hJ hL ih (by omega) (by omega)
      · exact absurd (hq9.symm.trans ((V_castings (ad := ad) hR huC).2 hp9)) c_1461
theorem d_Lw_law_1720 : decode code 1720 = .ok (.aload_n 1, 1) := zo_43 (zd_b zq_code_53 24 rfl rfl rfl)
theorem d_Lw_law_1721 : decode code 1721 = .ok (.invokevirtual 326, 3) := zo_182 (d := 1) (e := 70) (zd_b zq_code_53 25 rfl rfl rfl) (zd_b zq_code_53 26 rfl rfl rfl) (zd_b zq_code_53 27 rfl rfl rfl)
theorem ok_Lw_law_Ip_delivered : z_ok M_Lw_law M_Ip_delivered 0 := ⟨z_mj2 (i := 176) rfl (by decide +kernel), rfl, ⟨by decide +kernel, by decide +kernel, by decide +kernel⟩, ⟨by decide, by decide⟩, z_mj1 (i := 1) rfl (by decide +kernel), rfl⟩
theorem ln_Lw_326 : Cond.methodLink "IronpourLaw" 326 M_Ip_delivered.1 ∈ z_gw := z_mj2 (i := 173) rfl (by decide +kernel)
theorem d_Lw_law_1724 : decode code 1724 = .ok (.pop2, 1) := zo_88 (zd_b zq_code_53 28 rfl rfl rfl)
theorem d_Lw_law_1725 : decode code 1725 = .ok (.aload_n 2, 1) := zo_44 (zd_b zq_code_53 29 rfl rfl rfl)
theorem d_Lw_law_1726 : decode code 1726 = .ok (.invokevirtual 330, 3) := zo_182 (d := 1) (e := 74) (zd_b zq_code_53 30 rfl rfl rfl) (zd_b zq_code_53 31 rfl rfl rfl) (zd_b zq_code_54 0 rfl rfl rfl)
theorem ok_Lw_law_Mm_delivered : z_ok M_Lw_law M_Mm_delivered 0 := ⟨z_mj9 (i := 63) rfl (by decide +kernel), rfl, ⟨by decide +kernel, by decide +kernel, by decide +kernel⟩, ⟨by decide, by decide⟩, z_mj1 (i := 14) rfl (by decide +kernel), rfl⟩
theorem ln_Lw_330 : Cond.methodLink "IronpourLaw" 330 M_Mm_delivered.1 ∈ z_gw := z_mj9 (i := 60) rfl (by decide +kernel)
theorem w_im_Mm_delivered : Cond.instanceMethod M_Mm_delivered.1 ∈ z_gw := z_mj9 (i := 61) rfl (by decide +kernel)
theorem w_se_Mm_delivered : Cond.selects M_Mm_delivered.1.cls M_Mm_delivered.1 M_Mm_delivered.1 ∈ z_gw := z_mj9 (i := 62) rfl (by decide +kernel)
theorem d_Lw_law_1729 : decode code 1729 = .ok (.pop2, 1) := zo_88 (zd_b zq_code_54 1 rfl rfl rfl)
theorem d_Lw_law_1730 : decode code 1730 = .ok (.goto 50, 3) := zo_167 (d := 0) (e := 50) (zd_b zq_code_54 2 rfl rfl rfl) (zd_b zq_code_54 3 rfl rfl rfl) (zd_b zq_code_54 4 rfl rfl rfl) (by decide +kernel)
set_option maxHeartbeats 4000000 in
set_option maxRecDepth 100000 in
theorem LC_delivered {g : zG} {ad : Nat → Nat} {t : zTT} {u : zNN} {w : zW} {j : Nat} (hI : IVm g ad t u w) (hR : REL t u.1 (48 * j)) {r : Nat} (hJ : 7 * j + 7 ≤ g.2.2 41) (hL : g.2.2 41 ≤ 3584) (ih : LWI g ad j r) : DW g M_Lw_law lwQ w 1720 [(5, .int (nI (7 * j))), (4, .ref (ad 70)), (3, .ref (ad 69)), (2, .ref (ad 52)), (1, .ref (ad 0)), (0, .ref (g.2.2 40))] [] (100 * (r + 1)) (1000 * (r + 1)) := by
  refine y_base (cs := []) (z_I.nil w) ?_
  refine y_aload_n d_Lw_law_1720 rfl 4 rfl ?_
  refine yw_callVL (As := []) (rest := []) (ci := 11) rfl (fun wA hA => (IVm.nil hA hI).ra) ln_Lw_326 w_im_Ip_delivered w_se_Ip_delivered ok_Lw_law_Ip_delivered d_Lw_law_1721 (fun wA hA => K_Ip_delivered (IVm.nil hA hI)) rfl rfl (Nat.le_of_ble_eq_true rfl) (by omega) (by omega) (fun wA1721 hA1721 E wB1721 hx => ?_) (fun wA1721 hA1721 v wB1721 hx => ?_)
  · obtain ⟨⟨v9, e1⟩, -⟩ := hx
    cases e1
  · obtain ⟨⟨v9, e1⟩, hI2⟩ := hx
    cases e1
    refine yw_st (st2 := [.long v9]) rfl ?_
    have hI := hI2
    refine y_base (cs := []) (z_I.nil _) ?_
    refine y_pop2 d_Lw_law_1724 rfl ?_
    refine y_aload_n d_Lw_law_1725 rfl 3 rfl ?_
    refine yw_callVL (As := []) (rest := []) (ci := 12) rfl (fun wA hA => (IVm.nil hA hI).rm) ln_Lw_330 w_im_Mm_delivered w_se_Mm_delivered ok_Lw_law_Mm_delivered d_Lw_law_1726 (fun wA hA => K_Mm_delivered (IVm.nil hA hI)) rfl rfl (Nat.le_of_ble_eq_true rfl) (by omega) (by omega) (fun wA1726 hA1726 E wB1726 hx => ?_) (fun wA1726 hA1726 v wB1726 hx => ?_)
    · obtain ⟨⟨v9, e1⟩, -⟩ := hx
      cases e1
    · obtain ⟨⟨v8, e1⟩, hI2⟩ := hx
      cases e1
      refine yw_st (st2 := [.long v8]) rfl ?_
      have hI := hI2
      refine y_base (cs := []) (z_I.nil _) ?_
      refine y_pop2 d_Lw_law_1729 rfl ?_
      refine y_goto (tgt := 1780) d_Lw_law_1730 (by decide) ?_
      refine y_lv (lv' := [(5, .int (nI (7 * j))), (4, .ref (ad 70)), (3, .ref (ad 69)), (2, .ref (ad 52)), (1, .ref (ad 0)), (0, .ref (g.2.2 40))]) [0, 1, 2, 3, 4, 5] rfl ?_
      refine y_end (fun wC hC => ?_)
      exact LC_next (IVm.nil hC hI) (hR.up (by omega)) hJ hL ih (by omega) (by omega)
theorem d_Lw_law_1733 : decode code 1733 = .ok (.aload_n 1, 1) := zo_43 (zd_b zq_code_54 5 rfl rfl rfl)
theorem d_Lw_law_1734 : decode code 1734 = .ok (.aload 4, 2) := zo_25 (d := 4) (zd_b zq_code_54 6 rfl rfl rfl) (zd_b zq_code_54 7 rfl rfl rfl)
theorem d_Lw_law_1736 : decode code 1736 = .ok (.invokestatic 331, 3) := zo_184 (d := 1) (e := 75) (zd_b zq_code_54 8 rfl rfl rfl) (zd_b zq_code_54 9 rfl rfl rfl) (zd_b zq_code_54 10 rfl rfl rfl)
theorem ok_Lw_law_Lw_goodShare : z_okX M_Lw_law M_Lw_goodShare 2 := ⟨z_mj7 (i := 44) rfl (by decide +kernel), by decide, ⟨by decide +kernel, by decide +kernel, by decide +kernel⟩, ⟨by decide, by decide⟩, z_mj1 (i := 0) rfl (by decide +kernel), rfl⟩
theorem ln_Lw_331 : Cond.methodLink "IronpourLaw" 331 M_Lw_goodShare.1 ∈ z_gw := z_mj7 (i := 42) rfl (by decide +kernel)
theorem w_st_Lw_goodShare : Cond.static M_Lw_goodShare.1 ∈ z_gw := z_mj7 (i := 43) rfl (by decide +kernel)
theorem d_Lw_law_1739 : decode code 1739 = .ok (.istore 6, 2) := zo_54 (d := 6) (zd_b zq_code_54 11 rfl rfl rfl) (zd_b zq_code_54 12 rfl rfl rfl)
theorem d_Lw_law_1741 : decode code 1741 = .ok (.aload_n 2, 1) := zo_44 (zd_b zq_code_54 13 rfl rfl rfl)
theorem d_Lw_law_1742 : decode code 1742 = .ok (.invokevirtual 334, 3) := zo_182 (d := 1) (e := 78) (zd_b zq_code_54 14 rfl rfl rfl) (zd_b zq_code_54 15 rfl rfl rfl) (zd_b zq_code_54 16 rfl rfl rfl)
theorem ok_Lw_law_Mm_goodShare : z_ok M_Lw_law M_Mm_goodShare 0 := ⟨z_mj9 (i := 67) rfl (by decide +kernel), rfl, ⟨by decide +kernel, by decide +kernel, by decide +kernel⟩, ⟨by decide, by decide⟩, z_mj1 (i := 14) rfl (by decide +kernel), rfl⟩
theorem ln_Lw_334 : Cond.methodLink "IronpourLaw" 334 M_Mm_goodShare.1 ∈ z_gw := z_mj9 (i := 64) rfl (by decide +kernel)
theorem w_im_Mm_goodShare : Cond.instanceMethod M_Mm_goodShare.1 ∈ z_gw := z_mj9 (i := 65) rfl (by decide +kernel)
theorem w_se_Mm_goodShare : Cond.selects M_Mm_goodShare.1.cls M_Mm_goodShare.1 M_Mm_goodShare.1 ∈ z_gw := z_mj9 (i := 66) rfl (by decide +kernel)
theorem d_Lw_law_1745 : decode code 1745 = .ok (.fstore 7, 2) := zo_56 (d := 7) (zd_b zq_code_54 17 rfl rfl rfl) (zd_b zq_code_54 18 rfl rfl rfl)
theorem d_Lw_law_1747 : decode code 1747 = .ok (.goto 33, 3) := zo_167 (d := 0) (e := 33) (zd_b zq_code_54 19 rfl rfl rfl) (zd_b zq_code_54 20 rfl rfl rfl) (zd_b zq_code_54 21 rfl rfl rfl) (by decide +kernel)
set_option maxHeartbeats 4000000 in
set_option maxRecDepth 100000 in
theorem LC_goodShare {g : zG} {ad : Nat → Nat} {t : zTT} {u : zNN} {w : zW} {j : Nat} (hI : IVm g ad t u w) (hR : REL t u.1 (48 * j)) {r : Nat} (hJ : 7 * j + 7 ≤ g.2.2 41) (hL : g.2.2 41 ≤ 3584) (ih : LWI g ad j r) : DW g M_Lw_law lwQ w 1733 [(5, .int (nI (7 * j))), (4, .ref (ad 70)), (3, .ref (ad 69)), (2, .ref (ad 52)), (1, .ref (ad 0)), (0, .ref (g.2.2 40))] [] (100 * (r + 1)) (1000 * (r + 1)) := by
  refine y_base (cs := []) (z_I.nil w) ?_
  refine y_aload_n d_Lw_law_1733 rfl 4 rfl ?_
  refine y_aload d_Lw_law_1734 1 rfl ?_
  refine yw_callSX (As := [.ref (ad 0), .ref (ad 70)]) (rest := []) ln_Lw_331 w_st_Lw_goodShare ok_Lw_law_Lw_goodShare d_Lw_law_1736 (fun wA hA => W_goodShare (IVm.nil hA hI)) rfl rfl (Nat.le_of_ble_eq_true rfl) (by omega) (by omega) (fun wA1736 hA1736 E wB1736 hx => ?_) (fun wA1736 hA1736 v wB1736 hx => ?_)
  · obtain ⟨⟨v9, e1⟩, -⟩ := hx
    cases e1
  · obtain ⟨⟨v9, e1⟩, hI2⟩ := hx
    cases e1
    refine yw_st (st2 := [.int v9]) rfl ?_
    have hI := hI2
    refine y_base (cs := []) (z_I.nil _) ?_
    refine y_istore (lv' := [(6, .int v9), (5, .int (nI (7 * j))), (4, .ref (ad 70)), (3, .ref (ad 69)), (2, .ref (ad 52)), (1, .ref (ad 0)), (0, .ref (g.2.2 40))]) d_Lw_law_1739 (by decide) rfl ?_
    refine y_aload_n d_Lw_law_1741 rfl 4 rfl ?_
    refine yw_callVL (As := []) (rest := []) (ci := 12) rfl (fun wA hA => (IVm.nil hA hI).rm) ln_Lw_334 w_im_Mm_goodShare w_se_Mm_goodShare ok_Lw_law_Mm_goodShare d_Lw_law_1742 (fun wA hA => K_Mm_goodShare (IVm.nil hA hI)) rfl rfl (Nat.le_of_ble_eq_true rfl) (by omega) (by omega) (fun wA1742 hA1742 E wB1742 hx => ?_) (fun wA1742 hA1742 v wB1742 hx => ?_)
    · obtain ⟨⟨v9, e1⟩, -⟩ := hx
      cases e1
    · obtain ⟨⟨v8, e1⟩, hI2⟩ := hx
      cases e1
      refine yw_st (st2 := [.float v8]) rfl ?_
      have hI := hI2
      refine y_base (cs := []) (z_I.nil _) ?_
      refine y_fstore (lv' := [(7, .float v8), (6, .int v9), (5, .int (nI (7 * j))), (4, .ref (ad 70)), (3, .ref (ad 69)), (2, .ref (ad 52)), (1, .ref (ad 0)), (0, .ref (g.2.2 40))]) d_Lw_law_1745 (by decide) rfl ?_
      refine y_goto (tgt := 1780) d_Lw_law_1747 (by decide) ?_
      refine y_lv (lv' := [(5, .int (nI (7 * j))), (4, .ref (ad 70)), (3, .ref (ad 69)), (2, .ref (ad 52)), (1, .ref (ad 0)), (0, .ref (g.2.2 40))]) [2, 3, 4, 5, 6, 7] rfl ?_
      refine y_end (fun wC hC => ?_)
      exact LC_next (IVm.nil hC hI) (hR.up (by omega)) hJ hL ih (by omega) (by omega)
theorem d_Lw_law_1750 : decode code 1750 = .ok (.aload_n 1, 1) := zo_43 (zd_b zq_code_54 22 rfl rfl rfl)
theorem d_Lw_law_1751 : decode code 1751 = .ok (.aload 4, 2) := zo_25 (d := 4) (zd_b zq_code_54 23 rfl rfl rfl) (zd_b zq_code_54 24 rfl rfl rfl)
theorem d_Lw_law_1753 : decode code 1753 = .ok (.invokestatic 335, 3) := zo_184 (d := 1) (e := 79) (zd_b zq_code_54 25 rfl rfl rfl) (zd_b zq_code_54 26 rfl rfl rfl) (zd_b zq_code_54 27 rfl rfl rfl)
theorem ok_Lw_law_Lw_meanBar : z_okX M_Lw_law M_Lw_meanBar 2 := ⟨z_mj7 (i := 69) rfl (by decide +kernel), by decide, ⟨by decide +kernel, by decide +kernel, by decide +kernel⟩, ⟨by decide, by decide⟩, z_mj1 (i := 0) rfl (by decide +kernel), rfl⟩
theorem ln_Lw_335 : Cond.methodLink "IronpourLaw" 335 M_Lw_meanBar.1 ∈ z_gw := z_mj7 (i := 67) rfl (by decide +kernel)
theorem w_st_Lw_meanBar : Cond.static M_Lw_meanBar.1 ∈ z_gw := z_mj7 (i := 68) rfl (by decide +kernel)
theorem d_Lw_law_1756 : decode code 1756 = .ok (.istore 6, 2) := zo_54 (d := 6) (zd_b zq_code_54 28 rfl rfl rfl) (zd_b zq_code_54 29 rfl rfl rfl)
theorem d_Lw_law_1758 : decode code 1758 = .ok (.aload_n 2, 1) := zo_44 (zd_b zq_code_54 30 rfl rfl rfl)
theorem d_Lw_law_1759 : decode code 1759 = .ok (.invokevirtual 337, 3) := zo_182 (d := 1) (e := 81) (zd_b zq_code_54 31 rfl rfl rfl) (zd_b zq_code_55 0 rfl rfl rfl) (zd_b zq_code_55 1 rfl rfl rfl)
theorem ok_Lw_law_Mm_meanBar : z_ok M_Lw_law M_Mm_meanBar 0 := ⟨z_mj9 (i := 71) rfl (by decide +kernel), rfl, ⟨by decide +kernel, by decide +kernel, by decide +kernel⟩, ⟨by decide, by decide⟩, z_mj1 (i := 14) rfl (by decide +kernel), rfl⟩
theorem ln_Lw_337 : Cond.methodLink "IronpourLaw" 337 M_Mm_meanBar.1 ∈ z_gw := z_mj9 (i := 68) rfl (by decide +kernel)
theorem w_im_Mm_meanBar : Cond.instanceMethod M_Mm_meanBar.1 ∈ z_gw := z_mj9 (i := 69) rfl (by decide +kernel)
theorem w_se_Mm_meanBar : Cond.selects M_Mm_meanBar.1.cls M_Mm_meanBar.1 M_Mm_meanBar.1 ∈ z_gw := z_mj9 (i := 70) rfl (by decide +kernel)
theorem d_Lw_law_1762 : decode code 1762 = .ok (.dstore 7, 2) := zo_57 (d := 7) (zd_b zq_code_55 2 rfl rfl rfl) (zd_b zq_code_55 3 rfl rfl rfl)
theorem d_Lw_law_1764 : decode code 1764 = .ok (.goto 16, 3) := zo_167 (d := 0) (e := 16) (zd_b zq_code_55 4 rfl rfl rfl) (zd_b zq_code_55 5 rfl rfl rfl) (zd_b zq_code_55 6 rfl rfl rfl) (by decide +kernel)
set_option maxHeartbeats 4000000 in
set_option maxRecDepth 100000 in
theorem LC_meanBar {g : zG} {ad : Nat → Nat} {t : zTT} {u : zNN} {w : zW} {j : Nat} (hI : IVm g ad t u w) (hR : REL t u.1 (48 * j)) {r : Nat} (hJ : 7 * j + 7 ≤ g.2.2 41) (hL : g.2.2 41 ≤ 3584) (ih : LWI g ad j r) : DW g M_Lw_law lwQ w 1750 [(5, .int (nI (7 * j))), (4, .ref (ad 70)), (3, .ref (ad 69)), (2, .ref (ad 52)), (1, .ref (ad 0)), (0, .ref (g.2.2 40))] [] (100 * (r + 1)) (1000 * (r + 1)) := by
  refine y_base (cs := []) (z_I.nil w) ?_
  refine y_aload_n d_Lw_law_1750 rfl 4 rfl ?_
  refine y_aload d_Lw_law_1751 1 rfl ?_
  refine yw_callSX (As := [.ref (ad 0), .ref (ad 70)]) (rest := []) ln_Lw_335 w_st_Lw_meanBar ok_Lw_law_Lw_meanBar d_Lw_law_1753 (fun wA hA => W_meanBar (IVm.nil hA hI)) rfl rfl (Nat.le_of_ble_eq_true rfl) (by omega) (by omega) (fun wA1753 hA1753 E wB1753 hx => ?_) (fun wA1753 hA1753 v wB1753 hx => ?_)
  · obtain ⟨⟨v9, e1⟩, -⟩ := hx
    cases e1
  · obtain ⟨⟨v9, e1⟩, hI2⟩ := hx
    cases e1
    refine yw_st (st2 := [.int v9]) rfl ?_
    have hI := hI2
    refine y_base (cs := []) (z_I.nil _) ?_
    refine y_istore (lv' := [(6, .int v9), (5, .int (nI (7 * j))), (4, .ref (ad 70)), (3, .ref (ad 69)), (2, .ref (ad 52)), (1, .ref (ad 0)), (0, .ref (g.2.2 40))]) d_Lw_law_1756 (by decide) rfl ?_
    refine y_aload_n d_Lw_law_1758 rfl 4 rfl ?_
    refine yw_callVL (As := []) (rest := []) (ci := 12) rfl (fun wA hA => (IVm.nil hA hI).rm) ln_Lw_337 w_im_Mm_meanBar w_se_Mm_meanBar ok_Lw_law_Mm_meanBar d_Lw_law_1759 (fun wA hA => K_Mm_meanBar (IVm.nil hA hI)) rfl rfl (Nat.le_of_ble_eq_true rfl) (by omega) (by omega) (fun wA1759 hA1759 E wB1759 hx => ?_) (fun wA1759 hA1759 v wB1759 hx => ?_)
    · obtain ⟨⟨v9, e1⟩, -⟩ := hx
      cases e1
    · obtain ⟨⟨v8, e1⟩, hI2⟩ := hx
      cases e1
      refine yw_st (st2 := [.double v8]) rfl ?_
      have hI := hI2
      refine y_base (cs := []) (z_I.nil _) ?_
      refine y_dstore (lv' := [(7, .double v8), (6, .int v9), (5, .int (nI (7 * j))), (4, .ref (ad 70)), (3, .ref (ad 69)), (2, .ref (ad 52)), (1, .ref (ad 0)), (0, .ref (g.2.2 40))]) d_Lw_law_1762 (by decide) rfl ?_
      refine y_goto (tgt := 1780) d_Lw_law_1764 (by decide) ?_
      refine y_lv (lv' := [(5, .int (nI (7 * j))), (4, .ref (ad 70)), (3, .ref (ad 69)), (2, .ref (ad 52)), (1, .ref (ad 0)), (0, .ref (g.2.2 40))]) [2, 3, 4, 5, 6, 7] rfl ?_
      refine y_end (fun wC hC => ?_)
      exact LC_next (IVm.nil hC hI) (hR.up (by omega)) hJ hL ih (by omega) (by omega)
end
