section
def zX0 : zTr := ((fun _ => 0, fun _ => 0, 0, 0), (((fun _ => 0, fun _ => 0, fun _ => 0, 0), fun _ => 0), fun _ => 0, fun _ => 0), (fun _ => 0, fun _ => 0, fun _ => 0))
abbrev zSC : Type := (Nat → Int32) × (Nat → Int32) × (Nat → Int32) × (Nat → Int32) × (Nat → Int32) × (Nat → Int32) × (Nat → Nat)
def zS0 : zSC := (fun _ => 0, fun _ => 0, fun _ => 0, fun _ => 0, fun _ => 0, fun _ => 0, fun _ => 0)
def pShS (t : zTT) (S : zSC) : Int32 := pSh t S.1 S.2.1 S.2.2.1 S.2.2.2.1 S.2.2.2.2.1 S.2.2.2.2.2.1 S.2.2.2.2.2.2
def pFbS (t : zTT) (S : zSC) : Int32 := pFb t S.1 S.2.1 S.2.2.1 S.2.2.2.1 S.2.2.2.2.1 S.2.2.2.2.2.1 S.2.2.2.2.2.2
set_option maxHeartbeats 4000000 in
theorem Qx_Ip_mouldE {g : zG} {ad : Nat → Nat} {t : zTT} {u : zNN} {w : zW} (hI : IV g ad t u w) (hE : fa_cnt (fun k => decide (((t.1 2).1) k = 103)) 12 = 0 ∨ anB (fun k => decide (((t.1 2).1) k = 99)) 108 = false) : zMB g M_Ip_mould [.ref (ad 0)] w (fun o w1 => o = .inr "java/util/NoSuchElementException" ∧ IV g ad t u w1) 1 6 := by
  obtain ⟨e_a, w_a, k_a⟩ := hI.1.2 0 (by decide)
  obtain rfl := kd_0.mp k_a
  obtain ⟨e_pa, w_pa, k_pa⟩ := hI.1.2 1 (by decide)
  obtain rfl := kd_1.mp k_pa
  obtain ⟨e_pa1, w_pa1, k_pa1⟩ := hI.1.2 2 (by decide)
  obtain rfl := kd_2.mp k_pa1
  obtain ⟨e_pa2, w_pa2, k_pa2⟩ := hI.1.2 3 (by decide)
  obtain ⟨v_pa2_f, rfl⟩ := kd_3.mp k_pa2
  obtain ⟨e_pa3, w_pa3, k_pa3⟩ := hI.1.2 4 (by decide)
  obtain ⟨v_pa3_h, rfl⟩ := kd_4.mp k_pa3
  refine ((C_Ip_mouldE g (ad 0) (ad 1) (ad 5) (ad 18) (ad 31) (ad 32) (ad 36) (ad 42) (ad 45) (ad 47) (ad 49) (ad 50) (ad 51) (ad 2) (ad 3) (ad 4) ((t.1 2).1) v_pa2_f v_pa3_h ((t.1 1).2.2 0) hE).at (hI.1.I [0, 1, 2, 3, 4] _ rfl (by decide) (by decide) (List.forall_mem_cons.mpr ⟨w_a, (List.forall_mem_cons.mpr ⟨w_pa, (List.forall_mem_cons.mpr ⟨w_pa1, (List.forall_mem_cons.mpr ⟨w_pa2, (List.forall_mem_cons.mpr ⟨w_pa3, (fun _ h => nomatch h)⟩)⟩)⟩)⟩)⟩))).mono (Nat.le_of_ble_eq_true rfl) (Nat.le_of_ble_eq_true rfl) (fun o w1 hp => ?_)
  obtain ⟨cs1, hp, hi9⟩ := hp
  obtain ⟨e1, e2⟩ := hp
  subst e1; subst e2
  exact ⟨rfl, hI.fix (t2 := t) (is := [0, 1, 2, 3, 4]) hi9 rfl ⟨kd_0.mpr rfl, kd_1.mpr rfl, kd_2.mpr rfl, kd_3.mpr ⟨_, rfl⟩, kd_4.mpr ⟨_, rfl⟩, trivial⟩ (by decide) (by decide) (fun _ _ _ => rfl) (fun h => h) rfl⟩
theorem K_Ip_alloy {g : zG} {ad : Nat → Nat} {t : zTT} {u : zNN} {w : zW} (hI : IVm g ad t u w) (x : Int32) : zMB g M_Ip_alloy [.ref (ad 0), .int x] w (fun o w1 => CKx g ad t u.1 ["java/lang/IndexOutOfBoundsException"] o w1) 10 300 := by
  obtain ⟨s, hI⟩ := hI
  by_cases hx : x.toNatClampNeg < u.1 1 ∧ x = nI x.toNatClampNeg
  · obtain ⟨k, hk, rfl⟩ : ∃ k, k < u.1 1 ∧ x = nI k := ⟨_, hx⟩
    have h33 := hI.n5 1 (by decide)
    have ek : (nI k).toNatClampNeg = k := nI_clamp (by omega)
    exact (Q_Ip_alloyN hI k hk).mono (by decide) (by decide) (fun o w1 h => ⟨h.1.sub (by simp), u, rfl, ⟨_, h.2⟩⟩)
  · have hx9 : ¬ ∃ k, k < u.1 1 ∧ x = nI k := fun ⟨k, hk, e⟩ => hx (by have h33 := hI.n5 1 (by decide); subst e; rw [nI_clamp (by omega)]; exact ⟨hk, rfl⟩)
    exact (Q_Ip_alloyE hI x hx9).mono (by decide) (by decide) (fun o w1 h => ⟨h.1.sub (by simp), u, rfl, ⟨_, h.2⟩⟩)
theorem K_Ip_faults {g : zG} {ad : Nat → Nat} {t : zTT} {u : zNN} {w : zW} (hI : IVm g ad t u w) (x : Int32) : zMB g M_Ip_faults [.ref (ad 0), .int x] w (fun o w1 => CKx g ad t u.1 ["java/lang/IndexOutOfBoundsException"] o w1) 10 300 := by
  obtain ⟨s, hI⟩ := hI
  by_cases hx : x.toNatClampNeg < u.1 1 ∧ x = nI x.toNatClampNeg
  · obtain ⟨k, hk, rfl⟩ : ∃ k, k < u.1 1 ∧ x = nI k := ⟨_, hx⟩
    have h33 := hI.n5 1 (by decide)
    have ek : (nI k).toNatClampNeg = k := nI_clamp (by omega)
    exact (Q_Ip_faultsN hI k hk).mono (by decide) (by decide) (fun o w1 h => ⟨h.1.sub (by simp), u, rfl, ⟨_, h.2⟩⟩)
  · have hx9 : ¬ ∃ k, k < u.1 1 ∧ x = nI k := fun ⟨k, hk, e⟩ => hx (by have h33 := hI.n5 1 (by decide); subst e; rw [nI_clamp (by omega)]; exact ⟨hk, rfl⟩)
    exact (Q_Ip_faultsE hI x hx9).mono (by decide) (by decide) (fun o w1 h => ⟨h.1.sub (by simp), u, rfl, ⟨_, h.2⟩⟩)
theorem K_Ip_shrunkIn {g : zG} {ad : Nat → Nat} {t : zTT} {u : zNN} {w : zW} (hI : IVm g ad t u w) (x : Int32) : zMB g M_Ip_shrunkIn [.ref (ad 0), .int x] w (fun o w1 => CKx g ad t u.1 ["java/lang/IndexOutOfBoundsException"] o w1) 10 300 := by
  obtain ⟨s, hI⟩ := hI
  by_cases hx : x.toNatClampNeg < u.1 1 ∧ x = nI x.toNatClampNeg
  · obtain ⟨k, hk, rfl⟩ : ∃ k, k < u.1 1 ∧ x = nI k := ⟨_, hx⟩
    have h33 := hI.n5 1 (by decide)
    have ek : (nI k).toNatClampNeg = k := nI_clamp (by omega)
    exact (Q_Ip_shrunkInN hI k hk).mono (by decide) (by decide) (fun o w1 h => ⟨h.1.sub (by simp), u, rfl, ⟨_, h.2⟩⟩)
  · have hx9 : ¬ ∃ k, k < u.1 1 ∧ x = nI k := fun ⟨k, hk, e⟩ => hx (by have h33 := hI.n5 1 (by decide); subst e; rw [nI_clamp (by omega)]; exact ⟨hk, rfl⟩)
    exact (Q_Ip_shrunkInE hI x hx9).mono (by decide) (by decide) (fun o w1 h => ⟨h.1.sub (by simp), u, rfl, ⟨_, h.2⟩⟩)
theorem K_Ip_bar {g : zG} {ad : Nat → Nat} {t : zTT} {u : zNN} {w : zW} (hI : IVm g ad t u w) (x : Int32) : zMB g M_Ip_bar [.ref (ad 0), .int x] w (fun o w1 => CKx g ad t u.1 ["java/lang/IndexOutOfBoundsException"] o w1) 10 300 := by
  obtain ⟨s, hI⟩ := hI
  by_cases hx : x.toNatClampNeg < u.1 1 ∧ x = nI x.toNatClampNeg
  · obtain ⟨k, hk, rfl⟩ : ∃ k, k < u.1 1 ∧ x = nI k := ⟨_, hx⟩
    have h33 := hI.n5 1 (by decide)
    have ek : (nI k).toNatClampNeg = k := nI_clamp (by omega)
    exact (Q_Ip_barN hI k hk).mono (by decide) (by decide) (fun o w1 h => ⟨h.1.sub (by simp), u, rfl, ⟨_, h.2⟩⟩)
  · have hx9 : ¬ ∃ k, k < u.1 1 ∧ x = nI k := fun ⟨k, hk, e⟩ => hx (by have h33 := hI.n5 1 (by decide); subst e; rw [nI_clamp (by omega)]; exact ⟨hk, rfl⟩)
    exact (Q_Ip_barE hI x hx9).mono (by decide) (by decide) (fun o w1 h => ⟨h.1.sub (by simp), u, rfl, ⟨_, h.2⟩⟩)
theorem K_Ip_has {g : zG} {ad : Nat → Nat} {t : zTT} {u : zNN} {w : zW} (hI : IVm g ad t u w) (x c : Int32) : zMB g M_Ip_has [.ref (ad 0), .int x, .int c] w (fun o w1 => CKx g ad t u.1 ["java/lang/IndexOutOfBoundsException", "java/lang/IllegalArgumentException"] o w1) 10 300 := by
  obtain ⟨s, hI⟩ := hI
  by_cases hx : x.toNatClampNeg < u.1 1 ∧ x = nI x.toNatClampNeg
  · obtain ⟨k, hk, rfl⟩ : ∃ k, k < u.1 1 ∧ x = nI k := ⟨_, hx⟩
    have h33 := hI.n5 1 (by decide)
    have ek : (nI k).toNatClampNeg = k := nI_clamp (by omega)
    by_cases h2 : z_ix 2 c < 0
    · exact (Q_Ip_hasF hI k hk c h2).mono (by decide) (by decide) (fun o w1 h => ⟨h.1.sub (by simp), u, rfl, ⟨_, h.2⟩⟩)
    · obtain ⟨e9, he9, h3⟩ := z_ix2 h2
      exact (Q_Ip_hasN hI k hk c e9 he9 h3).mono (by decide) (by decide) (fun o w1 h => ⟨h.1.sub (by simp), u, rfl, ⟨_, h.2⟩⟩)
  · have hx9 : ¬ ∃ k, k < u.1 1 ∧ x = nI k := fun ⟨k, hk, e⟩ => hx (by have h33 := hI.n5 1 (by decide); subst e; rw [nI_clamp (by omega)]; exact ⟨hk, rfl⟩)
    exact (Q_Ip_hasE hI x hx9 c).mono (by decide) (by decide) (fun o w1 h => ⟨h.1.sub (by simp), u, rfl, ⟨_, h.2⟩⟩)
theorem K_Ip_waiting {g : zG} {ad : Nat → Nat} {t : zTT} {u : zNN} {w : zW} (hI : IVm g ad t u w) (x : Int32) : zMB g M_Ip_waiting [.ref (ad 0), .int x] w (fun o w1 => CKx g ad t u.1 ["java/util/NoSuchElementException"] o w1) 10 300 := by
  obtain ⟨s, hI⟩ := hI
  by_cases hx : x.toNatClampNeg < u.1 0 ∧ x = nI x.toNatClampNeg
  · obtain ⟨k, hk, rfl⟩ : ∃ k, k < u.1 0 ∧ x = nI k := ⟨_, hx⟩
    have h33 := hI.n5 0 (by decide)
    have ek : (nI k).toNatClampNeg = k := nI_clamp (by omega)
    exact (Q_Ip_waitingN hI k hk).mono (by decide) (by decide) (fun o w1 h => ⟨h.1.sub (by simp), u, rfl, ⟨_, h.2⟩⟩)
  · have hx9 : ¬ ∃ k, k < u.1 0 ∧ x = nI k := fun ⟨k, hk, e⟩ => hx (by have h33 := hI.n5 0 (by decide); subst e; rw [nI_clamp (by omega)]; exact ⟨hk, rfl⟩)
    exact (Q_Ip_waitingE hI x hx9).mono (by decide) (by decide) (fun o w1 h => ⟨h.1.sub (by simp), u, rfl, ⟨_, h.2⟩⟩)
theorem K_Ip_castings {g : zG} {ad : Nat → Nat} {t : zTT} {u : zNN} {w : zW} (hI : IVm g ad t u w) : zMB g M_Ip_castings [.ref (ad 0)] w (fun o w1 => CKx g ad t u.1 [] o w1) 10 300 := by
  obtain ⟨s, hI⟩ := hI
  exact (Q_Ip_castings hI).mono (by decide) (by decide) (fun o w1 h => ⟨h.1.sub (by simp), u, rfl, ⟨_, h.2⟩⟩)
theorem K_Ip_worst {g : zG} {ad : Nat → Nat} {t : zTT} {u : zNN} {w : zW} (hI : IVm g ad t u w) : zMB g M_Ip_worst [.ref (ad 0)] w (fun o w1 => CKx g ad t u.1 ["java/util/NoSuchElementException"] o w1) 10 300 := by
  obtain ⟨s, hI⟩ := hI
  exact (Q_Ip_worst hI).mono (by decide) (by decide) (fun o w1 h => ⟨h.1.sub (by simp), u, rfl, ⟨_, h.2⟩⟩)
theorem K_Ip_isSound {g : zG} {ad : Nat → Nat} {t : zTT} {u : zNN} {w : zW} (hI : IVm g ad t u w) : zMB g M_Ip_isSound [.ref (ad 0)] w (fun o w1 => CKx g ad t u.1 [] o w1) 10 300 := by
  obtain ⟨s, hI⟩ := hI
  exact (Qx_Ip_isSound hI).mono (by decide) (by decide) (fun o w1 h => ⟨h.1.sub (by simp), u, rfl, IVm.mm h.2⟩)
theorem K_Ip_bestFeeder {g : zG} {ad : Nat → Nat} {t : zTT} {u : zNN} {w : zW} (hI : IVm g ad t u w) (h : Int32) : zMB g M_Ip_bestFeeder [.ref (ad 0), .int h] w (fun o w1 => CKx g ad t u.1 ["java/lang/IllegalArgumentException", "java/util/NoSuchElementException"] o w1) 10 300 := by
  obtain ⟨s, hI⟩ := hI
  by_cases hh : 1200 ≤ h ∧ h ≤ 1500
  · exact (Qx_Ip_bestFeederN hI h hh).mono (by decide) (by decide) (fun o w1 h => ⟨h.1.sub (by simp), u, rfl, IVm.mm h.2⟩)
  · exact (Q_Ip_bestFeederE hI h hh).mono (by decide) (by decide) (fun o w1 h => ⟨h.1.sub (by simp), u, rfl, ⟨_, h.2⟩⟩)
theorem K_Mm_alloy {g : zG} {ad : Nat → Nat} {t : zTT} {u : zNN} {w : zW} (hI : IVm g ad t u w) (x : Int32) : zMB g M_Mm_alloy [.ref (ad 52), .int x] w (fun o w1 => MKx g ad t u.1 o w1) 10 300 := by
  obtain ⟨s, hI⟩ := hI
  by_cases hx : x.toNatClampNeg < u.1 5 ∧ x = nI x.toNatClampNeg
  · obtain ⟨k, hk, rfl⟩ : ∃ k, k < u.1 5 ∧ x = nI k := ⟨_, hx⟩
    have h33 := hI.n5 5 (by decide)
    have ek : (nI k).toNatClampNeg = k := nI_clamp (by omega)
    exact (Q_Mm_alloyN hI k hk).mono (by decide) (by decide) (fun o w1 h => ⟨h.1, u, rfl, ⟨_, h.2⟩⟩)
  · have hx9 : ¬ ∃ k, k < u.1 5 ∧ x = nI k := fun ⟨k, hk, e⟩ => hx (by have h33 := hI.n5 5 (by decide); subst e; rw [nI_clamp (by omega)]; exact ⟨hk, rfl⟩)
    exact (Q_Mm_alloyE hI x hx9).mono (by decide) (by decide) (fun o w1 h => ⟨h.1, u, rfl, ⟨_, h.2⟩⟩)
theorem K_Mm_faults {g : zG} {ad : Nat → Nat} {t : zTT} {u : zNN} {w : zW} (hI : IVm g ad t u w) (x : Int32) : zMB g M_Mm_faults [.ref (ad 52), .int x] w (fun o w1 => MKx g ad t u.1 o w1) 10 300 := by
  obtain ⟨s, hI⟩ := hI
  by_cases hx : x.toNatClampNeg < u.1 5 ∧ x = nI x.toNatClampNeg
  · obtain ⟨k, hk, rfl⟩ : ∃ k, k < u.1 5 ∧ x = nI k := ⟨_, hx⟩
    have h33 := hI.n5 5 (by decide)
    have ek : (nI k).toNatClampNeg = k := nI_clamp (by omega)
    exact (Q_Mm_faultsN hI k hk).mono (by decide) (by decide) (fun o w1 h => ⟨h.1, u, rfl, ⟨_, h.2⟩⟩)
  · have hx9 : ¬ ∃ k, k < u.1 5 ∧ x = nI k := fun ⟨k, hk, e⟩ => hx (by have h33 := hI.n5 5 (by decide); subst e; rw [nI_clamp (by omega)]; exact ⟨hk, rfl⟩)
    exact (Q_Mm_faultsE hI x hx9).mono (by decide) (by decide) (fun o w1 h => ⟨h.1, u, rfl, ⟨_, h.2⟩⟩)
theorem K_Mm_shrunkIn {g : zG} {ad : Nat → Nat} {t : zTT} {u : zNN} {w : zW} (hI : IVm g ad t u w) (x : Int32) : zMB g M_Mm_shrunkIn [.ref (ad 52), .int x] w (fun o w1 => MKx g ad t u.1 o w1) 10 300 := by
  obtain ⟨s, hI⟩ := hI
  by_cases hx : x.toNatClampNeg < u.1 5 ∧ x = nI x.toNatClampNeg
  · obtain ⟨k, hk, rfl⟩ : ∃ k, k < u.1 5 ∧ x = nI k := ⟨_, hx⟩
    have h33 := hI.n5 5 (by decide)
    have ek : (nI k).toNatClampNeg = k := nI_clamp (by omega)
    exact (Q_Mm_shrunkInN hI k hk).mono (by decide) (by decide) (fun o w1 h => ⟨h.1, u, rfl, ⟨_, h.2⟩⟩)
  · have hx9 : ¬ ∃ k, k < u.1 5 ∧ x = nI k := fun ⟨k, hk, e⟩ => hx (by have h33 := hI.n5 5 (by decide); subst e; rw [nI_clamp (by omega)]; exact ⟨hk, rfl⟩)
    exact (Q_Mm_shrunkInE hI x hx9).mono (by decide) (by decide) (fun o w1 h => ⟨h.1, u, rfl, ⟨_, h.2⟩⟩)
theorem K_Mm_bar {g : zG} {ad : Nat → Nat} {t : zTT} {u : zNN} {w : zW} (hI : IVm g ad t u w) (x : Int32) : zMB g M_Mm_bar [.ref (ad 52), .int x] w (fun o w1 => MKx g ad t u.1 o w1) 10 300 := by
  obtain ⟨s, hI⟩ := hI
  by_cases hx : x.toNatClampNeg < u.1 5 ∧ x = nI x.toNatClampNeg
  · obtain ⟨k, hk, rfl⟩ : ∃ k, k < u.1 5 ∧ x = nI k := ⟨_, hx⟩
    have h33 := hI.n5 5 (by decide)
    have ek : (nI k).toNatClampNeg = k := nI_clamp (by omega)
    exact (Q_Mm_barN hI k hk).mono (by decide) (by decide) (fun o w1 h => ⟨h.1, u, rfl, ⟨_, h.2⟩⟩)
  · have hx9 : ¬ ∃ k, k < u.1 5 ∧ x = nI k := fun ⟨k, hk, e⟩ => hx (by have h33 := hI.n5 5 (by decide); subst e; rw [nI_clamp (by omega)]; exact ⟨hk, rfl⟩)
    exact (Q_Mm_barE hI x hx9).mono (by decide) (by decide) (fun o w1 h => ⟨h.1, u, rfl, ⟨_, h.2⟩⟩)
theorem K_Mm_has {g : zG} {ad : Nat → Nat} {t : zTT} {u : zNN} {w : zW} (hI : IVm g ad t u w) (x c : Int32) : zMB g M_Mm_has_1 [.ref (ad 52), .int x, .int c] w (fun o w1 => MKx g ad t u.1 o w1) 10 300 := by
  obtain ⟨s, hI⟩ := hI
  by_cases hx : x.toNatClampNeg < u.1 5 ∧ x = nI x.toNatClampNeg
  · obtain ⟨k, hk, rfl⟩ : ∃ k, k < u.1 5 ∧ x = nI k := ⟨_, hx⟩
    have h33 := hI.n5 5 (by decide)
    have ek : (nI k).toNatClampNeg = k := nI_clamp (by omega)
    exact (Q_Mm_hasN hI k hk c).mono (by decide) (by decide) (fun o w1 h => ⟨h.1, u, rfl, ⟨_, h.2⟩⟩)
  · have hx9 : ¬ ∃ k, k < u.1 5 ∧ x = nI k := fun ⟨k, hk, e⟩ => hx (by have h33 := hI.n5 5 (by decide); subst e; rw [nI_clamp (by omega)]; exact ⟨hk, rfl⟩)
    exact (Q_Mm_hasE hI x hx9 c).mono (by decide) (by decide) (fun o w1 h => ⟨h.1, u, rfl, ⟨_, h.2⟩⟩)
theorem K_Mm_waiting {g : zG} {ad : Nat → Nat} {t : zTT} {u : zNN} {w : zW} (hI : IVm g ad t u w) (x : Int32) : zMB g M_Mm_waiting [.ref (ad 52), .int x] w (fun o w1 => MKx g ad t u.1 o w1) 10 300 := by
  obtain ⟨s, hI⟩ := hI
  by_cases hx : x.toNatClampNeg < u.1 3 ∧ x = nI x.toNatClampNeg
  · obtain ⟨k, hk, rfl⟩ : ∃ k, k < u.1 3 ∧ x = nI k := ⟨_, hx⟩
    have h33 := hI.n5 3 (by decide)
    have ek : (nI k).toNatClampNeg = k := nI_clamp (by omega)
    exact (Q_Mm_waitingN hI k hk).mono (by decide) (by decide) (fun o w1 h => ⟨h.1, u, rfl, ⟨_, h.2⟩⟩)
  · have hx9 : ¬ ∃ k, k < u.1 3 ∧ x = nI k := fun ⟨k, hk, e⟩ => hx (by have h33 := hI.n5 3 (by decide); subst e; rw [nI_clamp (by omega)]; exact ⟨hk, rfl⟩)
    exact (Q_Mm_waitingE hI x hx9).mono (by decide) (by decide) (fun o w1 h => ⟨h.1, u, rfl, ⟨_, h.2⟩⟩)
theorem K_Mm_castings {g : zG} {ad : Nat → Nat} {t : zTT} {u : zNN} {w : zW} (hI : IVm g ad t u w) : zMB g M_Mm_castings [.ref (ad 52)] w (fun o w1 => MKx g ad t u.1 o w1) 10 300 := by
  obtain ⟨s, hI⟩ := hI
  exact (Q_Mm_castings hI).mono (by decide) (by decide) (fun o w1 h => ⟨h.1, u, rfl, ⟨_, h.2⟩⟩)
theorem K_Mm_goodCores {g : zG} {ad : Nat → Nat} {t : zTT} {u : zNN} {w : zW} (hI : IVm g ad t u w) : zMB g M_Mm_goodCores [.ref (ad 52)] w (fun o w1 => MKx g ad t u.1 o w1) 10 300 := by
  obtain ⟨s, hI⟩ := hI
  exact (Q_Mm_goodCores hI).mono (by decide) (by decide) (fun o w1 h => ⟨h.1, u, rfl, ⟨_, h.2⟩⟩)
theorem K_Mm_worst {g : zG} {ad : Nat → Nat} {t : zTT} {u : zNN} {w : zW} (hI : IVm g ad t u w) : zMB g M_Mm_worst [.ref (ad 52)] w (fun o w1 => MKx g ad t u.1 o w1) 10 300 := by
  obtain ⟨s, hI⟩ := hI
  exact (Q_Mm_worst hI).mono (by decide) (by decide) (fun o w1 h => ⟨h.1, u, rfl, ⟨_, h.2⟩⟩)
noncomputable def tK_Ip_weld (x : Int32) (t : zTT) (n : Nat → Nat) : zTT := if x.toNatClampNeg < n 1 ∧ x = nI x.toNatClampNeg then (if (t.2 1 x.toNatClampNeg).1 0 < 20 ∧ (t.2 1 x.toNatClampNeg).1 2 &&& 32 = 0 then (if (t.2 1 x.toNatClampNeg).1 3 = 0 ∧ (t.2 1 x.toNatClampNeg).1 4 = 0 then (t.1, vup t.2 1 x.toNatClampNeg (upd ((t.2 1 x.toNatClampNeg).1) 2 ((t.2 1 x.toNatClampNeg).1 2 &&& (-5)), (t.2 1 x.toNatClampNeg).2)) else t) else t) else t
theorem K_Ip_weld {g : zG} {ad : Nat → Nat} {t : zTT} {u : zNN} {w : zW} (hI : IVm g ad t u w) (x : Int32) : zMB g M_Ip_weld [.ref (ad 0), .int x] w (fun o w1 => CKx g ad (tK_Ip_weld x t u.1) u.1 ["java/lang/IndexOutOfBoundsException", "java/lang/UnsupportedOperationException", "java/lang/IllegalStateException"] o w1) 10 300 := by
  obtain ⟨s, hI⟩ := hI
  by_cases hx : x.toNatClampNeg < u.1 1 ∧ x = nI x.toNatClampNeg
  · obtain ⟨k, hk, rfl⟩ : ∃ k, k < u.1 1 ∧ x = nI k := ⟨_, hx⟩
    have h33 := hI.n5 1 (by decide)
    have ek : (nI k).toNatClampNeg = k := nI_clamp (by omega)
    by_cases h12 : (t.2 1 k).1 0 < 20 ∧ (t.2 1 k).1 2 &&& 32 = 0
    · by_cases h34 : (t.2 1 k).1 3 = 0 ∧ (t.2 1 k).1 4 = 0
      · have eT : tK_Ip_weld (nI k) t u.1 = (t.1, vup t.2 1 k (upd ((t.2 1 k).1) 2 ((t.2 1 k).1 2 &&& (-5)), (t.2 1 k).2)) := by
          unfold tK_Ip_weld
          rw [if_pos hx, ek, if_pos h12, if_pos h34]
        rw [eT]
        exact (Qx_Ip_weldN hI k hk h12.1 h12.2 h34.1 h34.2).mono (by decide) (by decide) (fun o w1 h => ⟨zri.vl h.1, u, rfl, IVm.of h.2 (fun i hi => if_neg hi) rfl⟩)
      · have eT : tK_Ip_weld (nI k) t u.1 = t := by
          unfold tK_Ip_weld
          rw [if_pos hx, ek, if_pos h12, if_neg h34]
        rw [eT]
        exact (Qx_Ip_weldS hI k hk h12.1 h12.2 h34).mono (by decide) (by decide) (fun o w1 h => ⟨zri.th h.1 (by simp), u, rfl, ⟨_, h.2⟩⟩)
    · have eT : tK_Ip_weld (nI k) t u.1 = t := by
        unfold tK_Ip_weld
        rw [if_pos hx, ek, if_neg h12]
      rw [eT]
      exact (Qx_Ip_weldU hI k hk h12).mono (by decide) (by decide) (fun o w1 h => ⟨zri.th h.1 (by simp), u, rfl, ⟨_, h.2⟩⟩)
  · have hx9 : ¬ ∃ k, k < u.1 1 ∧ x = nI k := fun ⟨k, hk, e⟩ => hx (by have h33 := hI.n5 1 (by decide); subst e; rw [nI_clamp (by omega)]; exact ⟨hk, rfl⟩)
    have eT : tK_Ip_weld x t u.1 = t := by
      unfold tK_Ip_weld
      rw [if_neg hx]
    rw [eT]
    exact (Q_Ip_weldE hI x hx9).mono (by decide) (by decide) (fun o w1 h => ⟨h.1.sub (by simp), u, rfl, ⟨_, h.2⟩⟩)
noncomputable def tK_Ip_deliver (x : Int32) (t : zTT) (n : Nat → Nat) : zTT := if x.toNatClampNeg < n 1 ∧ x = nI x.toNatClampNeg then (if (t.2 1 x.toNatClampNeg).1 3 = 0 ∧ (t.2 1 x.toNatClampNeg).1 4 = 0 then (if (t.2 1 x.toNatClampNeg).1 2 = 0 then (t.1, vup t.2 1 x.toNatClampNeg (upd ((t.2 1 x.toNatClampNeg).1) 3 (1), (t.2 1 x.toNatClampNeg).2)) else (t.1, vup t.2 1 x.toNatClampNeg (upd ((t.2 1 x.toNatClampNeg).1) 3 (0), (t.2 1 x.toNatClampNeg).2))) else t) else t
theorem K_Ip_deliver {g : zG} {ad : Nat → Nat} {t : zTT} {u : zNN} {w : zW} (hI : IVm g ad t u w) (x : Int32) : zMB g M_Ip_deliver [.ref (ad 0), .int x] w (fun o w1 => CKx g ad (tK_Ip_deliver x t u.1) u.1 ["java/lang/IndexOutOfBoundsException", "java/lang/IllegalStateException"] o w1) 10 300 := by
  obtain ⟨s, hI⟩ := hI
  by_cases hx : x.toNatClampNeg < u.1 1 ∧ x = nI x.toNatClampNeg
  · obtain ⟨k, hk, rfl⟩ : ∃ k, k < u.1 1 ∧ x = nI k := ⟨_, hx⟩
    have h33 := hI.n5 1 (by decide)
    have ek : (nI k).toNatClampNeg = k := nI_clamp (by omega)
    by_cases h34 : (t.2 1 k).1 3 = 0 ∧ (t.2 1 k).1 4 = 0
    · by_cases h5 : (t.2 1 k).1 2 = 0
      · have eT : tK_Ip_deliver (nI k) t u.1 = (t.1, vup t.2 1 k (upd ((t.2 1 k).1) 3 (1), (t.2 1 k).2)) := by
          unfold tK_Ip_deliver
          rw [if_pos hx, ek, if_pos h34, if_pos h5]
        rw [eT]
        exact (Qx_Ip_deliverY hI k hk h34.1 h34.2 h5).mono (by decide) (by decide) (fun o w1 h => ⟨zri.vl h.1, u, rfl, IVm.of h.2 (fun i hi => if_neg hi) rfl⟩)
      · have eT : tK_Ip_deliver (nI k) t u.1 = (t.1, vup t.2 1 k (upd ((t.2 1 k).1) 3 (0), (t.2 1 k).2)) := by
          unfold tK_Ip_deliver
          rw [if_pos hx, ek, if_pos h34, if_neg h5]
        rw [eT]
        exact (Qx_Ip_deliverN hI k hk h34.1 h34.2 h5).mono (by decide) (by decide) (fun o w1 h => ⟨zri.vl h.1, u, rfl, IVm.of h.2 (fun i hi => if_neg hi) rfl⟩)
    · have eT : tK_Ip_deliver (nI k) t u.1 = t := by
        unfold tK_Ip_deliver
        rw [if_pos hx, ek, if_neg h34]
      rw [eT]
      exact (Qx_Ip_deliverS hI k hk h34).mono (by decide) (by decide) (fun o w1 h => ⟨zri.th h.1 (by simp), u, rfl, ⟨_, h.2⟩⟩)
  · have hx9 : ¬ ∃ k, k < u.1 1 ∧ x = nI k := fun ⟨k, hk, e⟩ => hx (by have h33 := hI.n5 1 (by decide); subst e; rw [nI_clamp (by omega)]; exact ⟨hk, rfl⟩)
    have eT : tK_Ip_deliver x t u.1 = t := by
      unfold tK_Ip_deliver
      rw [if_neg hx]
    rw [eT]
    exact (Q_Ip_deliverE hI x hx9).mono (by decide) (by decide) (fun o w1 h => ⟨h.1.sub (by simp), u, rfl, ⟨_, h.2⟩⟩)
noncomputable def tK_Ip_breakUp (x : Int32) (t : zTT) (n : Nat → Nat) : zTT := if x.toNatClampNeg < n 1 ∧ x = nI x.toNatClampNeg then (if (t.2 1 x.toNatClampNeg).1 3 = 0 ∧ (t.2 1 x.toNatClampNeg).1 4 = 0 then (if (t.2 1 x.toNatClampNeg).1 0 < 20 then (zup t.1 [(45, (upd ((t.1 45).1) 0 ((t.1 45).1 0 + (t.2 1 x.toNatClampNeg).1 5), (t.1 45).2.1, (t.1 45).2.2)), (46, ((t.1 46).1, lfd ((t.1 46).2.1) ((t.2 1 x.toNatClampNeg).2.2.1) 4, (t.1 46).2.2))], vup t.2 1 x.toNatClampNeg (upd ((t.2 1 x.toNatClampNeg).1) 4 (1), (t.2 1 x.toNatClampNeg).2)) else (zup t.1 [(47, (upd ((t.1 47).1) 0 ((t.1 47).1 0 + (t.2 1 x.toNatClampNeg).1 5), (t.1 47).2.1, (t.1 47).2.2)), (48, ((t.1 48).1, lfd ((t.1 48).2.1) ((t.2 1 x.toNatClampNeg).2.2.1) 4, (t.1 48).2.2))], vup t.2 1 x.toNatClampNeg (upd ((t.2 1 x.toNatClampNeg).1) 4 (1), (t.2 1 x.toNatClampNeg).2))) else t) else t
theorem K_Ip_breakUp {g : zG} {ad : Nat → Nat} {t : zTT} {u : zNN} {w : zW} (hI : IVm g ad t u w) (x : Int32) : zMB g M_Ip_breakUp [.ref (ad 0), .int x] w (fun o w1 => CKx g ad (tK_Ip_breakUp x t u.1) u.1 ["java/lang/IndexOutOfBoundsException", "java/lang/IllegalStateException"] o w1) 10 300 := by
  obtain ⟨s, hI⟩ := hI
  by_cases hx : x.toNatClampNeg < u.1 1 ∧ x = nI x.toNatClampNeg
  · obtain ⟨k, hk, rfl⟩ : ∃ k, k < u.1 1 ∧ x = nI k := ⟨_, hx⟩
    have h33 := hI.n5 1 (by decide)
    have ek : (nI k).toNatClampNeg = k := nI_clamp (by omega)
    by_cases h34 : (t.2 1 k).1 3 = 0 ∧ (t.2 1 k).1 4 = 0
    · by_cases h5 : (t.2 1 k).1 0 < 20
      · have eT : tK_Ip_breakUp (nI k) t u.1 = (zup t.1 [(45, (upd ((t.1 45).1) 0 ((t.1 45).1 0 + (t.2 1 k).1 5), (t.1 45).2.1, (t.1 45).2.2)), (46, ((t.1 46).1, lfd ((t.1 46).2.1) ((t.2 1 k).2.2.1) 4, (t.1 46).2.2))], vup t.2 1 k (upd ((t.2 1 k).1) 4 (1), (t.2 1 k).2)) := by
          unfold tK_Ip_breakUp
          rw [if_pos hx, ek, if_pos h34, if_pos h5]
        rw [eT]
        exact (Qx_Ip_breakUpG hI k hk h34.1 h34.2 h5).mono (by decide) (by decide) (fun o w1 h => ⟨zri.vl h.1, u, rfl, IVm.of h.2 (fun i hi => zup_cg (P := fun i => ¬ tx i) (fun i hi => if_neg hi) _ i hi) rfl⟩)
      · have eT : tK_Ip_breakUp (nI k) t u.1 = (zup t.1 [(47, (upd ((t.1 47).1) 0 ((t.1 47).1 0 + (t.2 1 k).1 5), (t.1 47).2.1, (t.1 47).2.2)), (48, ((t.1 48).1, lfd ((t.1 48).2.1) ((t.2 1 k).2.2.1) 4, (t.1 48).2.2))], vup t.2 1 k (upd ((t.2 1 k).1) 4 (1), (t.2 1 k).2)) := by
          unfold tK_Ip_breakUp
          rw [if_pos hx, ek, if_pos h34, if_neg h5]
        rw [eT]
        exact (Qx_Ip_breakUpD hI k hk h34.1 h34.2 h5).mono (by decide) (by decide) (fun o w1 h => ⟨zri.vl h.1, u, rfl, IVm.of h.2 (fun i hi => zup_cg (P := fun i => ¬ tx i) (fun i hi => if_neg hi) _ i hi) rfl⟩)
    · have eT : tK_Ip_breakUp (nI k) t u.1 = t := by
        unfold tK_Ip_breakUp
        rw [if_pos hx, ek, if_neg h34]
      rw [eT]
      exact (Qx_Ip_breakUpS hI k hk h34).mono (by decide) (by decide) (fun o w1 h => ⟨zri.th h.1 (by simp), u, rfl, ⟨_, h.2⟩⟩)
  · have hx9 : ¬ ∃ k, k < u.1 1 ∧ x = nI k := fun ⟨k, hk, e⟩ => hx (by have h33 := hI.n5 1 (by decide); subst e; rw [nI_clamp (by omega)]; exact ⟨hk, rfl⟩)
    have eT : tK_Ip_breakUp x t u.1 = t := by
      unfold tK_Ip_breakUp
      rw [if_neg hx]
    rw [eT]
    exact (Q_Ip_breakUpE hI x hx9).mono (by decide) (by decide) (fun o w1 h => ⟨h.1.sub (by simp), u, rfl, ⟨_, h.2⟩⟩)
noncomputable def tK_Mm_weld (x : Int32) (t : zTT) (n : Nat → Nat) : zTT := if x.toNatClampNeg < n 5 ∧ x = nI x.toNatClampNeg then (if ¬ (t.2 5 x.toNatClampNeg).2.1 4 = 1 ∧ (t.2 5 x.toNatClampNeg).2.1 2 &&& 32 = 0 then (if (t.2 5 x.toNatClampNeg).2.1 5 = 0 then (t.1, vup t.2 5 x.toNatClampNeg ((t.2 5 x.toNatClampNeg).1, upd ((t.2 5 x.toNatClampNeg).2.1) 2 ((t.2 5 x.toNatClampNeg).2.1 2 &&& (-5)), (t.2 5 x.toNatClampNeg).2.2)) else t) else t) else t
theorem K_Mm_weld {g : zG} {ad : Nat → Nat} {t : zTT} {u : zNN} {w : zW} (hI : IVm g ad t u w) (x : Int32) : zMB g M_Mm_weld [.ref (ad 52), .int x] w (fun o w1 => MKx g ad (tK_Mm_weld x t u.1) u.1 o w1) 10 300 := by
  obtain ⟨s, hI⟩ := hI
  by_cases hx : x.toNatClampNeg < u.1 5 ∧ x = nI x.toNatClampNeg
  · obtain ⟨k, hk, rfl⟩ : ∃ k, k < u.1 5 ∧ x = nI k := ⟨_, hx⟩
    have h33 := hI.n5 5 (by decide)
    have ek : (nI k).toNatClampNeg = k := nI_clamp (by omega)
    by_cases h12 : ¬ (t.2 5 k).2.1 4 = 1 ∧ (t.2 5 k).2.1 2 &&& 32 = 0
    · by_cases h3 : (t.2 5 k).2.1 5 = 0
      · have eT : tK_Mm_weld (nI k) t u.1 = (t.1, vup t.2 5 k ((t.2 5 k).1, upd ((t.2 5 k).2.1) 2 ((t.2 5 k).2.1 2 &&& (-5)), (t.2 5 k).2.2)) := by
          unfold tK_Mm_weld
          rw [if_pos hx, ek, if_pos h12, if_pos h3]
        rw [eT]
        exact (Qx_Mm_weldN hI k hk h12.1 h12.2 h3).mono (by decide) (by decide) (fun o w1 h => ⟨⟨_, h.1⟩, u, rfl, IVm.of h.2 (fun i hi => if_neg hi) rfl⟩)
      · have eT : tK_Mm_weld (nI k) t u.1 = t := by
          unfold tK_Mm_weld
          rw [if_pos hx, ek, if_pos h12, if_neg h3]
        rw [eT]
        exact (Qx_Mm_weldS hI k hk h12.1 h12.2 h3).mono (by decide) (by decide) (fun o w1 h => ⟨⟨_, h.1⟩, u, rfl, ⟨_, h.2⟩⟩)
    · have eT : tK_Mm_weld (nI k) t u.1 = t := by
        unfold tK_Mm_weld
        rw [if_pos hx, ek, if_neg h12]
      rw [eT]
      exact (Qx_Mm_weldU hI k hk h12).mono (by decide) (by decide) (fun o w1 h => ⟨⟨_, h.1⟩, u, rfl, ⟨_, h.2⟩⟩)
  · have hx9 : ¬ ∃ k, k < u.1 5 ∧ x = nI k := fun ⟨k, hk, e⟩ => hx (by have h33 := hI.n5 5 (by decide); subst e; rw [nI_clamp (by omega)]; exact ⟨hk, rfl⟩)
    have eT : tK_Mm_weld x t u.1 = t := by
      unfold tK_Mm_weld
      rw [if_neg hx]
    rw [eT]
    exact (Q_Mm_weldE hI x hx9).mono (by decide) (by decide) (fun o w1 h => ⟨h.1, u, rfl, ⟨_, h.2⟩⟩)
noncomputable def tK_Mm_deliver (x : Int32) (t : zTT) (n : Nat → Nat) : zTT := if x.toNatClampNeg < n 5 ∧ x = nI x.toNatClampNeg then (if (t.2 5 x.toNatClampNeg).2.1 5 = 0 then (if (t.2 5 x.toNatClampNeg).2.1 2 = 0 then (zup t.1 [(52, ((t.1 52).1, (vp_updL ((t.1 52).2.1) 1 ((t.1 52).2.1 1 + ((t.2 5 x.toNatClampNeg).2.1 0).toInt64)), (t.1 52).2.2))], vup t.2 5 x.toNatClampNeg ((t.2 5 x.toNatClampNeg).1, upd ((t.2 5 x.toNatClampNeg).2.1) 5 (1), (t.2 5 x.toNatClampNeg).2.2)) else t) else t) else t
theorem K_Mm_deliver {g : zG} {ad : Nat → Nat} {t : zTT} {u : zNN} {w : zW} (hI : IVm g ad t u w) (x : Int32) : zMB g M_Mm_deliver [.ref (ad 52), .int x] w (fun o w1 => MKx g ad (tK_Mm_deliver x t u.1) u.1 o w1) 10 300 := by
  obtain ⟨s, hI⟩ := hI
  by_cases hx : x.toNatClampNeg < u.1 5 ∧ x = nI x.toNatClampNeg
  · obtain ⟨k, hk, rfl⟩ : ∃ k, k < u.1 5 ∧ x = nI k := ⟨_, hx⟩
    have h33 := hI.n5 5 (by decide)
    have ek : (nI k).toNatClampNeg = k := nI_clamp (by omega)
    by_cases h3 : (t.2 5 k).2.1 5 = 0
    · by_cases h2 : (t.2 5 k).2.1 2 = 0
      · have eT : tK_Mm_deliver (nI k) t u.1 = (zup t.1 [(52, ((t.1 52).1, (vp_updL ((t.1 52).2.1) 1 ((t.1 52).2.1 1 + ((t.2 5 k).2.1 0).toInt64)), (t.1 52).2.2))], vup t.2 5 k ((t.2 5 k).1, upd ((t.2 5 k).2.1) 5 (1), (t.2 5 k).2.2)) := by
          unfold tK_Mm_deliver
          rw [if_pos hx, ek, if_pos h3, if_pos h2]
        rw [eT]
        exact (Qx_Mm_deliverY hI k hk h3 h2).mono (by decide) (by decide) (fun o w1 h => ⟨⟨_, h.1⟩, u, rfl, IVm.of h.2 (fun i hi => zup_cg (P := fun i => ¬ tx i) (fun i hi => if_neg hi) _ i hi) rfl⟩)
      · have eT : tK_Mm_deliver (nI k) t u.1 = t := by
          unfold tK_Mm_deliver
          rw [if_pos hx, ek, if_pos h3, if_neg h2]
        rw [eT]
        exact (Qx_Mm_deliverN hI k hk h3 h2).mono (by decide) (by decide) (fun o w1 h => ⟨⟨_, h.1⟩, u, rfl, ⟨_, h.2⟩⟩)
    · have eT : tK_Mm_deliver (nI k) t u.1 = t := by
        unfold tK_Mm_deliver
        rw [if_pos hx, ek, if_neg h3]
      rw [eT]
      exact (Qx_Mm_deliverS hI k hk h3).mono (by decide) (by decide) (fun o w1 h => ⟨⟨_, h.1⟩, u, rfl, ⟨_, h.2⟩⟩)
  · have hx9 : ¬ ∃ k, k < u.1 5 ∧ x = nI k := fun ⟨k, hk, e⟩ => hx (by have h33 := hI.n5 5 (by decide); subst e; rw [nI_clamp (by omega)]; exact ⟨hk, rfl⟩)
    have eT : tK_Mm_deliver x t u.1 = t := by
      unfold tK_Mm_deliver
      rw [if_neg hx]
    rw [eT]
    exact (Q_Mm_deliverE hI x hx9).mono (by decide) (by decide) (fun o w1 h => ⟨h.1, u, rfl, ⟨_, h.2⟩⟩)
noncomputable def tK_Mm_breakUp (x : Int32) (t : zTT) (n : Nat → Nat) : zTT := if x.toNatClampNeg < n 5 ∧ x = nI x.toNatClampNeg then (if (t.2 5 x.toNatClampNeg).2.1 5 = 0 then (if (t.2 5 x.toNatClampNeg).2.1 4 = 1 then buT t x.toNatClampNeg 3 4 else buT t x.toNatClampNeg 2 4) else t) else t
theorem K_Mm_breakUp {g : zG} {ad : Nat → Nat} {t : zTT} {u : zNN} {w : zW} (hI : IVm g ad t u w) (x : Int32) : zMB g M_Mm_breakUp [.ref (ad 52), .int x] w (fun o w1 => MKx g ad (tK_Mm_breakUp x t u.1) u.1 o w1) 10 300 := by
  obtain ⟨s, hI⟩ := hI
  by_cases hx : x.toNatClampNeg < u.1 5 ∧ x = nI x.toNatClampNeg
  · obtain ⟨k, hk, rfl⟩ : ∃ k, k < u.1 5 ∧ x = nI k := ⟨_, hx⟩
    have h33 := hI.n5 5 (by decide)
    have ek : (nI k).toNatClampNeg = k := nI_clamp (by omega)
    by_cases h3 : (t.2 5 k).2.1 5 = 0
    · by_cases h4 : (t.2 5 k).2.1 4 = 1
      · have eT : tK_Mm_breakUp (nI k) t u.1 = buT t k 3 4 := by
          unfold tK_Mm_breakUp
          rw [if_pos hx, ek, if_pos h3, if_pos h4]
        rw [eT]
        exact (Qx_Mm_breakUpD hI k hk h3 h4).mono (by decide) (by decide) (fun o w1 h => ⟨⟨_, h.1⟩, u, rfl, IVm.of h.2 (fun i hi => zup_cg (P := fun i => ¬ tx i) (fun i hi => if_neg hi) _ i hi) rfl⟩)
      · have eT : tK_Mm_breakUp (nI k) t u.1 = buT t k 2 4 := by
          unfold tK_Mm_breakUp
          rw [if_pos hx, ek, if_pos h3, if_neg h4]
        rw [eT]
        exact (Qx_Mm_breakUpG hI k hk h3 h4).mono (by decide) (by decide) (fun o w1 h => ⟨⟨_, h.1⟩, u, rfl, IVm.of h.2 (fun i hi => zup_cg (P := fun i => ¬ tx i) (fun i hi => if_neg hi) _ i hi) rfl⟩)
    · have eT : tK_Mm_breakUp (nI k) t u.1 = t := by
        unfold tK_Mm_breakUp
        rw [if_pos hx, ek, if_neg h3]
      rw [eT]
      exact (Qx_Mm_breakUpS hI k hk h3).mono (by decide) (by decide) (fun o w1 h => ⟨⟨_, h.1⟩, u, rfl, ⟨_, h.2⟩⟩)
  · have hx9 : ¬ ∃ k, k < u.1 5 ∧ x = nI k := fun ⟨k, hk, e⟩ => hx (by have h33 := hI.n5 5 (by decide); subst e; rw [nI_clamp (by omega)]; exact ⟨hk, rfl⟩)
    have eT : tK_Mm_breakUp x t u.1 = t := by
      unfold tK_Mm_breakUp
      rw [if_neg hx]
    rw [eT]
    exact (Q_Mm_breakUpE hI x hx9).mono (by decide) (by decide) (fun o w1 h => ⟨h.1, u, rfl, ⟨_, h.2⟩⟩)
noncomputable def tK_Ip_minutes (x : Int32) (t : zTT) (n : Nat → Nat) : zTT := if 1 ≤ x ∧ x ≤ 60 then elT 0 (wtV9 x) (fdT t x.toNatClampNeg) (n 0) else t
theorem K_Ip_minutes {g : zG} {ad : Nat → Nat} {t : zTT} {u : zNN} {w : zW} (hI : IVm g ad t u w) (x : Int32) : zMB g M_Ip_minutes [.ref (ad 0), .int x] w (fun o w1 => CKx g ad (tK_Ip_minutes x t u.1) u.1 ["java/lang/IllegalArgumentException"] o w1) 10 300 := by
  obtain ⟨s, hI⟩ := hI
  by_cases hw : 1 ≤ x ∧ x ≤ 60
  · obtain ⟨a9, ha9, e9⟩ := z_in20 (b := 60) (by decide) ⟨Int32.le_trans (by decide) hw.1, hw.2⟩
    subst e9
    have ek : (nI a9).toNatClampNeg = a9 := nI_clamp (by omega)
    have eT : tK_Ip_minutes (nI a9) t u.1 = elT 0 (wtV9 (nI a9)) (fdT t a9) (u.1 0) := by
      unfold tK_Ip_minutes
      rw [if_pos hw, ek]
    rw [eT]
    exact (Qx_Ip_minutesN hI a9 ha9 hw).mono (by decide) (by decide) (fun o w1 h => ⟨zri.vl h.1, u, rfl, IVm.of h.2 (fun i hi => zup_cg (P := fun i => ¬ tx i) (fun i hi => if_neg hi) _ i hi) rfl⟩)
  · have eT : tK_Ip_minutes x t u.1 = t := by
      unfold tK_Ip_minutes
      rw [if_neg hw]
    rw [eT]
    exact (Q_Ip_minutesE hI x hw).mono (by decide) (by decide) (fun o w1 h => ⟨h.1.sub (by simp), u, rfl, ⟨_, h.2⟩⟩)
noncomputable def tK_Mm_minutes (x : Int32) (t : zTT) (n : Nat → Nat) : zTT := if 1 ≤ x ∧ x ≤ 60 then elT 4 (nuV9 x) (if (t.1 63).1 1 ≤ 0 then t else fmT t x.toNatClampNeg) (n 4) else t
theorem K_Mm_minutes {g : zG} {ad : Nat → Nat} {t : zTT} {u : zNN} {w : zW} (hI : IVm g ad t u w) (x : Int32) : zMB g M_Mm_minutes [.ref (ad 52), .int x] w (fun o w1 => MKx g ad (tK_Mm_minutes x t u.1) u.1 o w1) 10 300 := by
  obtain ⟨s, hI⟩ := hI
  by_cases hw : 1 ≤ x ∧ x ≤ 60
  · obtain ⟨a9, ha9, e9⟩ := z_in20 (b := 60) (by decide) ⟨Int32.le_trans (by decide) hw.1, hw.2⟩
    subst e9
    have ek : (nI a9).toNatClampNeg = a9 := nI_clamp (by omega)
    by_cases h1 : (t.1 63).1 1 ≤ 0
    · have eT : tK_Mm_minutes (nI a9) t u.1 = elT 4 (nuV9 (nI a9)) t (u.1 4) := by
        unfold tK_Mm_minutes
        rw [if_pos hw, if_pos h1]
      rw [eT]
      exact (Qx_Mm_minutesA hI a9 ha9 hw h1).mono (by decide) (by decide) (fun o w1 h => ⟨⟨_, h.1⟩, u, rfl, IVm.of h.2 (fun i hi => if_neg hi) rfl⟩)
    · have eT : tK_Mm_minutes (nI a9) t u.1 = elT 4 (nuV9 (nI a9)) (fmT t a9) (u.1 4) := by
        unfold tK_Mm_minutes
        rw [if_pos hw, if_neg h1, ek]
      rw [eT]
      exact (Qx_Mm_minutesB hI a9 ha9 hw h1).mono (by decide) (by decide) (fun o w1 h => ⟨⟨_, h.1⟩, u, rfl, IVm.of h.2 (fun i hi => zup_cg (P := fun i => ¬ tx i) (fun i hi => if_neg hi) _ i hi) rfl⟩)
  · have eT : tK_Mm_minutes x t u.1 = t := by
      unfold tK_Mm_minutes
      rw [if_neg hw]
    rw [eT]
    exact (Q_Mm_minutesE hI x hw).mono (by decide) (by decide) (fun o w1 h => ⟨h.1, u, rfl, ⟨_, h.2⟩⟩)
noncomputable def tK_Ip_mould (t : zTT) (n : Nat → Nat) : zTT := (if ¬ fa_cnt (fun k => decide (((t.1 2).1) k = 103)) 12 = 0 ∧ anB (fun k => decide (((t.1 2).1) k = 99)) 108 = true then (if nI (coN ((t.1 2).1)) ≤ gdN t then (if n 0 < 10 then mdT t (n 0) else t) else t) else t)
noncomputable def nK_Ip_mould (t : zTT) (n : Nat → Nat) : Nat → Nat := (if ¬ fa_cnt (fun k => decide (((t.1 2).1) k = 103)) 12 = 0 ∧ anB (fun k => decide (((t.1 2).1) k = 99)) 108 = true then (if nI (coN ((t.1 2).1)) ≤ gdN t then (if n 0 < 10 then z_upL n 0 (n 0 + 1) else n) else n) else n)
theorem K_Ip_mould {g : zG} {ad : Nat → Nat} {t : zTT} {u : zNN} {w : zW} (hI : IVm g ad t u w) : zMB g M_Ip_mould [.ref (ad 0)] w (fun o w1 => CKx g ad (tK_Ip_mould t u.1) (nK_Ip_mould t u.1) ["java/util/NoSuchElementException", "java/lang/UnsupportedOperationException", "java/lang/IllegalStateException"] o w1) 10 300 := by
  obtain ⟨s, hI⟩ := hI
  by_cases hgc : ¬ fa_cnt (fun k => decide (((t.1 2).1) k = 103)) 12 = 0 ∧ anB (fun k => decide (((t.1 2).1) k = 99)) 108 = true
  · by_cases hn : nI (coN ((t.1 2).1)) ≤ gdN t
    · by_cases hs : u.1 0 < 10
      · have eT : tK_Ip_mould t u.1 = mdT t (u.1 0) := by
          unfold tK_Ip_mould
          rw [if_pos hgc, if_pos hn, if_pos hs]
        have eN : nK_Ip_mould t u.1 = z_upL u.1 0 (u.1 0 + 1) := by
          unfold nK_Ip_mould
          rw [if_pos hgc, if_pos hn, if_pos hs]
        rw [eT, eN]
        exact (Qx_Ip_mouldN hI hgc.1 hgc.2 hn hs u.1 rfl).mono (by decide) (by decide) (fun o w1 h => by obtain ⟨h1, u2, h2, h3⟩ := h; exact ⟨zri.vl h1, u2, h2, IVm.of h3 (fun i hi => zup_cg (P := fun i => ¬ tx i) (fun i hi => zup_cg (P := fun i => ¬ tx i) (fun i hi => if_neg hi) _ i hi) _ i hi) rfl⟩)
      · have eT : tK_Ip_mould t u.1 = t := by
          unfold tK_Ip_mould
          rw [if_pos hgc, if_pos hn, if_neg hs]
        have eN : nK_Ip_mould t u.1 = u.1 := by
          unfold nK_Ip_mould
          rw [if_pos hgc, if_pos hn, if_neg hs]
        rw [eT, eN]
        exact (Qx_Ip_mouldC hI hgc.1 hgc.2 hn hs).mono (by decide) (by decide) (fun o w1 h => ⟨zri.th h.1 (by simp), u, rfl, ⟨_, h.2⟩⟩)
    · have eT : tK_Ip_mould t u.1 = t := by
        unfold tK_Ip_mould
        rw [if_pos hgc, if_neg hn]
      have eN : nK_Ip_mould t u.1 = u.1 := by
        unfold nK_Ip_mould
        rw [if_pos hgc, if_neg hn]
      rw [eT, eN]
      exact (Qx_Ip_mouldB hI hgc.1 hgc.2 hn).mono (by decide) (by decide) (fun o w1 h => ⟨zri.th h.1 (by simp), u, rfl, ⟨_, h.2⟩⟩)
  · have eT : tK_Ip_mould t u.1 = t := by
      unfold tK_Ip_mould
      rw [if_neg hgc]
    have eN : nK_Ip_mould t u.1 = u.1 := by
      unfold nK_Ip_mould
      rw [if_neg hgc]
    rw [eT, eN]
    exact (Qx_Ip_mouldE hI ((Classical.not_and_iff_not_or_not.mp hgc).imp Classical.not_not.mp (fun e => Bool.eq_false_iff.mpr e))).mono (by decide) (by decide) (fun o w1 h => ⟨zri.th h.1 (by simp), u, rfl, ⟨_, h.2⟩⟩)
noncomputable def tK_Ip_pour (X9 : zTr) (t : zTT) (n : Nat → Nat) : zTT := (if ¬ n 0 = 0 then (if ¬ (t.1 43).1 0 = 0 ∧ 1250 ≤ (t.1 42).1 0 then (if n 1 < 30 then poT t X9 (n 1) else t) else t) else t)
noncomputable def nK_Ip_pour (t : zTT) (n : Nat → Nat) : Nat → Nat := (if ¬ n 0 = 0 then (if ¬ (t.1 43).1 0 = 0 ∧ 1250 ≤ (t.1 42).1 0 then (if n 1 < 30 then z_upL (z_upL n 0 (n 0 - 1)) 1 (n 1 + 1) else n) else n) else n)
theorem K_Ip_pour {g : zG} {ad : Nat → Nat} {t : zTT} {u : zNN} {w : zW} (hI : IVm g ad t u w) : zMB g M_Ip_pour [.ref (ad 0)] w (fun o w1 => ∃ (X9 : zTr), CKx g ad (tK_Ip_pour X9 t u.1) (nK_Ip_pour t u.1) ["java/util/NoSuchElementException", "java/lang/IllegalStateException", "java/lang/UnsupportedOperationException"] o w1) 10 300 := by
  obtain ⟨s, hI⟩ := hI
  by_cases h0 : ¬ u.1 0 = 0
  · by_cases h12 : ¬ (t.1 43).1 0 = 0 ∧ 1250 ≤ (t.1 42).1 0
    · by_cases h3 : u.1 1 < 30
      · refine (Qx_Ip_pourN hI h0 h12.1 h12.2 h3 u.1 rfl).mono (by decide) (by decide) (fun o w1 h => ?_)
        obtain ⟨X9, h1, u2, h2, h4⟩ := h
        have eT : tK_Ip_pour X9 t u.1 = poT t X9 (u.1 1) := by
          unfold tK_Ip_pour
          rw [if_pos h0, if_pos h12, if_pos h3]
        have eN : nK_Ip_pour t u.1 = z_upL (z_upL u.1 0 (u.1 0 - 1)) 1 (u.1 1 + 1) := by
          unfold nK_Ip_pour
          rw [if_pos h0, if_pos h12, if_pos h3]
        refine ⟨X9, ?_⟩
        rw [eT, eN]
        exact ⟨zri.vl h1, u2, h2, IVm.of h4 (fun i hi => zup_cg (P := fun i => ¬ tx i) (fun i hi => if_neg hi) _ i hi) rfl⟩
      · refine (Qx_Ip_pourG hI h0 h12.1 h12.2 h3).mono (by decide) (by decide) (fun o w1 h => ⟨zX0, ?_⟩)
        have eT : tK_Ip_pour zX0 t u.1 = t := by
          unfold tK_Ip_pour
          rw [if_pos h0, if_pos h12, if_neg h3]
        have eN : nK_Ip_pour t u.1 = u.1 := by
          unfold nK_Ip_pour
          rw [if_pos h0, if_pos h12, if_neg h3]
        rw [eT, eN]
        exact ⟨zri.th h.1 (by simp), u, rfl, ⟨_, h.2⟩⟩
    · refine (Qx_Ip_pourF hI h0 h12).mono (by decide) (by decide) (fun o w1 h => ⟨zX0, ?_⟩)
      have eT : tK_Ip_pour zX0 t u.1 = t := by
        unfold tK_Ip_pour
        rw [if_pos h0, if_neg h12]
      have eN : nK_Ip_pour t u.1 = u.1 := by
        unfold nK_Ip_pour
        rw [if_pos h0, if_neg h12]
      rw [eT, eN]
      exact ⟨zri.th h.1 (by simp), u, rfl, ⟨_, h.2⟩⟩
  · refine (Qx_Ip_pourE hI (Classical.not_not.mp h0)).mono (by decide) (by decide) (fun o w1 h => ⟨zX0, ?_⟩)
    have eT : tK_Ip_pour zX0 t u.1 = t := by
      unfold tK_Ip_pour
      rw [if_neg h0]
    have eN : nK_Ip_pour t u.1 = u.1 := by
      unfold nK_Ip_pour
      rw [if_neg h0]
    rw [eT, eN]
    exact ⟨zri.th h.1 (by simp), u, rfl, ⟨_, h.2⟩⟩
noncomputable def tK_Mm_hours (x : Int32) (t : zTT) (n : Nat → Nat) : zTT := if 1 ≤ x ∧ x ≤ 48 then tls (hrT t x) 2 (hrF t x (n 2)).2.1 else t
noncomputable def nK_Mm_hours (x : Int32) (t : zTT) (n : Nat → Nat) : Nat → Nat := if 1 ≤ x ∧ x ≤ 48 then z_upL n 2 (hrF t x (n 2)).1 else n
theorem K_Mm_hours {g : zG} {ad : Nat → Nat} {t : zTT} {u : zNN} {w : zW} (hI : IVm g ad t u w) (x : Int32) : zMB g M_Mm_hours [.ref (ad 52), .int x] w (fun o w1 => MKx g ad (tK_Mm_hours x t u.1) (nK_Mm_hours x t u.1) o w1) 10 300 := by
  obtain ⟨s, hI⟩ := hI
  by_cases hw : 1 ≤ x ∧ x ≤ 48
  · have eT : tK_Mm_hours x t u.1 = tls (hrT t x) 2 (hrF t x (u.1 2)).2.1 := by
      unfold tK_Mm_hours
      rw [if_pos hw]
    have eN : nK_Mm_hours x t u.1 = z_upL u.1 2 (hrF t x (u.1 2)).1 := by
      unfold nK_Mm_hours
      rw [if_pos hw]
    rw [eT, eN]
    exact (Qx_Mm_hoursN hI x hw u.1 rfl).mono (by decide) (by decide) (fun o w1 h => by obtain ⟨h1, u2, h2, h3⟩ := h; exact ⟨⟨_, h1⟩, u2, h2, IVm.of h3 (fun i hi => zup_cg (P := fun i => ¬ tx i) (fun i hi => if_neg hi) _ i hi) rfl⟩)
  · have eT : tK_Mm_hours x t u.1 = t := by
      unfold tK_Mm_hours
      rw [if_neg hw]
    have eN : nK_Mm_hours x t u.1 = u.1 := by
      unfold nK_Mm_hours
      rw [if_neg hw]
    rw [eT, eN]
    exact (Qx_Mm_hoursE hI x hw).mono (by decide) (by decide) (fun o w1 h => ⟨⟨_, h.1⟩, u, rfl, ⟨_, h.2⟩⟩)
noncomputable def tK_Mm_makeCores (c k : Int32) (t : zTT) (n : Nat → Nat) : zTT := (if (1 ≤ c ∧ c ≤ 10) ∧ (1 ≤ k ∧ k ≤ 24) then (if ¬ n 2 = 20 then tls t 2 (z_apV (t.2 2) (n 2) (mkV c ((t.1 52).1 5 + k))) else t) else t)
noncomputable def nK_Mm_makeCores (c k : Int32) (t : zTT) (n : Nat → Nat) : Nat → Nat := (if (1 ≤ c ∧ c ≤ 10) ∧ (1 ≤ k ∧ k ≤ 24) then (if ¬ n 2 = 20 then z_upL n 2 (n 2 + 1) else n) else n)
theorem K_Mm_makeCores {g : zG} {ad : Nat → Nat} {t : zTT} {u : zNN} {w : zW} (hI : IVm g ad t u w) (c k : Int32) : zMB g M_Mm_makeCores [.ref (ad 52), .int c, .int k] w (fun o w1 => MKx g ad (tK_Mm_makeCores c k t u.1) (nK_Mm_makeCores c k t u.1) o w1) 10 300 := by
  obtain ⟨s, hI⟩ := hI
  by_cases hw : (1 ≤ c ∧ c ≤ 10) ∧ (1 ≤ k ∧ k ≤ 24)
  · by_cases hf : ¬ u.1 2 = 20
    · have eT : tK_Mm_makeCores c k t u.1 = tls t 2 (z_apV (t.2 2) (u.1 2) (mkV c ((t.1 52).1 5 + k))) := by
        unfold tK_Mm_makeCores
        rw [if_pos hw, if_pos hf]
      have eN : nK_Mm_makeCores c k t u.1 = z_upL u.1 2 (u.1 2 + 1) := by
        unfold nK_Mm_makeCores
        rw [if_pos hw, if_pos hf]
      rw [eT, eN]
      exact (Qx_Mm_makeCoresN hI c k hw hf u.1 rfl).mono (by decide) (by decide) (fun o w1 h => by obtain ⟨h1, u2, h2, h3⟩ := h; exact ⟨h1, u2, h2, IVm.of h3 (fun i hi => if_neg hi) rfl⟩)
    · have eT : tK_Mm_makeCores c k t u.1 = t := by
        unfold tK_Mm_makeCores
        rw [if_pos hw, if_neg hf]
      have eN : nK_Mm_makeCores c k t u.1 = u.1 := by
        unfold nK_Mm_makeCores
        rw [if_pos hw, if_neg hf]
      rw [eT, eN]
      exact (Qx_Mm_makeCoresF hI c k hw (Classical.not_not.mp hf)).mono (by decide) (by decide) (fun o w1 h => ⟨⟨_, h.1⟩, u, rfl, ⟨_, h.2⟩⟩)
  · have eT : tK_Mm_makeCores c k t u.1 = t := by
      unfold tK_Mm_makeCores
      rw [if_neg hw]
    have eN : nK_Mm_makeCores c k t u.1 = u.1 := by
      unfold nK_Mm_makeCores
      rw [if_neg hw]
    rw [eT, eN]
    exact (Qx_Mm_makeCoresE hI c k hw).mono (by decide) (by decide) (fun o w1 h => ⟨⟨_, h.1⟩, u, rfl, ⟨_, h.2⟩⟩)
noncomputable def tK_Mm_mould (t : zTT) (n : Nat → Nat) : zTT := (if ¬ fa_cnt (fun k => decide (((t.1 53).1) k = 103)) 12 = 0 ∧ anB (fun k => decide (((t.1 53).1) k = 99)) 108 = true then (if nI (coN ((t.1 53).1)) ≤ gdS ((t.1 52).1 5) (t.2 2) (n 2) then (if ¬ n 3 = 10 then mmT t n else t) else t) else t)
noncomputable def nK_Mm_mould (t : zTT) (n : Nat → Nat) : Nat → Nat := (if ¬ fa_cnt (fun k => decide (((t.1 53).1) k = 103)) 12 = 0 ∧ anB (fun k => decide (((t.1 53).1) k = 99)) 108 = true then (if nI (coN ((t.1 53).1)) ≤ gdS ((t.1 52).1 5) (t.2 2) (n 2) then (if ¬ n 3 = 10 then z_upL (z_upL (z_upL n 3 (n 3 + 1)) 4 (n 4 + 1)) 2 (mmF t n).1 else n) else n) else n)
theorem K_Mm_mould {g : zG} {ad : Nat → Nat} {t : zTT} {u : zNN} {w : zW} (hI : IVm g ad t u w) : zMB g M_Mm_mould [.ref (ad 52)] w (fun o w1 => MKx g ad (tK_Mm_mould t u.1) (nK_Mm_mould t u.1) o w1) 10 300 := by
  obtain ⟨s, hI⟩ := hI
  by_cases hgc : ¬ fa_cnt (fun k => decide (((t.1 53).1) k = 103)) 12 = 0 ∧ anB (fun k => decide (((t.1 53).1) k = 99)) 108 = true
  · by_cases hn : nI (coN ((t.1 53).1)) ≤ gdS ((t.1 52).1 5) (t.2 2) (u.1 2)
    · by_cases hs : ¬ u.1 3 = 10
      · have eT : tK_Mm_mould t u.1 = mmT t u.1 := by
          unfold tK_Mm_mould
          rw [if_pos hgc, if_pos hn, if_pos hs]
        have eN : nK_Mm_mould t u.1 = z_upL (z_upL (z_upL u.1 3 (u.1 3 + 1)) 4 (u.1 4 + 1)) 2 (mmF t u.1).1 := by
          unfold nK_Mm_mould
          rw [if_pos hgc, if_pos hn, if_pos hs]
        rw [eT, eN]
        exact (Qx_Mm_mouldN hI hgc.1 hgc.2 hn hs u.1 rfl).mono (by decide) (by decide) (fun o w1 h => by obtain ⟨h1, u2, h2, h3⟩ := h; exact ⟨⟨_, h1⟩, u2, h2, IVm.of h3 (fun i hi => zup_cg (P := fun i => ¬ tx i) (fun i hi => if_neg hi) _ i hi) rfl⟩)
      · have eT : tK_Mm_mould t u.1 = t := by
          unfold tK_Mm_mould
          rw [if_pos hgc, if_pos hn, if_neg hs]
        have eN : nK_Mm_mould t u.1 = u.1 := by
          unfold nK_Mm_mould
          rw [if_pos hgc, if_pos hn, if_neg hs]
        rw [eT, eN]
        exact (Qx_Mm_mouldC hI hgc.1 hgc.2 hn (Classical.not_not.mp hs)).mono (by decide) (by decide) (fun o w1 h => ⟨⟨_, h.1⟩, u, rfl, ⟨_, h.2⟩⟩)
    · have eT : tK_Mm_mould t u.1 = t := by
        unfold tK_Mm_mould
        rw [if_pos hgc, if_neg hn]
      have eN : nK_Mm_mould t u.1 = u.1 := by
        unfold nK_Mm_mould
        rw [if_pos hgc, if_neg hn]
      rw [eT, eN]
      exact (Qx_Mm_mouldB hI hgc.1 hgc.2 hn).mono (by decide) (by decide) (fun o w1 h => ⟨⟨_, h.1⟩, u, rfl, ⟨_, h.2⟩⟩)
  · have eT : tK_Mm_mould t u.1 = t := by
      unfold tK_Mm_mould
      rw [if_neg hgc]
    have eN : nK_Mm_mould t u.1 = u.1 := by
      unfold nK_Mm_mould
      rw [if_neg hgc]
    rw [eT, eN]
    exact (Qx_Mm_mouldA hI hgc).mono (by decide) (by decide) (fun o w1 h => ⟨⟨_, h.1⟩, u, rfl, ⟨_, h.2⟩⟩)
noncomputable def tK_Mm_pour (S9 : zSC) (t : zTT) (n : Nat → Nat) : zTT := (if ¬ n 3 = 0 then (if ¬ (t.1 63).1 1 = 0 ∧ 1250 ≤ (t.1 52).1 6 then (if ¬ n 5 = 30 then pmT t (n 5) (n 6) (pShS t S9) (pFbS t S9) else t) else t) else t)
noncomputable def nK_Mm_pour (t : zTT) (n : Nat → Nat) : Nat → Nat := (if ¬ n 3 = 0 then (if ¬ (t.1 63).1 1 = 0 ∧ 1250 ≤ (t.1 52).1 6 then (if ¬ n 5 = 30 then z_upL (z_upL (z_upL (z_upL n 3 (n 3 - 1)) 4 (n 4 - 1)) 5 (n 5 + 1)) 6 (n 6 + 1) else n) else n) else n)
theorem K_Mm_pour {g : zG} {ad : Nat → Nat} {t : zTT} {u : zNN} {w : zW} (hI : IVm g ad t u w) : zMB g M_Mm_pour [.ref (ad 52)] w (fun o w1 => ∃ (S9 : zSC), MKx g ad (tK_Mm_pour S9 t u.1) (nK_Mm_pour t u.1) o w1) 10 300 := by
  obtain ⟨s, hI⟩ := hI
  by_cases h0 : ¬ u.1 3 = 0
  · by_cases h12 : ¬ (t.1 63).1 1 = 0 ∧ 1250 ≤ (t.1 52).1 6
    · by_cases h3 : ¬ u.1 5 = 30
      · refine (Qx_Mm_pourN hI h0 h12.1 h12.2 h3 u.1 rfl).mono (by decide) (by decide) (fun o w1 h => ?_)
        obtain ⟨a1, a2, a3, a4, a5, a6, a7, h1, u2, h2, h4⟩ := h
        have eT : tK_Mm_pour (a1, a2, a3, a4, a5, a6, a7) t u.1 = pmT t (u.1 5) (u.1 6) (pShS t (a1, a2, a3, a4, a5, a6, a7)) (pFbS t (a1, a2, a3, a4, a5, a6, a7)) := by
          unfold tK_Mm_pour
          rw [if_pos h0, if_pos h12, if_pos h3]
        have eN : nK_Mm_pour t u.1 = z_upL (z_upL (z_upL (z_upL u.1 3 (u.1 3 - 1)) 4 (u.1 4 - 1)) 5 (u.1 5 + 1)) 6 (u.1 6 + 1) := by
          unfold nK_Mm_pour
          rw [if_pos h0, if_pos h12, if_pos h3]
        refine ⟨(a1, a2, a3, a4, a5, a6, a7), ?_⟩
        rw [eT, eN]
        exact ⟨⟨_, h1⟩, u2, h2, IVm.of h4 (fun i hi => zup_cg (P := fun i => ¬ tx i) (fun i hi => if_neg hi) _ i hi) rfl⟩
      · refine (Qx_Mm_pourG hI h0 h12.1 h12.2 (Classical.not_not.mp h3)).mono (by decide) (by decide) (fun o w1 h => ⟨zS0, ?_⟩)
        have eT : tK_Mm_pour zS0 t u.1 = t := by
          unfold tK_Mm_pour
          rw [if_pos h0, if_pos h12, if_neg h3]
        have eN : nK_Mm_pour t u.1 = u.1 := by
          unfold nK_Mm_pour
          rw [if_pos h0, if_pos h12, if_neg h3]
        rw [eT, eN]
        exact ⟨⟨_, h.1⟩, u, rfl, ⟨_, h.2⟩⟩
    · refine (Qx_Mm_pourF hI h0 h12).mono (by decide) (by decide) (fun o w1 h => ⟨zS0, ?_⟩)
      have eT : tK_Mm_pour zS0 t u.1 = t := by
        unfold tK_Mm_pour
        rw [if_pos h0, if_neg h12]
      have eN : nK_Mm_pour t u.1 = u.1 := by
        unfold nK_Mm_pour
        rw [if_pos h0, if_neg h12]
      rw [eT, eN]
      exact ⟨⟨_, h.1⟩, u, rfl, ⟨_, h.2⟩⟩
  · refine (Qx_Mm_pourE hI (Classical.not_not.mp h0)).mono (by decide) (by decide) (fun o w1 h => ⟨zS0, ?_⟩)
    have eT : tK_Mm_pour zS0 t u.1 = t := by
      unfold tK_Mm_pour
      rw [if_neg h0]
    have eN : nK_Mm_pour t u.1 = u.1 := by
      unfold nK_Mm_pour
      rw [if_neg h0]
    rw [eT, eN]
    exact ⟨⟨_, h.1⟩, u, rfl, ⟨_, h.2⟩⟩
set_option maxHeartbeats 4000000 in
theorem Qx_Mm_delivered {g : zG} {ad : Nat → Nat} {t : zTT} {u : zNN} {w : zW} (hI : IV g ad t u w) : zMB g M_Mm_delivered [.ref (ad 52)] w (fun o w1 => o = .inl (some (.long ((t.1 52).2.1 1))) ∧ IV g ad t u w1) 0 0 := by
  obtain ⟨e_m, w_m, k_m⟩ := hI.1.2 52 (by decide)
  obtain ⟨v_m_th, rfl⟩ := kd_52.mp k_m
  refine ((C_Mm_delivered g (ad 52) (ad 53) (ad 54) (ad 55) (ad 56) (ad 57) (ad 58) (ad 59) (ad 60) (ad 61) (ad 62) (ad 63) (ad 64) (ad 65) (ad 66) (ad 67) (ad 68) v_m_th (nI ((t.1 52).2.2 0)) ((t.1 52).1 0) ((t.1 52).1 1) ((t.1 52).1 2) ((t.1 52).1 3) ((t.1 52).1 4) ((t.1 52).1 5) ((t.1 52).1 6) ((t.1 52).1 7) ((t.1 52).1 8) ((t.1 52).1 9) ((t.1 52).1 10) ((t.1 52).2.1 0) ((t.1 52).2.1 1)).at (hI.1.I [52] _ rfl (by decide) (by decide) (List.forall_mem_cons.mpr ⟨w_m, (fun _ h => nomatch h)⟩))).mono (Nat.le_of_ble_eq_true rfl) (Nat.le_of_ble_eq_true rfl) (fun o w1 hp => ?_)
  obtain ⟨cs1, hp, hi9⟩ := hp
  obtain ⟨e1, e2⟩ := hp
  subst e1; subst e2
  exact ⟨rfl, hI.fix (t2 := t) (is := [52]) hi9 rfl ⟨kd_52.mpr ⟨_, rfl⟩, trivial⟩ (by decide) (by decide) (fun _ _ _ => rfl) (fun h => h) rfl⟩
theorem K_Mm_delivered {g : zG} {ad : Nat → Nat} {t : zTT} {u : zNN} {w : zW} (hI : IVm g ad t u w) : zMB g M_Mm_delivered [.ref (ad 52)] w (fun o w1 => (∃ v : Int64, o = .inl (some (.long v))) ∧ IVm g ad t u w1) 10 300 := by
  obtain ⟨s, hI⟩ := hI
  exact (Qx_Mm_delivered hI).mono (by decide) (by decide) (fun o w1 h => ⟨⟨_, h.1⟩, ⟨_, h.2⟩⟩)
theorem K_Ip_delivered {g : zG} {ad : Nat → Nat} {t : zTT} {u : zNN} {w : zW} (hI : IVm g ad t u w) : zMB g M_Ip_delivered [.ref (ad 0)] w (fun o w1 => (∃ v : Int64, o = .inl (some (.long v))) ∧ IVm g ad t u w1) 10 300 := by
  obtain ⟨s, hI⟩ := hI
  exact (Q_delivered hI).mono (by decide) (by decide) (fun o w1 h => ⟨h.1, ⟨_, h.2 ▸ hI⟩⟩)
theorem K_Mm_goodShare {g : zG} {ad : Nat → Nat} {t : zTT} {u : zNN} {w : zW} (hI : IVm g ad t u w) : zMB g M_Mm_goodShare [.ref (ad 52)] w (fun o w1 => (∃ v : UInt32, o = .inl (some (.float v))) ∧ IVm g ad t u w1) 10 300 := by
  obtain ⟨s, hI⟩ := hI
  exact (Q_Mm_goodShare hI).mono (by decide) (by decide) (fun o w1 h => ⟨h.1, ⟨_, h.2⟩⟩)
theorem K_Mm_meanBar {g : zG} {ad : Nat → Nat} {t : zTT} {u : zNN} {w : zW} (hI : IVm g ad t u w) : zMB g M_Mm_meanBar [.ref (ad 52)] w (fun o w1 => (∃ v : UInt64, o = .inl (some (.double v))) ∧ IVm g ad t u w1) 10 300 := by
  obtain ⟨s, hI⟩ := hI
  by_cases h0 : u.1 5 = 0
  · exact (Q_Mm_meanBarE hI h0).mono (by decide) (by decide) (fun o w1 h => ⟨h.1, ⟨_, h.2⟩⟩)
  · exact (Q_Mm_meanBarN hI h0).mono (by decide) (by decide) (fun o w1 h => ⟨h.1, ⟨_, h.2⟩⟩)
end
section
def RELs (f m : Nat → Int32) : Prop := ∀ i, i < 5 → f i = m i ∧ 0 ≤ (f i).toInt ∧ (f i).toInt ≤ 300
def RELk (t : zTT) (n : Nat → Nat) (b : Nat) : Prop := (t.1 32).2.2 0 = n 2 ∧ (0 ≤ ((t.1 52).1 5).toInt ∧ ((t.1 52).1 5).toInt ≤ b) ∧ ∀ i, i < n 2 → (t.1 33).1 i = (t.2 2 i).2.1 0 ∧ (1 ≤ ((t.1 33).1 i).toInt ∧ ((t.1 33).1 i).toInt ≤ 10) ∧ (1 ≤ ((t.1 34).1 i).toInt ∧ ((t.1 34).1 i).toInt ≤ 24) ∧ (0 ≤ ((t.1 35).1 i).toInt ∧ ((t.1 35).1 i).toInt ≤ ((t.1 34).1 i).toInt + 72) ∧ ((t.2 2 i).2.1 1).toInt = ((t.1 52).1 5).toInt - ((t.1 35).1 i).toInt + ((t.1 34).1 i).toInt
def RELg (f G : Nat → Int64) (p : Nat) : Prop := ∀ e, e < 4 → f e = G (4 * p + e)
def RELI (a b c d : Int32) (A B C D : Nat → Int64) (mi : Nat → Int32) (G : Nat → Int64) : Prop := (a = mi 0 ∧ b = mi 1 ∧ c = mi 2 ∧ d = mi 3) ∧ RELg A G 0 ∧ RELg B G 1 ∧ RELg C G 2 ∧ RELg D G 3
def RELi (t : zTT) : Prop := RELI ((t.1 37).1 0) ((t.1 43).1 0) ((t.1 45).1 0) ((t.1 47).1 0) (t.1 38).2.1 (t.1 44).2.1 (t.1 46).2.1 (t.1 48).2.1 (t.1 63).1 (t.1 64).2.1
def RELl (t : zTT) : Prop := (0 ≤ ((t.1 63).1 1).toInt) ∧ (¬ (t.1 63).1 1 = 0 → (t.1 42).1 0 = (t.1 52).1 6 ∧ (t.1 42).1 1 = (t.1 52).1 7 ∧ (t.1 42).1 2 = (t.1 52).1 8 ∧ (20 ≤ ((t.1 42).1 0).toInt ∧ ((t.1 42).1 0).toInt ≤ 1450) ∧ (0 ≤ ((t.1 42).1 1).toInt ∧ ((t.1 42).1 1).toInt ≤ 100) ∧ ((t.1 42).1 2 = 0 ∨ (t.1 42).1 2 = 1))
def RELr (t : zTT) : Prop := ((t.1 49).1 2 = 0 ∧ (t.1 52).1 9 = -1) ∨ (¬ (t.1 49).1 2 = 0 ∧ (t.1 49).1 0 = (t.1 52).1 9 ∧ (t.1 49).1 1 = (t.1 52).1 10 ∧ ¬ (t.1 52).1 9 = -1)
def RELm (v a b : zV) : Prop := v.2.1 = a.2.1 ∧ v.2.2.2 0 = fa_cnt (fun k => tmB (v.2.1 k)) 108 ∧ v.1 0 = rsR v.2.1 ∧ v.1 1 = bdI v.2.1 (b.2.2.2 0) ∧ v.1 2 = b.2.1 1 ∧ v.1 3 = b.2.1 2 ∧ v.1 4 = b.2.1 3 ∧ v.1 5 = b.2.1 4
def RELc (v a g : zV) : Prop := v.1 0 = a.2.1 1 ∧ v.1 5 = a.2.1 0 ∧ (∀ e, e < 4 → v.2.2.1 e = g.2.2.1 e) ∧ (v.1 2 &&& -2 = a.2.1 2 &&& -2 ∧ (v.1 2 &&& 2 = 0 → v.1 2 = a.2.1 2)) ∧ ((v.1 3 = 0 ∧ v.1 4 = 0 ∧ a.2.1 5 = 0) ∨ (v.1 3 = 1 ∧ v.1 4 = 0 ∧ a.2.1 5 = 1) ∨ (v.1 3 = 0 ∧ v.1 4 = 1 ∧ a.2.1 5 = 2)) ∧ a.2.1 4 = (if v.1 0 < 20 then 0 else 1)
def REL (t : zTT) (n : Nat → Nat) (b : Nat) : Prop := ((t.1 2).1 = (t.1 53).1) ∧ ((t.1 1).2.2 0 = (t.1 52).2.2 0) ∧ (RELs (t.1 31).1 (t.1 52).1) ∧ (RELk t n b) ∧ (RELi t) ∧ (RELl t) ∧ (RELr t) ∧ (n 0 = n 3 ∧ n 4 = n 3 ∧ ∀ i, i < n 0 → RELm (t.2 0 i) (t.2 3 i) (t.2 4 i)) ∧ (n 1 = n 5 ∧ n 6 = n 5 ∧ ∀ i, i < n 1 → RELc (t.2 1 i) (t.2 5 i) (t.2 6 i)) ∧ (0 ≤ ((t.1 63).1 0).toInt ∧ ((t.1 63).1 0).toInt ≤ 3000) ∧ (n 2 ≤ 20 ∧ n 0 ≤ 10 ∧ n 1 ≤ 30) ∧ (∀ k, 108 ≤ k → (t.1 2).1 k = 0)
theorem REL.pa {t : zTT} {n : Nat → Nat} {b : Nat} (h : REL t n b) : (t.1 2).1 = (t.1 53).1 := h.1
theorem REL.pt {t : zTT} {n : Nat → Nat} {b : Nat} (h : REL t n b) : (t.1 1).2.2 0 = (t.1 52).2.2 0 := h.2.1
theorem REL.sa {t : zTT} {n : Nat → Nat} {b : Nat} (h : REL t n b) : RELs (t.1 31).1 (t.1 52).1 := h.2.2.1
theorem REL.co {t : zTT} {n : Nat → Nat} {b : Nat} (h : REL t n b) : RELk t n b := h.2.2.2.1
theorem REL.ir {t : zTT} {n : Nat → Nat} {b : Nat} (h : REL t n b) : RELi t := h.2.2.2.2.1
theorem REL.la {t : zTT} {n : Nat → Nat} {b : Nat} (h : REL t n b) : RELl t := h.2.2.2.2.2.1
theorem REL.re {t : zTT} {n : Nat → Nat} {b : Nat} (h : REL t n b) : RELr t := h.2.2.2.2.2.2.1
theorem REL.mo {t : zTT} {n : Nat → Nat} {b : Nat} (h : REL t n b) : n 0 = n 3 ∧ n 4 = n 3 ∧ ∀ i, i < n 0 → RELm (t.2 0 i) (t.2 3 i) (t.2 4 i) := h.2.2.2.2.2.2.2.1
theorem REL.ca {t : zTT} {n : Nat → Nat} {b : Nat} (h : REL t n b) : n 1 = n 5 ∧ n 6 = n 5 ∧ ∀ i, i < n 1 → RELc (t.2 1 i) (t.2 5 i) (t.2 6 i) := h.2.2.2.2.2.2.2.2.1
theorem REL.fb {t : zTT} {n : Nat → Nat} {b : Nat} (h : REL t n b) : 0 ≤ ((t.1 63).1 0).toInt ∧ ((t.1 63).1 0).toInt ≤ 3000 := h.2.2.2.2.2.2.2.2.2.1
theorem REL.sz {t : zTT} {n : Nat → Nat} {b : Nat} (h : REL t n b) : n 2 ≤ 20 ∧ n 0 ≤ 10 ∧ n 1 ≤ 30 := h.2.2.2.2.2.2.2.2.2.2.1
theorem REL.pz {t : zTT} {n : Nat → Nat} {b : Nat} (h : REL t n b) : ∀ k, 108 ≤ k → (t.1 2).1 k = 0 := h.2.2.2.2.2.2.2.2.2.2.2
theorem RELs.u5 {f m : Nat → Int32} {k : Nat} {v : Int32} (h : RELs f m) (hk : 5 ≤ k) : RELs f (upd m k v) := fun i hi => by
  rw [upd_ne (by omega)]
  exact h i hi
theorem RELI.mv01 {a b c d x : Int32} {A B C D : Nat → Int64} {mi : Nat → Int32} {G : Nat → Int64} (h : RELI a b c d A B C D mi G) : RELI (a - x) (b + x) c d (mvS A x a 4) (mvT A x a B 4) C D (mvN mi 0 1 x) (mvR G 0 1 x (mi 0) 4) := by
  obtain ⟨⟨h0, h1, h2, h3⟩, g0, g1, g2, g3⟩ := h
  have k := mv_rel (am := x) (ir := mi 0) (show ¬ 0 = 1 by decide) g0 g1 4 (Nat.le_refl _)
  rw [h0]
  refine ⟨⟨?_, ?_, ?_, ?_⟩, ?_, ?_, ?_, ?_⟩
  · rw [mvN_fr (by decide)]
  · rw [mvN_to (by decide), h1]
  · rw [mvN_ot (by decide) (by decide)]; exact h2
  · rw [mvN_ot (by decide) (by decide)]; exact h3
  · exact k.1
  · exact k.2.1
  · exact fun e he => (g2 e he).trans (k.2.2 2 (by decide) (by decide) e he).symm
  · exact fun e he => (g3 e he).trans (k.2.2 3 (by decide) (by decide) e he).symm
theorem RELI.mv12 {a b c d x : Int32} {A B C D : Nat → Int64} {mi : Nat → Int32} {G : Nat → Int64} (h : RELI a b c d A B C D mi G) : RELI a (b - x) (c + x) d A (mvS B x b 4) (mvT B x b C 4) D (mvN mi 1 2 x) (mvR G 1 2 x (mi 1) 4) := by
  obtain ⟨⟨h0, h1, h2, h3⟩, g0, g1, g2, g3⟩ := h
  have k := mv_rel (am := x) (ir := mi 1) (show ¬ 1 = 2 by decide) g1 g2 4 (Nat.le_refl _)
  rw [h1]
  refine ⟨⟨?_, ?_, ?_, ?_⟩, ?_, ?_, ?_, ?_⟩
  · rw [mvN_ot (by decide) (by decide)]; exact h0
  · rw [mvN_fr (by decide)]
  · rw [mvN_to (by decide), h2]
  · rw [mvN_ot (by decide) (by decide)]; exact h3
  · exact fun e he => (g0 e he).trans (k.2.2 0 (by decide) (by decide) e he).symm
  · exact k.1
  · exact k.2.1
  · exact fun e he => (g3 e he).trans (k.2.2 3 (by decide) (by decide) e he).symm
theorem RELI.mv13 {a b c d x : Int32} {A B C D : Nat → Int64} {mi : Nat → Int32} {G : Nat → Int64} (h : RELI a b c d A B C D mi G) : RELI a (b - x) c (d + x) A (mvS B x b 4) C (mvT B x b D 4) (mvN mi 1 3 x) (mvR G 1 3 x (mi 1) 4) := by
  obtain ⟨⟨h0, h1, h2, h3⟩, g0, g1, g2, g3⟩ := h
  have k := mv_rel (am := x) (ir := mi 1) (show ¬ 1 = 3 by decide) g1 g3 4 (Nat.le_refl _)
  rw [h1]
  refine ⟨⟨?_, ?_, ?_, ?_⟩, ?_, ?_, ?_, ?_⟩
  · rw [mvN_ot (by decide) (by decide)]; exact h0
  · rw [mvN_fr (by decide)]
  · rw [mvN_ot (by decide) (by decide)]; exact h2
  · rw [mvN_to (by decide), h3]
  · exact fun e he => (g0 e he).trans (k.2.2 0 (by decide) (by decide) e he).symm
  · exact k.1
  · exact fun e he => (g2 e he).trans (k.2.2 2 (by decide) (by decide) e he).symm
  · exact k.2.1
theorem RELI.mv20 {a b c d x : Int32} {A B C D : Nat → Int64} {mi : Nat → Int32} {G : Nat → Int64} (h : RELI a b c d A B C D mi G) : RELI (a + x) b (c - x) d (mvT C x c A 4) B (mvS C x c 4) D (mvN mi 2 0 x) (mvR G 2 0 x (mi 2) 4) := by
  obtain ⟨⟨h0, h1, h2, h3⟩, g0, g1, g2, g3⟩ := h
  have k := mv_rel (am := x) (ir := mi 2) (show ¬ 2 = 0 by decide) g2 g0 4 (Nat.le_refl _)
  rw [h2]
  refine ⟨⟨?_, ?_, ?_, ?_⟩, ?_, ?_, ?_, ?_⟩
  · rw [mvN_to (by decide), h0]
  · rw [mvN_ot (by decide) (by decide)]; exact h1
  · rw [mvN_fr (by decide)]
  · rw [mvN_ot (by decide) (by decide)]; exact h3
  · exact k.2.1
  · exact fun e he => (g1 e he).trans (k.2.2 1 (by decide) (by decide) e he).symm
  · exact k.1
  · exact fun e he => (g3 e he).trans (k.2.2 3 (by decide) (by decide) e he).symm
theorem RELI.mv30 {a b c d x : Int32} {A B C D : Nat → Int64} {mi : Nat → Int32} {G : Nat → Int64} (h : RELI a b c d A B C D mi G) : RELI (a + x) b c (d - x) (mvT D x d A 4) B C (mvS D x d 4) (mvN mi 3 0 x) (mvR G 3 0 x (mi 3) 4) := by
  obtain ⟨⟨h0, h1, h2, h3⟩, g0, g1, g2, g3⟩ := h
  have k := mv_rel (am := x) (ir := mi 3) (show ¬ 3 = 0 by decide) g3 g0 4 (Nat.le_refl _)
  rw [h3]
  refine ⟨⟨?_, ?_, ?_, ?_⟩, ?_, ?_, ?_, ?_⟩
  · rw [mvN_to (by decide), h0]
  · rw [mvN_ot (by decide) (by decide)]; exact h1
  · rw [mvN_ot (by decide) (by decide)]; exact h2
  · rw [mvN_fr (by decide)]
  · exact k.2.1
  · exact fun e he => (g1 e he).trans (k.2.2 1 (by decide) (by decide) e he).symm
  · exact fun e he => (g2 e he).trans (k.2.2 2 (by decide) (by decide) e he).symm
  · exact k.1
theorem RELg.z {f G : Nat → Int64} (h : RELg f G 0) : ∀ e, e < 4 → f e = G e := fun e he => by
  have := h e he
  rwa [show 4 * 0 + e = e by omega] at this
theorem RELI.inn {a b c d x : Int32} {A B C D δ : Nat → Int64} {mi : Nat → Int32} {G : Nat → Int64} (h : RELI a b c d A B C D mi G) : RELI (a + x) b c d (lfd A δ 4) B C D (upd mi 0 (mi 0 + x)) (lfd G δ 4) := by
  obtain ⟨⟨h0, h1, h2, h3⟩, g0, g1, g2, g3⟩ := h
  refine ⟨⟨?_, ?_, ?_, ?_⟩, fun e he => ?_, fun e he => ?_, fun e he => ?_, fun e he => ?_⟩
  · rw [upd_eq, h0]
  · rw [upd_ne (by decide)]; exact h1
  · rw [upd_ne (by decide)]; exact h2
  · rw [upd_ne (by decide)]; exact h3
  · rw [lfd_rel (g0.z) 4 (Nat.le_refl _) e, if_pos he, show 4 * 0 + e = e by omega]
  · rw [lfd_out 4 _ (by omega)]; exact g1 e he
  · rw [lfd_out 4 _ (by omega)]; exact g2 e he
  · rw [lfd_out 4 _ (by omega)]; exact g3 e he
theorem RELI.hold {a b c d : Int32} {A B C D T : Nat → Int64} {mi : Nat → Int32} {G : Nat → Int64} (h : RELI a b c d A B C D mi G) (n : Nat) : RELI a b c d (lmS (A, T) n).1 B C D mi (hdR G n) := by
  obtain ⟨h0, g0, g1, g2, g3⟩ := h
  obtain ⟨k1, k2⟩ := hd_rel (T := T) (g0.z) n
  refine ⟨h0, fun e he => ?_, fun e he => ?_, fun e he => ?_, fun e he => ?_⟩
  · rw [show 4 * 0 + e = e by omega]; exact k1 e he
  · rw [k2 _ (by omega)]; exact g1 e he
  · rw [k2 _ (by omega)]; exact g2 e he
  · rw [k2 _ (by omega)]; exact g3 e he
theorem br_rel {G f d d2 : Nat → Int64} {to : Nat} (hf : RELg f G to) (hd : ∀ e, e < 4 → d e = d2 e) : ∀ n, n ≤ 4 → (∀ e, e < 4 → lfd f d n e = brR G to d2 n (4 * to + e)) ∧ ∀ p, ¬ p = to → ∀ e, e < 4 → brR G to d2 n (4 * p + e) = G (4 * p + e)
  | 0, _ => ⟨hf, fun _ _ _ _ => rfl⟩
  | n + 1, hn => by
    obtain ⟨h1, h2⟩ := br_rel hf hd n (by omega)
    refine ⟨fun e he => ?_, fun p hp e he => ?_⟩
    · show vp_updL _ _ _ _ = vp_updL _ _ _ _
      by_cases q : e = n
      · subst q
        rw [updL_eq, updL_eq, h1 e he, hd e he]
      · rw [updL_ne q, updL_ne (by omega), h1 e he]
    · show vp_updL _ _ _ _ = _
      rw [updL_ne (by omega)]
      exact h2 p hp e he
theorem RELI.bu2 {a b c d x y : Int32} {A B C D δ δ2 : Nat → Int64} {mi : Nat → Int32} {G : Nat → Int64} (h : RELI a b c d A B C D mi G) (hx : x = y) (hd : ∀ e, e < 4 → δ e = δ2 e) : RELI a b (c + x) d A B (lfd C δ 4) D (upd mi 2 (mi 2 + y)) (brR G 2 δ2 4) := by
  obtain ⟨⟨h0, h1, h2, h3⟩, g0, g1, g2, g3⟩ := h
  obtain ⟨k1, k2⟩ := br_rel g2 hd 4 (Nat.le_refl _)
  refine ⟨⟨?_, ?_, ?_, ?_⟩, fun e he => ?_, fun e he => ?_, k1, fun e he => ?_⟩
  · rw [upd_ne (by decide)]; exact h0
  · rw [upd_ne (by decide)]; exact h1
  · rw [upd_eq, h2, hx]
  · rw [upd_ne (by decide)]; exact h3
  · rw [k2 0 (by decide) e he]; exact g0 e he
  · rw [k2 1 (by decide) e he]; exact g1 e he
  · rw [k2 3 (by decide) e he]; exact g3 e he
theorem RELI.bu3 {a b c d x y : Int32} {A B C D δ δ2 : Nat → Int64} {mi : Nat → Int32} {G : Nat → Int64} (h : RELI a b c d A B C D mi G) (hx : x = y) (hd : ∀ e, e < 4 → δ e = δ2 e) : RELI a b c (d + x) A B C (lfd D δ 4) (upd mi 3 (mi 3 + y)) (brR G 3 δ2 4) := by
  obtain ⟨⟨h0, h1, h2, h3⟩, g0, g1, g2, g3⟩ := h
  obtain ⟨k1, k2⟩ := br_rel g3 hd 4 (Nat.le_refl _)
  refine ⟨⟨?_, ?_, ?_, ?_⟩, fun e he => ?_, fun e he => ?_, fun e he => ?_, k1⟩
  · rw [upd_ne (by decide)]; exact h0
  · rw [upd_ne (by decide)]; exact h1
  · rw [upd_ne (by decide)]; exact h2
  · rw [upd_eq, h3, hx]
  · rw [k2 0 (by decide) e he]; exact g0 e he
  · rw [k2 1 (by decide) e he]; exact g1 e he
  · rw [k2 2 (by decide) e he]; exact g2 e he
theorem REL.n {t : zTT} {n m : Nat → Nat} {b : Nat} (h : REL t n b) (e : m = n) : REL t m b := by
  subst e
  exact h
theorem REL.up {t : zTT} {n : Nat → Nat} {b c : Nat} (h : REL t n b) (e : b ≤ c) : REL t n c := ⟨h.pa, h.pt, h.sa, ⟨h.co.1, ⟨h.co.2.1.1, by have := h.co.2.1.2; omega⟩, h.co.2.2⟩, h.ir, h.la, h.re, h.mo, h.ca, h.fb, h.sz, h.pz⟩
theorem prow_out {k : Int32} {b : Nat} {s : (Nat → Int32) × Nat} {c : Nat} : ∀ j, (∀ i, i < j → ¬ c = b + i) → (prow k b s j).1 c = s.1 c
  | 0, _ => rfl
  | j + 1, h => by
    have ih := prow_out (k := k) (s := s) j (fun i hi => h i (by omega))
    by_cases q : (prow k b s j).1 (b + j) = k
    · rw [prow_t q]; exact ih
    · rw [prow_f q]
      show upd (prow k b s j).1 (b + j) k c = _
      rw [upd_ne (h j (by omega))]
      exact ih
theorem prect_out {k : Int32} {a b u : Nat} {s : (Nat → Int32) × Nat} {c : Nat} (hc : 108 ≤ c) (ha : a + u ≤ 12) : ∀ v, b + v ≤ 9 → (prect k a b u s v).1 c = s.1 c
  | 0, _ => rfl
  | v + 1, h => by
    show (prow k (12 * (b + v) + a) (prect k a b u s v) u).1 c = _
    rw [prow_out u (fun i hi => by omega)]
    exact prect_out hc ha v (by omega)
theorem R_draw {t : zTT} {n n1 n2 : Nat → Nat} {b : Nat} (k x y p q : Int32) (h : REL t n b) (e1 : n1 = n) (e2 : n2 = n1) : REL (tK_Mm_draw k x y p q (tK_Ip_draw k x y p q t)) n2 b := by
  subst e1; subst e2
  unfold tK_Ip_draw
  by_cases hd : 0 ≤ z_ix 0 k ∧ (0 ≤ x ∧ x < 12 ∧ 0 ≤ y ∧ y < 9) ∧ 1 ≤ p ∧ p ≤ 12 - x ∧ 1 ≤ q ∧ q ≤ 9 - y
  · rw [if_pos hd]
    unfold tK_Mm_draw
    rw [if_pos hd]
    obtain ⟨a9, b9, c9, d9, i1, i2, -, -, rfl, rfl, rfl, rfl, -, -⟩ := z_dr_in hd
    rw [nI_clamp (by omega), nI_clamp (by omega), nI_clamp (by omega), nI_clamp (by omega)]
    refine ⟨?_, h.pt, h.sa, h.co, h.ir, h.la, h.re, h.mo, h.ca, h.fb, h.sz, fun c hc => ?_⟩
    · show (prect k a9 b9 c9 ((t.1 2).1, 0) d9).1 = (prect k a9 b9 c9 ((t.1 53).1, 0) d9).1
      rw [h.pa]
    · show (prect k a9 b9 c9 ((t.1 2).1, 0) d9).1 c = 0
      rw [prect_out hc i1 d9 i2]
      exact h.pz c hc
  · rw [if_neg hd]
    unfold tK_Mm_draw
    rw [if_neg hd]
    exact h
theorem R_part {t : zTT} {n n1 n2 : Nat → Nat} {b : Nat} (r : Int32) (h : REL t n b) (e1 : n1 = n) (e2 : n2 = n1) : REL (tK_Mm_part r (tK_Ip_part r t)) n2 b := by
  subst e1; subst e2
  unfold tK_Ip_part
  by_cases hw : 1 ≤ r ∧ r ≤ 8
  · rw [if_pos hw]
    unfold tK_Mm_part
    rw [if_pos hw]
    exact ⟨h.pa, rfl, h.sa, h.co, h.ir, h.la, h.re, h.mo, h.ca, h.fb, h.sz, h.pz⟩
  · rw [if_neg hw]
    unfold tK_Mm_part
    rw [if_neg hw]
    exact h
theorem z_sat {x : Int32} {a : Int} (h : x.toInt = a) (h0 : 0 ≤ a) : S_Mm_most x = (if x < 300 then x else 300) := by
  have e3 : (300 : Int32).toInt = 300 := rfl
  have e0 : (0 : Int32).toInt = 0 := rfl
  unfold S_Mm_most
  by_cases q : x < 300
  · rw [if_pos q]
    by_cases q0 : 0 < x
    · rw [if_pos q0]
    · rw [if_neg q0]
      rw [Int32.lt_iff_toInt_lt, e0] at q0
      exact (Int32.toInt_inj.mp (by rw [e0]; omega)).symm
  · rw [if_neg q]
    rw [if_pos (by decide)]
theorem fb_add {x m : Int32} (h : 0 ≤ x.toInt ∧ x.toInt ≤ 3000) (hm : 1 ≤ m ∧ m ≤ 1000) (hg : ¬ 3000 < x + m) : 0 ≤ (x + m).toInt ∧ (x + m).toInt ≤ 3000 := by
  have e1 : (1 : Int32).toInt = 1 := rfl
  have e2 : (1000 : Int32).toInt = 1000 := rfl
  have e3 : (3000 : Int32).toInt = 3000 := rfl
  have h1 := hm.1
  have h2 := hm.2
  rw [Int32.le_iff_toInt_le, e1] at h1
  rw [Int32.le_iff_toInt_le, e2] at h2
  have e : (x + m).toInt = x.toInt + m.toInt := by rw [Int32.toInt_add]; exact bm32 (by omega) (by omega)
  rw [Int32.lt_iff_toInt_lt, e3] at hg
  omega
theorem fb_sub {x m : Int32} (h : 0 ≤ x.toInt ∧ x.toInt ≤ 3000) (hm : 1 ≤ m ∧ m ≤ 500) (hg : ¬ x < m) : 0 ≤ (x - m).toInt ∧ (x - m).toInt ≤ 3000 := by
  have e1 : (1 : Int32).toInt = 1 := rfl
  have e2 : (500 : Int32).toInt = 500 := rfl
  have h1 := hm.1
  have h2 := hm.2
  rw [Int32.le_iff_toInt_le, e1] at h1
  rw [Int32.le_iff_toInt_le, e2] at h2
  have e : (x - m).toInt = x.toInt - m.toInt := by rw [Int32.toInt_sub]; exact bm32 (by omega) (by omega)
  rw [Int32.lt_iff_toInt_lt] at hg
  omega
theorem fb_no {x y : Int32} (h : 0 ≤ y.toInt ∧ y.toInt ≤ 3000) (e : x = y) : ¬ 3000 < x + 0 := by
  subst e
  rw [Int32.add_zero, Int32.lt_iff_toInt_lt, show (3000 : Int32).toInt = 3000 from rfl]
  omega
theorem R_charge {t : zTT} {n n1 n2 : Nat → Nat} {b : Nat} (k m : Int32) (h : REL t n b) (e1 : n1 = n) (e2 : n2 = n1) : REL (tK_Mm_charge k m (tK_Ip_charge k m t)) n2 b := by
  subst e1; subst e2
  unfold tK_Ip_charge
  by_cases hw : 0 ≤ z_ix 1 k ∧ (1 ≤ m ∧ m ≤ 1000)
  · rw [if_pos hw]
    rcases z_ix1 hw.1 with rfl | rfl | rfl | rfl | rfl | rfl
    · rw [if_pos (rfl : (112 : Int32) = 112)]
      by_cases hg : 3000 < (t.1 37).1 0 + m
      · rw [if_pos hg]
        unfold tK_Mm_charge
        refine Eq.mpr (congrArg (fun z => REL z _ _) ((if_pos hw).trans ((if_pos (rfl : (112 : Int32) = 112)).trans (if_pos (show 3000 < (t.1 63).1 0 + m by rw [← h.ir.1.1]; exact hg))))) ?_
        exact h
      · rw [if_neg hg]
        unfold tK_Mm_charge
        refine Eq.mpr (congrArg (fun z => REL z _ _) ((if_pos hw).trans ((if_pos (rfl : (112 : Int32) = 112)).trans (if_neg (show ¬ 3000 < (t.1 63).1 0 + m by rw [← h.ir.1.1]; exact hg))))) ?_
        exact ⟨h.pa, h.pt, h.sa, h.co, h.ir.inn (x := m) (δ := fun e => chS m 0 e / 10), h.la, h.re, h.mo, h.ca, (by show 0 ≤ ((t.1 63).1 0 + m).toInt ∧ ((t.1 63).1 0 + m).toInt ≤ 3000; exact fb_add h.fb hw.2 (by rw [← h.ir.1.1]; exact hg)), h.sz, h.pz⟩
    · rw [if_neg (show ¬ ((115 : Int32) = 112) by decide), if_pos (rfl : (115 : Int32) = 115)]
      by_cases hg : 3000 < (t.1 37).1 0 + m
      · rw [if_pos hg]
        unfold tK_Mm_charge
        refine Eq.mpr (congrArg (fun z => REL z _ _) ((if_pos hw).trans ((if_neg (show ¬ ((115 : Int32) = 112) by decide)).trans ((if_pos (rfl : (115 : Int32) = 115)).trans (if_pos (show 3000 < (t.1 63).1 0 + m by rw [← h.ir.1.1]; exact hg)))))) ?_
        exact h
      · rw [if_neg hg]
        unfold tK_Mm_charge
        refine Eq.mpr (congrArg (fun z => REL z _ _) ((if_pos hw).trans ((if_neg (show ¬ ((115 : Int32) = 112) by decide)).trans ((if_pos (rfl : (115 : Int32) = 115)).trans (if_neg (show ¬ 3000 < (t.1 63).1 0 + m by rw [← h.ir.1.1]; exact hg)))))) ?_
        exact ⟨h.pa, h.pt, h.sa, h.co, h.ir.inn (x := m) (δ := fun e => chS m 1 e / 10), h.la, h.re, h.mo, h.ca, (by show 0 ≤ ((t.1 63).1 0 + m).toInt ∧ ((t.1 63).1 0 + m).toInt ≤ 3000; exact fb_add h.fb hw.2 (by rw [← h.ir.1.1]; exact hg)), h.sz, h.pz⟩
    · rw [if_neg (show ¬ ((102 : Int32) = 112) by decide), if_neg (show ¬ ((102 : Int32) = 115) by decide), if_pos (rfl : (102 : Int32) = 102)]
      by_cases hg : 3000 < (t.1 37).1 0 + m
      · rw [if_pos hg]
        unfold tK_Mm_charge
        refine Eq.mpr (congrArg (fun z => REL z _ _) ((if_pos hw).trans ((if_neg (show ¬ ((102 : Int32) = 112) by decide)).trans ((if_neg (show ¬ ((102 : Int32) = 115) by decide)).trans ((if_pos (rfl : (102 : Int32) = 102)).trans (if_pos (show 3000 < (t.1 63).1 0 + m by rw [← h.ir.1.1]; exact hg))))))) ?_
        exact h
      · rw [if_neg hg]
        unfold tK_Mm_charge
        refine Eq.mpr (congrArg (fun z => REL z _ _) ((if_pos hw).trans ((if_neg (show ¬ ((102 : Int32) = 112) by decide)).trans ((if_neg (show ¬ ((102 : Int32) = 115) by decide)).trans ((if_pos (rfl : (102 : Int32) = 102)).trans (if_neg (show ¬ 3000 < (t.1 63).1 0 + m by rw [← h.ir.1.1]; exact hg))))))) ?_
        exact ⟨h.pa, h.pt, h.sa, h.co, h.ir.inn (x := m) (δ := fun e => chS m 2 e / 10), h.la, h.re, h.mo, h.ca, (by show 0 ≤ ((t.1 63).1 0 + m).toInt ∧ ((t.1 63).1 0 + m).toInt ≤ 3000; exact fb_add h.fb hw.2 (by rw [← h.ir.1.1]; exact hg)), h.sz, h.pz⟩
    · rw [if_neg (show ¬ ((107 : Int32) = 112) by decide), if_neg (show ¬ ((107 : Int32) = 115) by decide), if_neg (show ¬ ((107 : Int32) = 102) by decide), if_pos (rfl : (107 : Int32) = 107)]
      by_cases hg : 3000 < (t.1 37).1 0 + 0
      · exact absurd hg (fb_no h.fb h.ir.1.1)
      · rw [if_neg hg]
        unfold tK_Mm_charge
        refine Eq.mpr (congrArg (fun z => REL z _ _) ((if_pos hw).trans ((if_neg (show ¬ ((107 : Int32) = 112) by decide)).trans ((if_neg (show ¬ ((107 : Int32) = 115) by decide)).trans ((if_neg (show ¬ ((107 : Int32) = 102) by decide)).trans (if_pos (rfl : (107 : Int32) = 107))))))) ?_
        exact ⟨h.pa, h.pt, h.sa, h.co, h.ir.inn (x := 0) (δ := fun e => chS m 3 e / 10), h.la, h.re, h.mo, h.ca, (by show 0 ≤ ((t.1 63).1 0 + 0).toInt ∧ ((t.1 63).1 0 + 0).toInt ≤ 3000; rw [Int32.add_zero]; exact h.fb), h.sz, h.pz⟩
    · rw [if_neg (show ¬ ((103 : Int32) = 112) by decide), if_neg (show ¬ ((103 : Int32) = 115) by decide), if_neg (show ¬ ((103 : Int32) = 102) by decide), if_neg (show ¬ ((103 : Int32) = 107) by decide), if_pos (rfl : (103 : Int32) = 103)]
      by_cases hf : (t.1 45).1 0 < m
      · rw [if_pos hf]
        unfold tK_Mm_charge
        refine Eq.mpr (congrArg (fun z => REL z _ _) ((if_pos hw).trans ((if_neg (show ¬ ((103 : Int32) = 112) by decide)).trans ((if_neg (show ¬ ((103 : Int32) = 115) by decide)).trans ((if_neg (show ¬ ((103 : Int32) = 102) by decide)).trans ((if_neg (show ¬ ((103 : Int32) = 107) by decide)).trans ((if_pos (rfl : (103 : Int32) = 103)).trans (if_pos (show (t.1 63).1 2 < m by rw [← h.ir.1.2.2.1]; exact hf))))))))) ?_
        exact h
      · rw [if_neg hf]
        by_cases hg : 3000 < (t.1 37).1 0 + m
        · rw [if_pos hg]
          unfold tK_Mm_charge
          refine Eq.mpr (congrArg (fun z => REL z _ _) ((if_pos hw).trans ((if_neg (show ¬ ((103 : Int32) = 112) by decide)).trans ((if_neg (show ¬ ((103 : Int32) = 115) by decide)).trans ((if_neg (show ¬ ((103 : Int32) = 102) by decide)).trans ((if_neg (show ¬ ((103 : Int32) = 107) by decide)).trans ((if_pos (rfl : (103 : Int32) = 103)).trans ((if_neg (show ¬ (t.1 63).1 2 < m by rw [← h.ir.1.2.2.1]; exact hf)).trans (if_pos (show 3000 < (t.1 63).1 0 + m by rw [← h.ir.1.1]; exact hg)))))))))) ?_
          exact h
        · rw [if_neg hg]
          unfold tK_Mm_charge
          refine Eq.mpr (congrArg (fun z => REL z _ _) ((if_pos hw).trans ((if_neg (show ¬ ((103 : Int32) = 112) by decide)).trans ((if_neg (show ¬ ((103 : Int32) = 115) by decide)).trans ((if_neg (show ¬ ((103 : Int32) = 102) by decide)).trans ((if_neg (show ¬ ((103 : Int32) = 107) by decide)).trans ((if_pos (rfl : (103 : Int32) = 103)).trans ((if_neg (show ¬ (t.1 63).1 2 < m by rw [← h.ir.1.2.2.1]; exact hf)).trans (if_neg (show ¬ 3000 < (t.1 63).1 0 + m by rw [← h.ir.1.1]; exact hg)))))))))) ?_
          exact ⟨h.pa, h.pt, h.sa, h.co, h.ir.mv20 (x := m), h.la, h.re, h.mo, h.ca, (by show 0 ≤ ((t.1 63).1 0 + m).toInt ∧ ((t.1 63).1 0 + m).toInt ≤ 3000; exact fb_add h.fb hw.2 (by rw [← h.ir.1.1]; exact hg)), h.sz, h.pz⟩
    · rw [if_neg (show ¬ ((100 : Int32) = 112) by decide), if_neg (show ¬ ((100 : Int32) = 115) by decide), if_neg (show ¬ ((100 : Int32) = 102) by decide), if_neg (show ¬ ((100 : Int32) = 107) by decide), if_neg (show ¬ ((100 : Int32) = 103) by decide)]
      by_cases hf : (t.1 47).1 0 < m
      · rw [if_pos hf]
        unfold tK_Mm_charge
        refine Eq.mpr (congrArg (fun z => REL z _ _) ((if_pos hw).trans ((if_neg (show ¬ ((100 : Int32) = 112) by decide)).trans ((if_neg (show ¬ ((100 : Int32) = 115) by decide)).trans ((if_neg (show ¬ ((100 : Int32) = 102) by decide)).trans ((if_neg (show ¬ ((100 : Int32) = 107) by decide)).trans ((if_neg (show ¬ ((100 : Int32) = 103) by decide)).trans (if_pos (show (t.1 63).1 3 < m by rw [← h.ir.1.2.2.2]; exact hf))))))))) ?_
        exact h
      · rw [if_neg hf]
        by_cases hg : 3000 < (t.1 37).1 0 + m
        · rw [if_pos hg]
          unfold tK_Mm_charge
          refine Eq.mpr (congrArg (fun z => REL z _ _) ((if_pos hw).trans ((if_neg (show ¬ ((100 : Int32) = 112) by decide)).trans ((if_neg (show ¬ ((100 : Int32) = 115) by decide)).trans ((if_neg (show ¬ ((100 : Int32) = 102) by decide)).trans ((if_neg (show ¬ ((100 : Int32) = 107) by decide)).trans ((if_neg (show ¬ ((100 : Int32) = 103) by decide)).trans ((if_neg (show ¬ (t.1 63).1 3 < m by rw [← h.ir.1.2.2.2]; exact hf)).trans (if_pos (show 3000 < (t.1 63).1 0 + m by rw [← h.ir.1.1]; exact hg)))))))))) ?_
          exact h
        · rw [if_neg hg]
          unfold tK_Mm_charge
          refine Eq.mpr (congrArg (fun z => REL z _ _) ((if_pos hw).trans ((if_neg (show ¬ ((100 : Int32) = 112) by decide)).trans ((if_neg (show ¬ ((100 : Int32) = 115) by decide)).trans ((if_neg (show ¬ ((100 : Int32) = 102) by decide)).trans ((if_neg (show ¬ ((100 : Int32) = 107) by decide)).trans ((if_neg (show ¬ ((100 : Int32) = 103) by decide)).trans ((if_neg (show ¬ (t.1 63).1 3 < m by rw [← h.ir.1.2.2.2]; exact hf)).trans (if_neg (show ¬ 3000 < (t.1 63).1 0 + m by rw [← h.ir.1.1]; exact hg)))))))))) ?_
          exact ⟨h.pa, h.pt, h.sa, h.co, h.ir.mv30 (x := m), h.la, h.re, h.mo, h.ca, (by show 0 ≤ ((t.1 63).1 0 + m).toInt ∧ ((t.1 63).1 0 + m).toInt ≤ 3000; exact fb_add h.fb hw.2 (by rw [← h.ir.1.1]; exact hg)), h.sz, h.pz⟩
  · rw [if_neg hw]
    unfold tK_Mm_charge
    refine Eq.mpr (congrArg (fun z => REL z _ _) (if_neg hw)) ?_
    exact h
theorem R_tap {t : zTT} {n n1 n2 : Nat → Nat} {b : Nat} (m : Int32) (h : REL t n b) (e1 : n1 = n) (e2 : n2 = n1) : REL (tK_Mm_tap m (tK_Ip_tap m t)) n2 b := by
  subst e1; subst e2
  unfold tK_Ip_tap
  by_cases hw : 1 ≤ m ∧ m ≤ 500
  · rw [if_pos hw]
    by_cases he0 : (t.1 43).1 0 = 0
    · rw [if_pos he0]
      by_cases hg : (t.1 37).1 0 < m
      · rw [if_pos hg]
        unfold tK_Mm_tap
        refine Eq.mpr (congrArg (fun z => REL z _ _) ((if_pos hw).trans ((if_pos (show (t.1 63).1 1 ≤ 0 by rw [← h.ir.1.2.1, he0]; decide)).trans (if_pos (show (t.1 63).1 0 < m by rw [← h.ir.1.1]; exact hg))))) ?_
        exact h
      · rw [if_neg hg]
        unfold tK_Mm_tap
        refine Eq.mpr (congrArg (fun z => REL z _ _) ((if_pos hw).trans ((if_pos (show (t.1 63).1 1 ≤ 0 by rw [← h.ir.1.2.1, he0]; decide)).trans (if_neg (show ¬ (t.1 63).1 0 < m by rw [← h.ir.1.1]; exact hg))))) ?_
        have hi1 : (t.1 63).1 1 = 0 := by rw [← h.ir.1.2.1]; exact he0
        have hm1 : 0 ≤ m.toInt := by have h1 := hw.1; rw [Int32.le_iff_toInt_le, show (1 : Int32).toInt = 1 from rfl] at h1; omega
        exact ⟨h.pa, h.pt, ((h.sa.u5 (by decide)).u5 (by decide)).u5 (by decide), h.co, h.ir.mv01 (x := m), ⟨by show 0 ≤ ((t.1 63).1 1 + m).toInt; rw [hi1, Int32.zero_add]; exact hm1, fun _ => ⟨rfl, rfl, rfl, by show 20 ≤ (1450 : Int32).toInt ∧ (1450 : Int32).toInt ≤ 1450; decide, by show 0 ≤ (0 : Int32).toInt ∧ (0 : Int32).toInt ≤ 100; decide, Or.inl rfl⟩⟩, h.re, h.mo, h.ca, (by show 0 ≤ ((t.1 63).1 0 - m).toInt ∧ ((t.1 63).1 0 - m).toInt ≤ 3000; exact fb_sub h.fb hw (by rw [← h.ir.1.1]; exact hg)), h.sz, h.pz⟩
    · rw [if_neg he0]
      unfold tK_Mm_tap
      refine Eq.mpr (congrArg (fun z => REL z _ _) ((if_pos hw).trans (if_neg (show ¬ (t.1 63).1 1 ≤ 0 from fun q => he0 (by rw [h.ir.1.2.1]; have h0 := h.la.1; rw [Int32.le_iff_toInt_le, show (0 : Int32).toInt = 0 from rfl] at q; exact Int32.toInt_inj.mp (by rw [show (0 : Int32).toInt = 0 from rfl]; omega)))))) ?_
      exact h
  · rw [if_neg hw]
    unfold tK_Mm_tap
    refine Eq.mpr (congrArg (fun z => REL z _ _) (if_neg hw)) ?_
    exact h
theorem R_pig {t : zTT} {n n1 n2 : Nat → Nat} {b : Nat} (h : REL t n b) (e1 : n1 = n) (e2 : n2 = n1) : REL (tK_Mm_pig (tK_Ip_pig t)) n2 b := by
  subst e1; subst e2
  unfold tK_Ip_pig
  by_cases he0 : (t.1 43).1 0 = 0
  · rw [if_pos he0]
    unfold tK_Mm_pig
    refine Eq.mpr (congrArg (fun z => REL z _ _) (if_pos (show (t.1 63).1 1 = 0 by rw [← h.ir.1.2.1]; exact he0))) ?_
    exact h
  · rw [if_neg he0]
    by_cases hw : (t.1 42).1 2 = 0
    · rw [if_pos hw]
      unfold tK_Mm_pig
      refine Eq.mpr (congrArg (fun z => REL z _ _) ((if_neg (show ¬ (t.1 63).1 1 = 0 by rw [← h.ir.1.2.1]; exact he0)).trans (if_pos (show (t.1 52).1 8 = 0 by rw [← (h.la.2 (by rw [← h.ir.1.2.1]; exact he0)).2.2.1]; exact hw)))) ?_
      have k := h.ir.mv12 (x := (t.1 43).1 0)
      have e9 : (t.1 43).1 0 = (t.1 63).1 1 := h.ir.1.2.1
      exact ⟨h.pa, h.pt, h.sa, h.co, (by have k2 := k; rw [e9] at k2; show RELI _ _ _ _ _ _ _ _ _ _; rw [e9]; exact k2), ⟨by show 0 ≤ ((t.1 63).1 1 - (t.1 63).1 1).toInt; rw [Int32.sub_self]; decide, fun q => absurd (show (t.1 63).1 1 - (t.1 63).1 1 = 0 from Int32.sub_self _) q⟩, h.re, h.mo, h.ca, h.fb, h.sz, h.pz⟩
    · rw [if_neg hw]
      unfold tK_Mm_pig
      refine Eq.mpr (congrArg (fun z => REL z _ _) ((if_neg (show ¬ (t.1 63).1 1 = 0 by rw [← h.ir.1.2.1]; exact he0)).trans (if_neg (show ¬ (t.1 52).1 8 = 0 by rw [← (h.la.2 (by rw [← h.ir.1.2.1]; exact he0)).2.2.1]; exact hw)))) ?_
      have k := h.ir.mv13 (x := (t.1 43).1 0)
      have e9 : (t.1 43).1 0 = (t.1 63).1 1 := h.ir.1.2.1
      exact ⟨h.pa, h.pt, h.sa, h.co, (by have k2 := k; rw [e9] at k2; show RELI _ _ _ _ _ _ _ _ _ _; rw [e9]; exact k2), ⟨by show 0 ≤ ((t.1 63).1 1 - (t.1 63).1 1).toInt; rw [Int32.sub_self]; decide, fun q => absurd (show (t.1 63).1 1 - (t.1 63).1 1 = 0 from Int32.sub_self _) q⟩, h.re, h.mo, h.ca, h.fb, h.sz, h.pz⟩
theorem R_hold {t : zTT} {n n1 n2 : Nat → Nat} {b : Nat} (x : Int32) (h : REL t n b) (e1 : n1 = n) (e2 : n2 = n1) : REL (tK_Mm_hold x (tK_Ip_hold x t)) n2 b := by
  subst e1; subst e2
  unfold tK_Ip_hold
  by_cases hw : 1 ≤ x ∧ x ≤ 120
  · rw [if_pos hw]
    unfold tK_Mm_hold
    refine Eq.mpr (congrArg (fun z => REL z _ _) (if_pos hw)) ?_
    exact ⟨h.pa, h.pt, h.sa, h.co, h.ir.hold x.toNatClampNeg, h.la, h.re, h.mo, h.ca, h.fb, h.sz, h.pz⟩
  · rw [if_neg hw]
    unfold tK_Mm_hold
    refine Eq.mpr (congrArg (fun z => REL z _ _) (if_neg hw)) ?_
    exact h
theorem vup_at {V : Nat → Nat → zV} {M j : Nat} {v : zV} : vup V M j v M j = v := if_pos ⟨rfl, rfl⟩
theorem vup_ne {V : Nat → Nat → zV} {M i j : Nat} {v : zV} (h : ¬ i = j) : vup V M j v M i = V M i := if_neg (fun q => h q.2)
theorem ca_set {V : Nat → Nat → zV} {n : Nat → Nat} {k : Nat} {v a : zV} (h : n 1 = n 5 ∧ n 6 = n 5 ∧ ∀ i, i < n 1 → RELc (V 1 i) (V 5 i) (V 6 i)) (hv : RELc v a (V 6 k)) : n 1 = n 5 ∧ n 6 = n 5 ∧ ∀ i, i < n 1 → RELc (vup V 1 k v 1 i) (vup V 5 k a 5 i) (V 6 i) := by
  refine ⟨h.1, h.2.1, fun i hi => ?_⟩
  by_cases q : i = k
  · subst q
    rw [vup_at, vup_at]
    exact hv
  · rw [vup_ne q, vup_ne q]
    exact h.2.2 i hi
theorem ca_set1 {V : Nat → Nat → zV} {n : Nat → Nat} {k : Nat} {v : zV} (h : n 1 = n 5 ∧ n 6 = n 5 ∧ ∀ i, i < n 1 → RELc (V 1 i) (V 5 i) (V 6 i)) (hv : RELc v (V 5 k) (V 6 k)) : n 1 = n 5 ∧ n 6 = n 5 ∧ ∀ i, i < n 1 → RELc (vup V 1 k v 1 i) (V 5 i) (V 6 i) := by
  refine ⟨h.1, h.2.1, fun i hi => ?_⟩
  by_cases q : i = k
  · subst q
    rw [vup_at]
    exact hv
  · rw [vup_ne q]
    exact h.2.2 i hi
theorem RELc.s {v a g : zV} (h : RELc v a g) : (v.1 3 = 0 ∧ v.1 4 = 0) ↔ a.2.1 5 = 0 := by
  rcases h.2.2.2.2.1 with ⟨p, q, r⟩ | ⟨p, q, r⟩ | ⟨p, q, r⟩
  · exact ⟨fun _ => r, fun _ => ⟨p, q⟩⟩
  · rw [p, r]; exact ⟨fun z => absurd z.1 (by decide), fun z => absurd z (by decide)⟩
  · rw [q, r]; exact ⟨fun z => absurd z.2 (by decide), fun z => absurd z (by decide)⟩
theorem and_m2 (x c : Int32) (h : (-2 : Int32) &&& c = c) : (x &&& -2) &&& c = x &&& c := by rw [Int32.and_assoc, h]
theorem RELc.b {v a g : zV} (h : RELc v a g) (c : Int32) (hc : (-2 : Int32) &&& c = c) : v.1 2 &&& c = a.2.1 2 &&& c := by
  rw [← and_m2 _ c hc, h.2.2.2.1.1, and_m2 _ c hc]
theorem RELc.f {v a g : zV} (h : RELc v a g) : v.1 2 = 0 ↔ a.2.1 2 = 0 := by
  have h2 := h.b 2 (by decide)
  constructor
  · intro q
    rw [← h.2.2.2.1.2 (by rw [q]; decide)]
    exact q
  · intro q
    rw [h.2.2.2.1.2 (by rw [h2, q]; decide)]
    exact q
theorem RELc.d {v a g : zV} (h : RELc v a g) : v.1 0 < 20 ↔ ¬ a.2.1 4 = 1 := by
  rw [h.2.2.2.2.2]
  by_cases q : v.1 0 < 20
  · rw [if_pos q]; exact ⟨fun _ => by decide, fun _ => q⟩
  · rw [if_neg q]; exact ⟨fun z => absurd z q, fun z => absurd rfl z⟩
theorem R_deliver {t : zTT} {n n1 n2 : Nat → Nat} {b : Nat} (x : Int32) (h : REL t n b) (e1 : n1 = n) (e2 : n2 = n1) : REL (tK_Mm_deliver x (tK_Ip_deliver x t n) n1) n2 b := by
  subst e1; subst e2
  unfold tK_Ip_deliver
  by_cases hx : x.toNatClampNeg < n2 1 ∧ x = nI x.toNatClampNeg
  · rw [if_pos hx]
    have hr : x.toNatClampNeg < n2 5 ∧ x = nI x.toNatClampNeg := ⟨h.ca.1 ▸ hx.1, hx.2⟩
    have hc := h.ca.2.2 _ hx.1
    by_cases h34 : (t.2 1 x.toNatClampNeg).1 3 = 0 ∧ (t.2 1 x.toNatClampNeg).1 4 = 0
    · rw [if_pos h34]
      by_cases h5 : (t.2 1 x.toNatClampNeg).1 2 = 0
      · rw [if_pos h5]
        unfold tK_Mm_deliver
        refine Eq.mpr (congrArg (fun z => REL z _ _) ((if_pos hr).trans ((if_pos (show (t.2 5 x.toNatClampNeg).2.1 5 = 0 from hc.s.mp h34)).trans (if_pos (show (t.2 5 x.toNatClampNeg).2.1 2 = 0 from hc.f.mp h5))))) ?_
        exact ⟨h.pa, h.pt, h.sa, h.co, h.ir, h.la, h.re, h.mo, ca_set h.ca ⟨hc.1, hc.2.1, hc.2.2.1, hc.2.2.2.1, Or.inr (Or.inl ⟨rfl, h34.2, rfl⟩), hc.2.2.2.2.2⟩, h.fb, h.sz, h.pz⟩
      · rw [if_neg h5]
        unfold tK_Mm_deliver
        refine Eq.mpr (congrArg (fun z => REL z _ _) ((if_pos hr).trans ((if_pos (show (t.2 5 x.toNatClampNeg).2.1 5 = 0 from hc.s.mp h34)).trans (if_neg (show ¬ (t.2 5 x.toNatClampNeg).2.1 2 = 0 from fun q => h5 (hc.f.mpr q)))))) ?_
        exact ⟨h.pa, h.pt, h.sa, h.co, h.ir, h.la, h.re, h.mo, ca_set1 h.ca ⟨hc.1, hc.2.1, hc.2.2.1, hc.2.2.2.1, Or.inl ⟨rfl, h34.2, hc.s.mp h34⟩, hc.2.2.2.2.2⟩, h.fb, h.sz, h.pz⟩
    · rw [if_neg h34]
      unfold tK_Mm_deliver
      refine Eq.mpr (congrArg (fun z => REL z _ _) ((if_pos hr).trans (if_neg (show ¬ (t.2 5 x.toNatClampNeg).2.1 5 = 0 from fun q => h34 (hc.s.mpr q))))) ?_
      exact h
  · rw [if_neg hx]
    unfold tK_Mm_deliver
    refine Eq.mpr (congrArg (fun z => REL z _ _) (if_neg (show ¬ (x.toNatClampNeg < n2 5 ∧ x = nI x.toNatClampNeg) from fun q => hx ⟨h.ca.1.symm ▸ q.1, q.2⟩))) ?_
    exact h
theorem R_weld {t : zTT} {n n1 n2 : Nat → Nat} {b : Nat} (x : Int32) (h : REL t n b) (e1 : n1 = n) (e2 : n2 = n1) : REL (tK_Mm_weld x (tK_Ip_weld x t n) n1) n2 b := by
  subst e1; subst e2
  unfold tK_Ip_weld
  by_cases hx : x.toNatClampNeg < n2 1 ∧ x = nI x.toNatClampNeg
  · rw [if_pos hx]
    have hr : x.toNatClampNeg < n2 5 ∧ x = nI x.toNatClampNeg := ⟨h.ca.1 ▸ hx.1, hx.2⟩
    have hc := h.ca.2.2 _ hx.1
    by_cases h12 : (t.2 1 x.toNatClampNeg).1 0 < 20 ∧ (t.2 1 x.toNatClampNeg).1 2 &&& 32 = 0
    · rw [if_pos h12]
      by_cases h34 : (t.2 1 x.toNatClampNeg).1 3 = 0 ∧ (t.2 1 x.toNatClampNeg).1 4 = 0
      · rw [if_pos h34]
        unfold tK_Mm_weld
        refine Eq.mpr (congrArg (fun z => REL z _ _) ((if_pos hr).trans ((if_pos (show ¬ (t.2 5 x.toNatClampNeg).2.1 4 = 1 ∧ (t.2 5 x.toNatClampNeg).2.1 2 &&& 32 = 0 from ⟨hc.d.mp h12.1, (hc.b 32 (by decide)).symm.trans h12.2⟩)).trans (if_pos (show (t.2 5 x.toNatClampNeg).2.1 5 = 0 from hc.s.mp h34))))) ?_
        exact ⟨h.pa, h.pt, h.sa, h.co, h.ir, h.la, h.re, h.mo, ca_set h.ca ⟨hc.1, hc.2.1, hc.2.2.1, ⟨by show ((t.2 1 x.toNatClampNeg).1 2 &&& -5) &&& -2 = ((t.2 5 x.toNatClampNeg).2.1 2 &&& -5) &&& -2; rw [Int32.and_assoc, Int32.and_assoc, show (-5 : Int32) &&& -2 = -2 &&& -5 by decide, ← Int32.and_assoc, ← Int32.and_assoc, hc.2.2.2.1.1], fun q => by show (t.2 1 x.toNatClampNeg).1 2 &&& -5 = (t.2 5 x.toNatClampNeg).2.1 2 &&& -5; rw [hc.2.2.2.1.2 (by have q2 : ((t.2 1 x.toNatClampNeg).1 2 &&& -5) &&& 2 = 0 := q; rw [Int32.and_assoc, show (-5 : Int32) &&& 2 = 2 by decide] at q2; exact q2)]⟩, hc.2.2.2.2.1, hc.2.2.2.2.2⟩, h.fb, h.sz, h.pz⟩
      · rw [if_neg h34]
        unfold tK_Mm_weld
        refine Eq.mpr (congrArg (fun z => REL z _ _) ((if_pos hr).trans ((if_pos (show ¬ (t.2 5 x.toNatClampNeg).2.1 4 = 1 ∧ (t.2 5 x.toNatClampNeg).2.1 2 &&& 32 = 0 from ⟨hc.d.mp h12.1, (hc.b 32 (by decide)).symm.trans h12.2⟩)).trans (if_neg (show ¬ (t.2 5 x.toNatClampNeg).2.1 5 = 0 from fun q => h34 (hc.s.mpr q)))))) ?_
        exact h
    · rw [if_neg h12]
      unfold tK_Mm_weld
      refine Eq.mpr (congrArg (fun z => REL z _ _) ((if_pos hr).trans (if_neg (show ¬ (¬ (t.2 5 x.toNatClampNeg).2.1 4 = 1 ∧ (t.2 5 x.toNatClampNeg).2.1 2 &&& 32 = 0) from fun q => h12 ⟨hc.d.mpr q.1, (hc.b 32 (by decide)).trans q.2⟩)))) ?_
      exact h
  · rw [if_neg hx]
    unfold tK_Mm_weld
    refine Eq.mpr (congrArg (fun z => REL z _ _) (if_neg (show ¬ (x.toNatClampNeg < n2 5 ∧ x = nI x.toNatClampNeg) from fun q => hx ⟨h.ca.1.symm ▸ q.1, q.2⟩))) ?_
    exact h
theorem R_breakUp {t : zTT} {n n1 n2 : Nat → Nat} {b : Nat} (x : Int32) (h : REL t n b) (e1 : n1 = n) (e2 : n2 = n1) : REL (tK_Mm_breakUp x (tK_Ip_breakUp x t n) n1) n2 b := by
  subst e1; subst e2
  unfold tK_Ip_breakUp
  by_cases hx : x.toNatClampNeg < n2 1 ∧ x = nI x.toNatClampNeg
  · rw [if_pos hx]
    have hr : x.toNatClampNeg < n2 5 ∧ x = nI x.toNatClampNeg := ⟨h.ca.1 ▸ hx.1, hx.2⟩
    have hc := h.ca.2.2 _ hx.1
    by_cases h34 : (t.2 1 x.toNatClampNeg).1 3 = 0 ∧ (t.2 1 x.toNatClampNeg).1 4 = 0
    · rw [if_pos h34]
      by_cases h5 : (t.2 1 x.toNatClampNeg).1 0 < 20
      · rw [if_pos h5]
        unfold tK_Mm_breakUp
        refine Eq.mpr (congrArg (fun z => REL z _ _) ((if_pos hr).trans ((if_pos (show (t.2 5 x.toNatClampNeg).2.1 5 = 0 from hc.s.mp h34)).trans (if_neg (show ¬ (t.2 5 x.toNatClampNeg).2.1 4 = 1 from hc.d.mp h5))))) ?_
        exact ⟨h.pa, h.pt, h.sa, h.co, h.ir.bu2 hc.2.1 hc.2.2.1, h.la, h.re, h.mo, ca_set h.ca ⟨hc.1, hc.2.1, hc.2.2.1, hc.2.2.2.1, Or.inr (Or.inr ⟨h34.1, rfl, rfl⟩), hc.2.2.2.2.2⟩, h.fb, h.sz, h.pz⟩
      · rw [if_neg h5]
        unfold tK_Mm_breakUp
        refine Eq.mpr (congrArg (fun z => REL z _ _) ((if_pos hr).trans ((if_pos (show (t.2 5 x.toNatClampNeg).2.1 5 = 0 from hc.s.mp h34)).trans (if_pos (show (t.2 5 x.toNatClampNeg).2.1 4 = 1 from Classical.not_not.mp (fun q => h5 (hc.d.mpr q))))))) ?_
        exact ⟨h.pa, h.pt, h.sa, h.co, h.ir.bu3 hc.2.1 hc.2.2.1, h.la, h.re, h.mo, ca_set h.ca ⟨hc.1, hc.2.1, hc.2.2.1, hc.2.2.2.1, Or.inr (Or.inr ⟨h34.1, rfl, rfl⟩), hc.2.2.2.2.2⟩, h.fb, h.sz, h.pz⟩
    · rw [if_neg h34]
      unfold tK_Mm_breakUp
      refine Eq.mpr (congrArg (fun z => REL z _ _) ((if_pos hr).trans (if_neg (show ¬ (t.2 5 x.toNatClampNeg).2.1 5 = 0 from fun q => h34 (hc.s.mpr q))))) ?_
      exact h
  · rw [if_neg hx]
    unfold tK_Mm_breakUp
    refine Eq.mpr (congrArg (fun z => REL z _ _) (if_neg (show ¬ (x.toNatClampNeg < n2 5 ∧ x = nI x.toNatClampNeg) from fun q => hx ⟨h.ca.1.symm ▸ q.1, q.2⟩))) ?_
    exact h
theorem mil_1 {a b m : Int32} (h : a = b ∧ 0 ≤ a.toInt ∧ a.toInt ≤ 300) (hm : 0 ≤ m ∧ m ≤ 20) : (if a + m < 300 then a + m else 300) = S_Mm_most (b + m) ∧ 0 ≤ (if a + m < 300 then a + m else 300).toInt ∧ (if a + m < 300 then a + m else 300).toInt ≤ 300 := by
  obtain ⟨rfl, h1, h2⟩ := h
  have e0 : (0 : Int32).toInt = 0 := rfl
  have e2 : (20 : Int32).toInt = 20 := rfl
  have e3 : (300 : Int32).toInt = 300 := rfl
  have m1 := hm.1
  have m2 := hm.2
  rw [Int32.le_iff_toInt_le, e0] at m1
  rw [Int32.le_iff_toInt_le, e2] at m2
  have e : (a + m).toInt = a.toInt + m.toInt := by rw [Int32.toInt_add]; exact bm32 (by omega) (by omega)
  refine ⟨(z_sat e (by omega)).symm, ?_⟩
  by_cases q : a + m < 300
  · rw [if_pos q, e]
    rw [Int32.lt_iff_toInt_lt, e3, e] at q
    omega
  · rw [if_neg q, e3]
    omega
theorem mil_2 {a b m : Int32} (h : a = b ∧ 0 ≤ a.toInt ∧ a.toInt ≤ 300) (hm : 0 ≤ m ∧ m ≤ 50) : a - a * m / 100 = b - b * m / 100 ∧ 0 ≤ (a - a * m / 100).toInt ∧ (a - a * m / 100).toInt ≤ 300 := by
  obtain ⟨rfl, h1, h2⟩ := h
  have e0 : (0 : Int32).toInt = 0 := rfl
  have e2 : (50 : Int32).toInt = 50 := rfl
  have e3 : (100 : Int32).toInt = 100 := rfl
  have m1 := hm.1
  have m2 := hm.2
  rw [Int32.le_iff_toInt_le, e0] at m1
  rw [Int32.le_iff_toInt_le, e2] at m2
  have p0 : 0 ≤ a.toInt * m.toInt := Int.mul_nonneg h1 m1
  have p1 : a.toInt * m.toInt ≤ a.toInt * 50 := Int.mul_le_mul_of_nonneg_left m2 h1
  have ea : (a * m).toInt = a.toInt * m.toInt := by rw [Int32.toInt_mul]; exact bm32 (by omega) (by omega)
  have ed : (a * m / 100).toInt = a.toInt * m.toInt / 100 := by
    rw [Int32.toInt_div, ea, e3, Int.tdiv_eq_ediv_of_nonneg p0]
    exact bm32 (by omega) (by omega)
  have es : (a - a * m / 100).toInt = a.toInt - a.toInt * m.toInt / 100 := by rw [Int32.toInt_sub, ed]; exact bm32 (by omega) (by omega)
  rw [es]
  exact ⟨rfl, by omega, by omega⟩
theorem R_mill {t : zTT} {n n1 n2 : Nat → Nat} {b : Nat} (m1 m2 m3 m4 : Int32) (h : REL t n b) (e1 : n1 = n) (e2 : n2 = n1) : REL (tK_Mm_mill m1 m2 m3 m4 (tK_Ip_mill m1 m2 m3 m4 t)) n2 b := by
  subst e1; subst e2
  unfold tK_Ip_mill
  by_cases hw : (0 ≤ m1 ∧ m1 ≤ 20) ∧ (0 ≤ m2 ∧ m2 ≤ 20) ∧ (0 ≤ m3 ∧ m3 ≤ 20) ∧ (0 ≤ m4 ∧ m4 ≤ 50)
  · rw [if_pos hw]
    unfold tK_Mm_mill
    refine Eq.mpr (congrArg (fun z => REL z _ _) (if_pos hw)) ?_
    exact ⟨h.pa, h.pt, fun i hi => match i, hi with
      | 0, _ => mil_1 (h.sa 0 (by decide)) hw.1
      | 1, _ => mil_1 (h.sa 1 (by decide)) hw.2.1
      | 2, _ => mil_1 (h.sa 2 (by decide)) hw.2.2.1
      | 3, _ => mil_2 (h.sa 3 (by decide)) hw.2.2.2
      | 4, _ => mil_2 (h.sa 4 (by decide)) hw.2.2.2
      | k + 5, hk => absurd hk (by omega), h.co, h.ir, h.la, h.re, h.mo, h.ca, h.fb, h.sz, h.pz⟩
  · rw [if_neg hw]
    unfold tK_Mm_mill
    refine Eq.mpr (congrArg (fun z => REL z _ _) (if_neg hw)) ?_
    exact h
theorem mg_add {a m : Int32} (h : 0 ≤ a.toInt ∧ a.toInt ≤ 100) (hm : 1 ≤ m ∧ m ≤ 100) (hg : a + m ≤ 100) : 0 ≤ (a + m).toInt ∧ (a + m).toInt ≤ 100 := by
  have e1 : (1 : Int32).toInt = 1 := rfl
  have e2 : (100 : Int32).toInt = 100 := rfl
  have m1 := hm.1
  have m2 := hm.2
  rw [Int32.le_iff_toInt_le, e1] at m1
  rw [Int32.le_iff_toInt_le, e2] at m2 hg
  have e : (a + m).toInt = a.toInt + m.toInt := by rw [Int32.toInt_add]; exact bm32 (by omega) (by omega)
  omega
theorem wd_if {a wd : Int32} {c : Prop} [Decidable c] (h : wd = 0 ∨ wd = 1) : (if c then wd else 1) = (if wd = 0 then if c then 0 else 1 else 1) ∧ ((if c then wd else 1) = 0 ∨ (if c then wd else 1) = 1) := by
  rcases h with rfl | rfl
  · by_cases hc : c
    · simp [hc]
    · simp [hc]
  · by_cases hc : c
    · simp [hc]
    · simp [hc]
theorem R_treat {t : zTT} {n n1 n2 : Nat → Nat} {b : Nat} (m : Int32) (h : REL t n b) (e1 : n1 = n) (e2 : n2 = n1) : REL (tK_Mm_treat m (tK_Ip_treat m t)) n2 b := by
  subst e1; subst e2
  unfold tK_Ip_treat
  by_cases hw : 1 ≤ m ∧ m ≤ 100
  · rw [if_pos hw]
    by_cases he0 : (t.1 43).1 0 = 0
    · rw [if_pos he0]
      unfold tK_Mm_treat
      refine Eq.mpr (congrArg (fun z => REL z _ _) ((if_pos hw).trans (if_pos (show (t.1 63).1 1 = 0 by rw [← h.ir.1.2.1]; exact he0)))) ?_
      exact h
    · rw [if_neg he0]
      have hn : ¬ (t.1 63).1 1 = 0 := by rw [← h.ir.1.2.1]; exact he0
      have l := h.la.2 hn
      by_cases hg : (t.1 42).1 1 + m ≤ 100
      · rw [if_pos hg]
        unfold tK_Mm_treat
        refine Eq.mpr (congrArg (fun z => REL z _ _) ((if_pos hw).trans ((if_neg hn).trans (if_pos (show (t.1 52).1 7 + m ≤ 100 by rw [← l.2.1]; exact hg))))) ?_
        have w9 := wd_if (a := 0) (c := (t.1 42).1 1 + m < 20) l.2.2.2.2.2
        refine ⟨h.pa, h.pt, (h.sa.u5 (by decide)).u5 (by decide), h.co, h.ir, ⟨h.la.1, fun _ => ⟨l.1, ?_, ?_, l.2.2.2.1, mg_add l.2.2.2.2.1 hw hg, w9.2⟩⟩, h.re, h.mo, h.ca, h.fb, h.sz, h.pz⟩
        · show (t.1 42).1 1 + m = (t.1 52).1 7 + m
          rw [l.2.1]
        · show (if (t.1 42).1 1 + m < 20 then (t.1 42).1 2 else 1) = (if (t.1 52).1 8 = 0 then if (t.1 52).1 7 + m < 20 then 0 else 1 else 1)
          rw [← l.2.1, ← l.2.2.1]
          exact w9.1
      · rw [if_neg hg]
        unfold tK_Mm_treat
        refine Eq.mpr (congrArg (fun z => REL z _ _) ((if_pos hw).trans ((if_neg hn).trans (if_neg (show ¬ (t.1 52).1 7 + m ≤ 100 by rw [← l.2.1]; exact hg))))) ?_
        exact h
  · rw [if_neg hw]
    unfold tK_Mm_treat
    refine Eq.mpr (congrArg (fun z => REL z _ _) (if_neg hw)) ?_
    exact h
theorem R_makeCores {t : zTT} {n n1 n2 : Nat → Nat} {b : Nat} (hb : b ≤ 100000) (c k : Int32) (h : REL t n b) (e1 : n1 = n) (e2 : n2 = nK_Mm_makeCores c k (tK_Ip_makeCores c k t) n1) : REL (tK_Mm_makeCores c k (tK_Ip_makeCores c k t) n1) n2 b := by
  subst e1
  rw [e2]
  unfold tK_Ip_makeCores
  by_cases hw : (1 ≤ c ∧ c ≤ 10) ∧ (1 ≤ k ∧ k ≤ 24)
  · rw [if_pos hw]
    by_cases hf : (t.1 32).2.2 0 < 20
    · rw [if_pos hf]
      have hn : ¬ n1 2 = 20 := by rw [← h.co.1]; omega
      unfold tK_Mm_makeCores nK_Mm_makeCores
      refine Eq.mpr (congrArg (fun z => REL z _ _) ((if_pos hw).trans (if_pos hn))) ?_
      refine Eq.mpr (congrArg (fun z => REL _ z _) ((if_pos hw).trans (if_pos hn))) ?_
      refine ⟨h.pa, h.pt, h.sa, ⟨?_, h.co.2.1, fun i hi => ?_⟩, h.ir, h.la, h.re, h.mo, h.ca, h.fb, ⟨by show n1 2 + 1 ≤ 20; rw [← h.co.1]; omega, h.sz.2⟩, h.pz⟩
      · show (t.1 32).2.2 0 + 1 = n1 2 + 1
        rw [h.co.1]
      · have hi : i < n1 2 + 1 := hi
        show (upd (t.1 33).1 ((t.1 32).2.2 0) c) i = ((if i = n1 2 then mkV c ((t.1 52).1 5 + k) else t.2 2 i) : zV).2.1 0 ∧ (1 ≤ ((upd (t.1 33).1 ((t.1 32).2.2 0) c) i).toInt ∧ ((upd (t.1 33).1 ((t.1 32).2.2 0) c) i).toInt ≤ 10) ∧ (1 ≤ ((upd (t.1 34).1 ((t.1 32).2.2 0) k) i).toInt ∧ ((upd (t.1 34).1 ((t.1 32).2.2 0) k) i).toInt ≤ 24) ∧ (0 ≤ ((upd (t.1 35).1 ((t.1 32).2.2 0) 0) i).toInt ∧ ((upd (t.1 35).1 ((t.1 32).2.2 0) 0) i).toInt ≤ ((upd (t.1 34).1 ((t.1 32).2.2 0) k) i).toInt + 72) ∧ (((if i = n1 2 then mkV c ((t.1 52).1 5 + k) else t.2 2 i) : zV).2.1 1).toInt = ((t.1 52).1 5).toInt - ((upd (t.1 35).1 ((t.1 32).2.2 0) 0) i).toInt + ((upd (t.1 34).1 ((t.1 32).2.2 0) k) i).toInt
        rw [h.co.1]
        by_cases q : i = n1 2
        · subst q
          rw [upd_eq, upd_eq, upd_eq, if_pos rfl]
          have a1 := hw.1.1
          have a2 := hw.1.2
          have b1 := hw.2.1
          have b2 := hw.2.2
          rw [Int32.le_iff_toInt_le, show (1 : Int32).toInt = 1 from rfl] at a1 b1
          rw [Int32.le_iff_toInt_le, show (10 : Int32).toInt = 10 from rfl] at a2
          rw [Int32.le_iff_toInt_le, show (24 : Int32).toInt = 24 from rfl] at b2
          refine ⟨rfl, ⟨a1, a2⟩, ⟨b1, b2⟩, ⟨by decide, by rw [show (0 : Int32).toInt = 0 from rfl]; omega⟩, ?_⟩
          show ((t.1 52).1 5 + k).toInt = _
          have hh := h.co.2.1
          rw [Int32.toInt_add, show (0 : Int32).toInt = 0 from rfl, bm32 (by omega) (by omega)]
          omega
        · rw [upd_ne q, upd_ne q, upd_ne q, if_neg q]
          exact h.co.2.2 i (by omega)
    · rw [if_neg hf]
      have h20 : ¬ ¬ n1 2 = 20 := fun q => q (by have e8 := h.co.1; have e9 := h.sz.1; omega)
      unfold tK_Mm_makeCores nK_Mm_makeCores
      refine Eq.mpr (congrArg (fun z => REL z _ _) ((if_pos hw).trans (if_neg h20))) ?_
      refine Eq.mpr (congrArg (fun z => REL _ z _) ((if_pos hw).trans (if_neg h20))) ?_
      exact h
  · rw [if_neg hw]
    unfold tK_Mm_makeCores nK_Mm_makeCores
    refine Eq.mpr (congrArg (fun z => REL z _ _) (if_neg hw)) ?_
    refine Eq.mpr (congrArg (fun z => REL _ z _) (if_neg hw)) ?_
    exact h
theorem lhS_i {h : Int32} (h1 : 20 ≤ h.toInt) (h2 : h.toInt ≤ 1450) : ∀ i, i ≤ 60 → (lhS h i).toInt = (if 20 < h.toInt - 4 * (i : Int) then h.toInt - 4 * (i : Int) else 20) ∧ 20 ≤ (lhS h i).toInt ∧ (lhS h i).toInt ≤ 1450
  | 0, _ => by
    show h.toInt = _ ∧ 20 ≤ h.toInt ∧ h.toInt ≤ 1450
    refine ⟨?_, h1, h2⟩
    split <;> omega
  | i + 1, hi => by
    obtain ⟨e, k1, k2⟩ := lhS_i h1 h2 i (by omega)
    have e4 : (4 : Int32).toInt = 4 := rfl
    have e20 : (20 : Int32).toInt = 20 := rfl
    have es : (lhS h i - 4).toInt = (lhS h i).toInt - 4 := by rw [Int32.toInt_sub, e4]; exact bm32 (by omega) (by omega)
    show (if 20 < lhS h i - 4 then lhS h i - 4 else 20).toInt = _ ∧ 20 ≤ (if 20 < lhS h i - 4 then lhS h i - 4 else 20).toInt ∧ (if 20 < lhS h i - 4 then lhS h i - 4 else 20).toInt ≤ 1450
    have ec : ((i + 1 : Nat) : Int) = (i : Int) + 1 := by omega
    rw [ec]
    by_cases q : 20 < lhS h i - 4
    · rw [if_pos q, es]
      rw [Int32.lt_iff_toInt_lt, e20, es] at q
      refine ⟨?_, by omega, by omega⟩
      split at e <;> split <;> omega
    · rw [if_neg q, e20]
      rw [Int32.lt_iff_toInt_lt, e20, es] at q
      refine ⟨?_, by omega, by omega⟩
      split at e <;> split <;> omega
theorem lhS_eq {h : Int32} {a : Nat} (h1 : 20 ≤ h.toInt) (h2 : h.toInt ≤ 1450) (ha : a ≤ 60) : (if 20 < h - 4 * nI a then h - 4 * nI a else 20) = lhS h a := by
  have k := (lhS_i h1 h2 a ha).1
  have e20 : (20 : Int32).toInt = 20 := rfl
  have e4 : (4 * nI a : Int32) = nI (4 * a) := pk_mul _ _
  have es : (h - nI (4 * a)).toInt = h.toInt - 4 * (a : Int) := by rw [Int32.toInt_sub, nI_toInt (by omega), bm32 (by omega) (by omega)]; omega
  rw [e4]
  refine Int32.toInt_inj.mp ?_
  rw [k]
  by_cases q : 20 < h - nI (4 * a)
  · rw [if_pos q, es]
    rw [Int32.lt_iff_toInt_lt, e20, es] at q
    rw [if_pos q]
  · rw [if_neg q, e20]
    rw [Int32.lt_iff_toInt_lt, e20, es] at q
    rw [if_neg q]
theorem mgS_i {m : Int32} (h1 : 0 ≤ m.toInt) (h2 : m.toInt ≤ 100) : ∀ i, 0 ≤ (mgS m i).toInt ∧ (mgS m i).toInt ≤ 100
  | 0 => ⟨h1, h2⟩
  | i + 1 => by
    obtain ⟨k1, k2⟩ := mgS_i h1 h2 i
    have e19 : (19 : Int32).toInt = 19 := rfl
    have e20 : (20 : Int32).toInt = 20 := rfl
    have ea : (mgS m i + 19).toInt = (mgS m i).toInt + 19 := by rw [Int32.toInt_add, e19]; exact bm32 (by omega) (by omega)
    have ed : ((mgS m i + 19) / 20).toInt = ((mgS m i).toInt + 19) / 20 := by
      rw [Int32.toInt_div, ea, e20, Int.tdiv_eq_ediv_of_nonneg (by omega)]
      exact bm32 (by omega) (by omega)
    show 0 ≤ (mgS m i - (mgS m i + 19) / 20).toInt ∧ (mgS m i - (mgS m i + 19) / 20).toInt ≤ 100
    have es : (mgS m i - (mgS m i + 19) / 20).toInt = (mgS m i).toInt - ((mgS m i).toInt + 19) / 20 := by rw [Int32.toInt_sub, ed]; exact bm32 (by omega) (by omega)
    rw [es]
    omega
theorem mo_wt {t : zTT} {n : Nat → Nat} {x : Int32} (h : n 0 = n 3 ∧ n 4 = n 3 ∧ ∀ i, i < n 0 → RELm (t.2 0 i) (t.2 3 i) (t.2 4 i)) : n 0 = n 3 ∧ n 4 = n 3 ∧ ∀ i, i < n 0 → RELm (if 0 = 0 ∧ i < n 0 then wtV9 x (t.2 0 i) else t.2 0 i) (t.2 3 i) (if 4 = 4 ∧ i < n 4 then nuV9 x (t.2 4 i) else t.2 4 i) := by
  refine ⟨h.1, h.2.1, fun i hi => ?_⟩
  rw [if_pos ⟨rfl, hi⟩, if_pos ⟨rfl, by have := h.1; have := h.2.1; omega⟩]
  obtain ⟨a1, a2, a3, a4, a5, a6, a7, a8⟩ := h.2.2 i hi
  refine ⟨a1, a2, a3, a4, a5, a6, a7, ?_⟩
  show (t.2 0 i).1 5 + x = (t.2 4 i).2.1 4 + x
  rw [a8]
theorem R_minutes {t : zTT} {n n1 n2 : Nat → Nat} {b : Nat} (x : Int32) (h : REL t n b) (e1 : n1 = n) (e2 : n2 = n1) : REL (tK_Mm_minutes x (tK_Ip_minutes x t n) n1) n2 b := by
  subst e1; subst e2
  unfold tK_Ip_minutes
  by_cases hw : 1 ≤ x ∧ x ≤ 60
  · rw [if_pos hw]
    obtain ⟨a9, ha9, e9⟩ := z_in20 (b := 60) (by decide) ⟨Int32.le_trans (by decide) hw.1, hw.2⟩
    subst e9
    have ek : (nI a9).toNatClampNeg = a9 := nI_clamp (by omega)
    rw [ek]
    unfold tK_Mm_minutes
    refine Eq.mpr (congrArg (fun z => REL z _ _) (if_pos hw)) ?_
    by_cases h1 : (t.1 63).1 1 ≤ 0
    · refine Eq.mpr (congrArg (fun z => REL (elT 4 (nuV9 (nI a9)) z (n2 4)) _ _) (if_pos (show (t.1 63).1 1 ≤ 0 from h1))) ?_
      exact ⟨h.pa, h.pt, h.sa, h.co, h.ir, ⟨h.la.1, fun q => absurd (show (t.1 63).1 1 = 0 from by have h0 := h.la.1; rw [Int32.le_iff_toInt_le, show (0 : Int32).toInt = 0 from rfl] at h1; exact Int32.toInt_inj.mp (by rw [show (0 : Int32).toInt = 0 from rfl]; omega)) q⟩, h.re, mo_wt h.mo, h.ca, h.fb, h.sz, h.pz⟩
    · refine Eq.mpr (congrArg (fun z => REL (elT 4 (nuV9 (nI a9)) z (n2 4)) _ _) (if_neg (show ¬ (t.1 63).1 1 ≤ 0 from h1))) ?_
      rw [ek]
      have l := fun q => h.la.2 q
      refine ⟨h.pa, h.pt, (h.sa.u5 (by decide)).u5 (by decide), h.co, h.ir, ⟨h.la.1, fun q => ?_⟩, h.re, mo_wt h.mo, h.ca, h.fb, h.sz, h.pz⟩
      have l := h.la.2 q
      have l4 := l.2.2.2.1
      refine ⟨?_, ?_, l.2.2.1, ?_, mgS_i l.2.2.2.2.1.1 l.2.2.2.2.1.2 a9, l.2.2.2.2.2⟩
      · show (if 20 < (t.1 42).1 0 - 4 * nI a9 then (t.1 42).1 0 - 4 * nI a9 else 20) = lhS ((t.1 52).1 6) a9
        rw [← l.1]
        exact lhS_eq l4.1 l4.2 ha9
      · show mgS ((t.1 42).1 1) a9 = mgS ((t.1 52).1 7) a9
        rw [l.2.1]
      · show 20 ≤ (if 20 < (t.1 42).1 0 - 4 * nI a9 then (t.1 42).1 0 - 4 * nI a9 else 20).toInt ∧ (if 20 < (t.1 42).1 0 - 4 * nI a9 then (t.1 42).1 0 - 4 * nI a9 else 20).toInt ≤ 1450
        rw [lhS_eq l4.1 l4.2 ha9]
        exact (lhS_i l4.1 l4.2 a9 ha9).2
  · rw [if_neg hw]
    unfold tK_Mm_minutes
    refine Eq.mpr (congrArg (fun z => REL z _ _) (if_neg hw)) ?_
    exact h
def kx (p : Nat → Bool) : Nat → Nat → Nat
  | 0 => fun _ => 0
  | i + 1 => if p i = true then (fun j => if j = fa_cnt p i then i else kx p i j) else kx p i
theorem kx_y {p : Nat → Bool} {i : Nat} (h : p i = true) : kx p (i + 1) = fun j => if j = fa_cnt p i then i else kx p i j := if_pos h
theorem kx_n {p : Nat → Bool} {i : Nat} (h : p i = false) : kx p (i + 1) = kx p i := if_neg (by rw [h]; decide)
theorem kx_lt {p : Nat → Bool} : ∀ i j, j < fa_cnt p i → kx p i j < i ∧ p (kx p i j) = true
  | 0, j, h => absurd h (Nat.not_lt_zero j)
  | i + 1, j, h => by
    cases e : p i with
    | true =>
      rw [fa_cnt_yes e] at h
      rw [kx_y e]
      show (if j = fa_cnt p i then i else kx p i j) < i + 1 ∧ p (if j = fa_cnt p i then i else kx p i j) = true
      by_cases q : j = fa_cnt p i
      · rw [if_pos q]; exact ⟨by omega, e⟩
      · rw [if_neg q]
        have := kx_lt (p := p) i j (by omega)
        exact ⟨by omega, this.2⟩
    | false =>
      rw [fa_cnt_no e] at h
      rw [kx_n e]
      have := kx_lt (p := p) i j h
      exact ⟨by omega, this.2⟩
theorem kx_cg {p q : Nat → Bool} : ∀ i, (∀ k, k < i → p k = q k) → fa_cnt p i = fa_cnt q i ∧ ∀ j, kx p i j = kx q i j
  | 0, _ => ⟨rfl, fun _ => rfl⟩
  | i + 1, h => by
    obtain ⟨a, b⟩ := kx_cg i (fun k hk => h k (by omega))
    have e := h i (by omega)
    cases eq : q i with
    | true =>
      rw [eq] at e
      refine ⟨by rw [fa_cnt_yes e, fa_cnt_yes eq, a], fun j => ?_⟩
      rw [kx_y e, kx_y eq]
      show (if j = fa_cnt p i then i else kx p i j) = (if j = fa_cnt q i then i else kx q i j)
      rw [a, b]
    | false =>
      rw [eq] at e
      refine ⟨by rw [fa_cnt_no e, fa_cnt_no eq, a], fun j => ?_⟩
      rw [kx_n e, kx_n eq]
      exact b j
theorem dwL_k (P : zV → Bool) (Q : zV → Int32) : ∀ (c r : Nat) (V : Nat → zV) (s : Int32), (dwL P Q c (c + r, V, s)).1 = fa_cnt (fun k => P (V k)) c + r ∧ (∀ j, j < fa_cnt (fun k => P (V k)) c → (dwL P Q c (c + r, V, s)).2.1 j = V (kx (fun k => P (V k)) c j)) ∧ ∀ j, fa_cnt (fun k => P (V k)) c ≤ j → (dwL P Q c (c + r, V, s)).2.1 j = V (j - fa_cnt (fun k => P (V k)) c + c)
  | 0, r, V, s => ⟨rfl, fun j h => absurd h (Nat.not_lt_zero j), fun j _ => rfl⟩
  | c + 1, r, V, s => by
    cases e : P (V c) with
    | true =>
      obtain ⟨a, b, d⟩ := dwL_k P Q c (r + 1) V s
      have es : dwL P Q (c + 1) (c + 1 + r, V, s) = dwL P Q c (c + (r + 1), V, s) := by
        show dwL P Q c (if P (V c) = true then (c + 1 + r, V, s) else (c + 1 + r - 1, z_dlV V c, s + Q (V c))) = _
        rw [if_pos e, show c + 1 + r = c + (r + 1) by omega]
      rw [es, fa_cnt_yes (p := fun k => P (V k)) e, kx_y (p := fun k => P (V k)) e]
      refine ⟨by rw [a]; omega, fun j hj => ?_, fun j hj => ?_⟩
      · show _ = V (if j = fa_cnt (fun k => P (V k)) c then c else kx (fun k => P (V k)) c j)
        by_cases q : j = fa_cnt (fun k => P (V k)) c
        · rw [if_pos q, d j (by omega)]
          congr 1
          omega
        · rw [if_neg q]
          exact b j (by omega)
      · rw [d j (by omega)]
        congr 1
        omega
    | false =>
      obtain ⟨a, b, d⟩ := dwL_k P Q c r (z_dlV V c) (s + Q (V c))
      have es : dwL P Q (c + 1) (c + 1 + r, V, s) = dwL P Q c (c + r, z_dlV V c, s + Q (V c)) := by
        show dwL P Q c (if P (V c) = true then (c + 1 + r, V, s) else (c + 1 + r - 1, z_dlV V c, s + Q (V c))) = _
        rw [if_neg (by rw [e]; decide), show c + 1 + r - 1 = c + r by omega]
      have cg := kx_cg (p := fun k => P (z_dlV V c k)) (q := fun k => P (V k)) c (fun k hk => by show P (z_dlV V c k) = P (V k); rw [show z_dlV V c k = V k from if_pos hk])
      rw [cg.1] at a b d
      rw [es, fa_cnt_no (p := fun k => P (V k)) e, kx_n (p := fun k => P (V k)) e]
      refine ⟨a, fun j hj => ?_, fun j hj => ?_⟩
      · rw [b j hj, cg.2 j]
        exact if_pos (kx_lt c j hj).1
      · rw [d j hj]
        show (if j - fa_cnt (fun k => P (V k)) c + c < c then V (j - fa_cnt (fun k => P (V k)) c + c) else V (j - fa_cnt (fun k => P (V k)) c + c + 1)) = _
        rw [if_neg (by omega)]
        rfl
def cnP (cn : Nat → Int32) (k : Nat) : Bool := decide (¬ cn k ≤ 0)
theorem dlS_k (cn cu ag : Nat → Int32) : ∀ i, (dlS cn cu ag i).1 = fa_cnt (cnP cn) i ∧ (∀ j, j < fa_cnt (cnP cn) i → (dlS cn cu ag i).2.1 j = cn (kx (cnP cn) i j) ∧ (dlS cn cu ag i).2.2.1 j = cu (kx (cnP cn) i j) ∧ (dlS cn cu ag i).2.2.2 j = ag (kx (cnP cn) i j)) ∧ ∀ j, i ≤ j → (dlS cn cu ag i).2.1 j = cn j ∧ (dlS cn cu ag i).2.2.1 j = cu j ∧ (dlS cn cu ag i).2.2.2 j = ag j
  | 0 => ⟨rfl, fun j h => absurd h (Nat.not_lt_zero j), fun j _ => ⟨rfl, rfl, rfl⟩⟩
  | i + 1 => by
    obtain ⟨a, b, d⟩ := dlS_k cn cu ag i
    have le := dlS_le cn cu ag i
    have di := d i (Nat.le_refl i)
    by_cases q : cn i ≤ 0
    · have hp : cnP cn i = false := decide_eq_false (fun z => z q)
      rw [dlS_t (by rw [di.1]; exact q), fa_cnt_no hp, kx_n hp]
      exact ⟨a, b, fun j hj => d j (by omega)⟩
    · have hp : cnP cn i = true := decide_eq_true q
      rw [dlS_f (by rw [di.1]; exact q), fa_cnt_yes hp, kx_y hp]
      refine ⟨by show (dlS cn cu ag i).1 + 1 = _; rw [a], fun j hj => ?_, fun j hj => ?_⟩
      · show upd (dlS cn cu ag i).2.1 (dlS cn cu ag i).1 ((dlS cn cu ag i).2.1 i) j = cn (if j = fa_cnt (cnP cn) i then i else kx (cnP cn) i j) ∧ upd (dlS cn cu ag i).2.2.1 (dlS cn cu ag i).1 ((dlS cn cu ag i).2.2.1 i) j = cu (if j = fa_cnt (cnP cn) i then i else kx (cnP cn) i j) ∧ upd (dlS cn cu ag i).2.2.2 (dlS cn cu ag i).1 ((dlS cn cu ag i).2.2.2 i) j = ag (if j = fa_cnt (cnP cn) i then i else kx (cnP cn) i j)
        rw [a]
        by_cases r : j = fa_cnt (cnP cn) i
        · rw [r, upd_eq, upd_eq, upd_eq, if_pos rfl]
          exact di
        · rw [upd_ne r, upd_ne r, upd_ne r, if_neg r]
          exact b j (by omega)
      · have hj2 : ¬ j = (dlS cn cu ag i).1 := by omega
        show upd (dlS cn cu ag i).2.1 (dlS cn cu ag i).1 ((dlS cn cu ag i).2.1 i) j = cn j ∧ upd (dlS cn cu ag i).2.2.1 (dlS cn cu ag i).1 ((dlS cn cu ag i).2.2.1 i) j = cu j ∧ upd (dlS cn cu ag i).2.2.2 (dlS cn cu ag i).1 ((dlS cn cu ag i).2.2.2 i) j = ag j
        rw [upd_ne hj2, upd_ne hj2, upd_ne hj2]
        exact d j (by omega)
theorem gwS_k (cn cu ag : Nat → Int32) (h : Int32) : ∀ i, (∀ k, k < i → (gwS cn cu ag h i).1 k = (if ag k + h ≤ cu k + 72 then cn k else 0) ∧ (gwS cn cu ag h i).2.1 k = ag k + h) ∧ ∀ k, i ≤ k → (gwS cn cu ag h i).1 k = cn k ∧ (gwS cn cu ag h i).2.1 k = ag k
  | 0 => ⟨fun k hk => absurd hk (Nat.not_lt_zero k), fun k _ => ⟨rfl, rfl⟩⟩
  | i + 1 => by
    obtain ⟨a, b⟩ := gwS_k cn cu ag h i
    have bi := b i (Nat.le_refl i)
    by_cases q : ag i + h ≤ cu i + 72
    · rw [gwS_t (by rw [bi.2]; exact q)]
      refine ⟨fun k hk => ?_, fun k hk => ?_⟩
      · show (gwS cn cu ag h i).1 k = _ ∧ upd (gwS cn cu ag h i).2.1 i ((gwS cn cu ag h i).2.1 i + h) k = _
        by_cases r : k = i
        · subst r
          rw [upd_eq, bi.1, bi.2, if_pos q]
          exact ⟨rfl, rfl⟩
        · rw [upd_ne r]
          exact a k (by omega)
      · show (gwS cn cu ag h i).1 k = _ ∧ upd (gwS cn cu ag h i).2.1 i ((gwS cn cu ag h i).2.1 i + h) k = _
        rw [upd_ne (by omega)]
        exact b k (by omega)
    · have es : gwS cn cu ag h (i + 1) = (upd (gwS cn cu ag h i).1 i 0, upd (gwS cn cu ag h i).2.1 i ((gwS cn cu ag h i).2.1 i + h), (gwS cn cu ag h i).2.2 + (gwS cn cu ag h i).1 i) := if_neg (by rw [bi.2]; exact q)
      rw [es]
      refine ⟨fun k hk => ?_, fun k hk => ?_⟩
      · show upd (gwS cn cu ag h i).1 i 0 k = _ ∧ upd (gwS cn cu ag h i).2.1 i ((gwS cn cu ag h i).2.1 i + h) k = _
        by_cases r : k = i
        · subst r
          rw [upd_eq, upd_eq, bi.2, if_neg q]
          exact ⟨rfl, rfl⟩
        · rw [upd_ne r, upd_ne r]
          exact a k (by omega)
      · show upd (gwS cn cu ag h i).1 i 0 k = _ ∧ upd (gwS cn cu ag h i).2.1 i ((gwS cn cu ag h i).2.1 i + h) k = _
        rw [upd_ne (by omega), upd_ne (by omega)]
        exact b k (by omega)
theorem R_hours {t : zTT} {n n1 n2 : Nat → Nat} {b : Nat} (hb : b ≤ 100000) (x : Int32) (h : REL t n b) (e1 : n1 = n) (e2 : n2 = nK_Mm_hours x (tK_Ip_hours x t) n1) : REL (tK_Mm_hours x (tK_Ip_hours x t) n1) n2 (b + 48) := by
  subst e1
  rw [e2]
  unfold tK_Ip_hours
  by_cases hw : 1 ≤ x ∧ x ≤ 48
  · rw [if_pos hw]
    unfold tK_Mm_hours nK_Mm_hours
    refine Eq.mpr (congrArg (fun z => REL z _ _) (if_pos hw)) ?_
    refine Eq.mpr (congrArg (fun z => REL _ z _) (if_pos hw)) ?_
    obtain ⟨c1, ⟨c2, c3⟩, c4⟩ := h.co
    have a1 := hw.1
    have a2 := hw.2
    rw [Int32.le_iff_toInt_le, show (1 : Int32).toInt = 1 from rfl] at a1
    rw [Int32.le_iff_toInt_le, show (48 : Int32).toInt = 48 from rfl] at a2
    have e72 : (72 : Int32).toInt = 72 := rfl
    have eH : ((t.1 52).1 5 + x).toInt = ((t.1 52).1 5).toInt + x.toInt := by rw [Int32.toInt_add]; exact bm32 (by omega) (by omega)
    have hg := gwS_k (t.1 33).1 (t.1 34).1 (t.1 35).1 x (n1 2)
    have hd := dlS_k (gwS (t.1 33).1 (t.1 34).1 (t.1 35).1 x (n1 2)).1 (t.1 34).1 (gwS (t.1 33).1 (t.1 34).1 (t.1 35).1 x (n1 2)).2.1 (n1 2)
    have hk := dwL_k (hrP ((t.1 52).1 5 + x)) v0I (n1 2) 0 (t.2 2) 0
    rw [Nat.add_zero] at hk
    have hp : ∀ k, k < n1 2 → cnP (gwS (t.1 33).1 (t.1 34).1 (t.1 35).1 x (n1 2)).1 k = hrP ((t.1 52).1 5 + x) (t.2 2 k) ∧ (hrP ((t.1 52).1 5 + x) (t.2 2 k) = true → (t.1 35).1 k + x ≤ (t.1 34).1 k + 72 ∧ ((t.1 35).1 k + x).toInt = ((t.1 35).1 k).toInt + x.toInt ∧ ((t.1 35).1 k).toInt + x.toInt ≤ ((t.1 34).1 k).toInt + 72) := fun k hk => by
      obtain ⟨d1, d2, d3, d4, d5⟩ := c4 k hk
      have ea : ((t.1 35).1 k + x).toInt = ((t.1 35).1 k).toInt + x.toInt := by rw [Int32.toInt_add]; exact bm32 (by omega) (by omega)
      have ec : ((t.1 34).1 k + 72).toInt = ((t.1 34).1 k).toInt + 72 := by rw [Int32.toInt_add, e72]; exact bm32 (by omega) (by omega)
      have el : ((t.2 2 k).2.1 1 + 72).toInt = ((t.2 2 k).2.1 1).toInt + 72 := by rw [Int32.toInt_add, e72]; exact bm32 (by omega) (by omega)
      unfold cnP hrP
      rw [(hg.1 k hk).1]
      by_cases q : (t.1 35).1 k + x ≤ (t.1 34).1 k + 72
      · have q2 : (t.1 52).1 5 + x ≤ (t.2 2 k).2.1 1 + 72 := by
          rw [Int32.le_iff_toInt_le, ea, ec] at q
          rw [Int32.le_iff_toInt_le, eH, el]
          omega
        rw [if_pos q, decide_eq_true q2, decide_eq_true (show ¬ (t.1 33).1 k ≤ 0 from fun z => by rw [Int32.le_iff_toInt_le, show (0 : Int32).toInt = 0 from rfl] at z; omega)]
        refine ⟨rfl, fun _ => ⟨q, ea, ?_⟩⟩
        rw [Int32.le_iff_toInt_le, ea, ec] at q
        exact q
      · have q2 : ¬ (t.1 52).1 5 + x ≤ (t.2 2 k).2.1 1 + 72 := by
          rw [Int32.le_iff_toInt_le, ea, ec] at q
          rw [Int32.le_iff_toInt_le, eH, el]
          omega
        rw [if_neg q, decide_eq_false q2, decide_eq_false (fun z => z (by decide))]
        exact ⟨rfl, fun z => by cases z⟩
    have cg := kx_cg (p := cnP (gwS (t.1 33).1 (t.1 34).1 (t.1 35).1 x (n1 2)).1) (q := fun k => hrP ((t.1 52).1 5 + x) (t.2 2 k)) (n1 2) (fun k hk => (hp k hk).1)
    rw [cg.1] at hd
    refine ⟨h.pa, h.pt, h.sa.u5 (by decide), ⟨?_, ⟨?_, ?_⟩, fun i hi => ?_⟩, h.ir, h.la, h.re, h.mo, h.ca, h.fb, ⟨?_, h.sz.2⟩, h.pz⟩
    · show (dlS (gwS (t.1 33).1 (t.1 34).1 (t.1 35).1 x ((t.1 32).2.2 0)).1 (t.1 34).1 (gwS (t.1 33).1 (t.1 34).1 (t.1 35).1 x ((t.1 32).2.2 0)).2.1 ((t.1 32).2.2 0)).1 = (dwL (hrP ((t.1 52).1 5 + x)) v0I (n1 2) (n1 2, t.2 2, 0)).1
      rw [c1, hd.1, hk.1, Nat.add_zero]
    · show 0 ≤ ((t.1 52).1 5 + x).toInt
      rw [eH]; omega
    · show ((t.1 52).1 5 + x).toInt ≤ ((b + 48 : Nat) : Int)
      rw [eH]; omega
    · have hi : i < (dwL (hrP ((t.1 52).1 5 + x)) v0I (n1 2) (n1 2, t.2 2, 0)).1 := hi
      rw [hk.1, Nat.add_zero] at hi
      show (dlS (gwS (t.1 33).1 (t.1 34).1 (t.1 35).1 x ((t.1 32).2.2 0)).1 (t.1 34).1 (gwS (t.1 33).1 (t.1 34).1 (t.1 35).1 x ((t.1 32).2.2 0)).2.1 ((t.1 32).2.2 0)).2.1 i = ((dwL (hrP ((t.1 52).1 5 + x)) v0I (n1 2) (n1 2, t.2 2, 0)).2.1 i).2.1 0 ∧ (1 ≤ ((dlS (gwS (t.1 33).1 (t.1 34).1 (t.1 35).1 x ((t.1 32).2.2 0)).1 (t.1 34).1 (gwS (t.1 33).1 (t.1 34).1 (t.1 35).1 x ((t.1 32).2.2 0)).2.1 ((t.1 32).2.2 0)).2.1 i).toInt ∧ ((dlS (gwS (t.1 33).1 (t.1 34).1 (t.1 35).1 x ((t.1 32).2.2 0)).1 (t.1 34).1 (gwS (t.1 33).1 (t.1 34).1 (t.1 35).1 x ((t.1 32).2.2 0)).2.1 ((t.1 32).2.2 0)).2.1 i).toInt ≤ 10) ∧ (1 ≤ ((dlS (gwS (t.1 33).1 (t.1 34).1 (t.1 35).1 x ((t.1 32).2.2 0)).1 (t.1 34).1 (gwS (t.1 33).1 (t.1 34).1 (t.1 35).1 x ((t.1 32).2.2 0)).2.1 ((t.1 32).2.2 0)).2.2.1 i).toInt ∧ ((dlS (gwS (t.1 33).1 (t.1 34).1 (t.1 35).1 x ((t.1 32).2.2 0)).1 (t.1 34).1 (gwS (t.1 33).1 (t.1 34).1 (t.1 35).1 x ((t.1 32).2.2 0)).2.1 ((t.1 32).2.2 0)).2.2.1 i).toInt ≤ 24) ∧ (0 ≤ ((dlS (gwS (t.1 33).1 (t.1 34).1 (t.1 35).1 x ((t.1 32).2.2 0)).1 (t.1 34).1 (gwS (t.1 33).1 (t.1 34).1 (t.1 35).1 x ((t.1 32).2.2 0)).2.1 ((t.1 32).2.2 0)).2.2.2 i).toInt ∧ ((dlS (gwS (t.1 33).1 (t.1 34).1 (t.1 35).1 x ((t.1 32).2.2 0)).1 (t.1 34).1 (gwS (t.1 33).1 (t.1 34).1 (t.1 35).1 x ((t.1 32).2.2 0)).2.1 ((t.1 32).2.2 0)).2.2.2 i).toInt ≤ ((dlS (gwS (t.1 33).1 (t.1 34).1 (t.1 35).1 x ((t.1 32).2.2 0)).1 (t.1 34).1 (gwS (t.1 33).1 (t.1 34).1 (t.1 35).1 x ((t.1 32).2.2 0)).2.1 ((t.1 32).2.2 0)).2.2.1 i).toInt + 72) ∧ (((dwL (hrP ((t.1 52).1 5 + x)) v0I (n1 2) (n1 2, t.2 2, 0)).2.1 i).2.1 1).toInt = ((t.1 52).1 5 + x).toInt - ((dlS (gwS (t.1 33).1 (t.1 34).1 (t.1 35).1 x ((t.1 32).2.2 0)).1 (t.1 34).1 (gwS (t.1 33).1 (t.1 34).1 (t.1 35).1 x ((t.1 32).2.2 0)).2.1 ((t.1 32).2.2 0)).2.2.2 i).toInt + ((dlS (gwS (t.1 33).1 (t.1 34).1 (t.1 35).1 x ((t.1 32).2.2 0)).1 (t.1 34).1 (gwS (t.1 33).1 (t.1 34).1 (t.1 35).1 x ((t.1 32).2.2 0)).2.1 ((t.1 32).2.2 0)).2.2.1 i).toInt
      have kl := kx_lt (p := fun k => hrP ((t.1 52).1 5 + x) (t.2 2 k)) (n1 2) i hi
      rw [c1, (hd.2.1 i hi).1, (hd.2.1 i hi).2.1, (hd.2.1 i hi).2.2, hk.2.1 i hi, cg.2 i]
      generalize kx (fun k => hrP ((t.1 52).1 5 + x) (t.2 2 k)) (n1 2) i = k at kl
      obtain ⟨k1, k2⟩ := kl
      obtain ⟨p1, p2, p3⟩ := (hp k k1).2 k2
      obtain ⟨d1, d2, d3, d4, d5⟩ := c4 k k1
      rw [(hg.1 k k1).1, (hg.1 k k1).2, if_pos p1, p2, eH]
      exact ⟨d1, d2, d3, ⟨by omega, p3⟩, by omega⟩
    · show (dwL (hrP ((t.1 52).1 5 + x)) v0I (n1 2) (n1 2, t.2 2, 0)).1 ≤ 20
      rw [hk.1]
      have := fa_cnt_le (fun k => hrP ((t.1 52).1 5 + x) (t.2 2 k)) (n1 2)
      have := h.sz.1
      omega
  · rw [if_neg hw]
    unfold tK_Mm_hours nK_Mm_hours
    refine Eq.mpr (congrArg (fun z => REL z _ _) (if_neg hw)) ?_
    refine Eq.mpr (congrArg (fun z => REL _ z _) (if_neg hw)) ?_
    exact h.up (by omega)
theorem z_gdH {H lt ag cu : Int32} (h1 : 0 ≤ H.toInt ∧ H.toInt ≤ 200000) (h2 : 1 ≤ cu.toInt ∧ cu.toInt ≤ 24) (h3 : 0 ≤ ag.toInt ∧ ag.toInt ≤ cu.toInt + 72) (h4 : lt.toInt = H.toInt - ag.toInt + cu.toInt) : (¬ ag < cu ∧ ¬ cu + 72 < ag) ↔ ¬ H < lt := by
  have e72 : (72 : Int32).toInt = 72 := rfl
  have e : (cu + 72).toInt = cu.toInt + 72 := by rw [Int32.toInt_add, e72]; exact bm32 (by omega) (by omega)
  rw [Int32.lt_iff_toInt_lt, Int32.lt_iff_toInt_lt, Int32.lt_iff_toInt_lt, e, h4]
  omega
theorem RELk.g {t : zTT} {n : Nat → Nat} {b k : Nat} (h : RELk t n b) (hb : b ≤ 100000) (hk : k < n 2) : gdB (t.1 34).1 (t.1 35).1 k = decide (¬ (t.1 52).1 5 < (t.2 2 k).2.1 1) := by
  obtain ⟨d1, d2, d3, d4, d5⟩ := h.2.2 k hk
  have hg := z_gdH ⟨h.2.1.1, by have := h.2.1.2; omega⟩ d3 d4 d5
  unfold gdB
  exact decide_eq_decide.mpr hg
theorem gd_rel {t : zTT} {n : Nat → Nat} {b : Nat} (h : RELk t n b) (hb : b ≤ 100000) : ∀ i, i ≤ n 2 → bx_sum (fun k => if gdB (t.1 34).1 (t.1 35).1 k then (t.1 33).1 k else 0) i = gdS ((t.1 52).1 5) (t.2 2) i
  | 0, _ => rfl
  | i + 1, hi => by
    have ih := gd_rel h hb i (by omega)
    show bx_sum (fun k => if gdB (t.1 34).1 (t.1 35).1 k then (t.1 33).1 k else 0) i + (if gdB (t.1 34).1 (t.1 35).1 i then (t.1 33).1 i else 0) = gdS ((t.1 52).1 5) (t.2 2) i + (if (t.1 52).1 5 < (t.2 2 i).2.1 1 then 0 else (t.2 2 i).2.1 0)
    rw [ih, h.g hb (by omega), (h.2.2 i (by omega)).1]
    by_cases q : (t.1 52).1 5 < (t.2 2 i).2.1 1
    · rw [if_pos q, decide_eq_false (fun z => z q)]
      rfl
    · rw [if_neg q, decide_eq_true q]
      rfl
theorem gdN_rel {t : zTT} {n : Nat → Nat} {b : Nat} (h : RELk t n b) (hb : b ≤ 100000) : gdN t = gdS ((t.1 52).1 5) (t.2 2) (n 2) := by
  unfold gdN
  rw [h.1]
  exact gd_rel h hb (n 2) (Nat.le_refl _)
theorem tk_rel {t : zTT} {n : Nat → Nat} {b : Nat} {x : Int32} (h : RELk t n b) (hb : b ≤ 100000) (hx : 0 ≤ x.toInt ∧ x.toInt ≤ 1000) : ∀ i, i ≤ n 2 → (tkS (t.1 33).1 (t.1 34).1 (t.1 35).1 x i).2 = (tkL ((t.1 52).1 5) (t.2 2) x i).2 ∧ (0 ≤ ((tkL ((t.1 52).1 5) (t.2 2) x i).2).toInt ∧ ((tkL ((t.1 52).1 5) (t.2 2) x i).2).toInt ≤ 1000) ∧ ∀ k, k < n 2 → (tkS (t.1 33).1 (t.1 34).1 (t.1 35).1 x i).1 k = ((tkL ((t.1 52).1 5) (t.2 2) x i).1 k).2.1 0 ∧ ((tkL ((t.1 52).1 5) (t.2 2) x i).1 k).2.1 1 = (t.2 2 k).2.1 1 ∧ (0 ≤ ((tkS (t.1 33).1 (t.1 34).1 (t.1 35).1 x i).1 k).toInt ∧ ((tkS (t.1 33).1 (t.1 34).1 (t.1 35).1 x i).1 k).toInt ≤ 10) ∧ (i ≤ k → (tkL ((t.1 52).1 5) (t.2 2) x i).1 k = t.2 2 k)
  | 0, _ => ⟨rfl, hx, fun k hk => ⟨(h.2.2 k hk).1, rfl, ⟨by have := (h.2.2 k hk).2.1.1; show 0 ≤ ((t.1 33).1 k).toInt; omega, (h.2.2 k hk).2.1.2⟩, fun _ => rfl⟩⟩
  | i + 1, hi => by
    obtain ⟨a, b1, d⟩ := tk_rel h hb hx i (by omega)
    obtain ⟨d1, d2, d3, d4⟩ := d i (by omega)
    have hg := h.g hb (show i < n 2 by omega)
    have dV := d4 (Nat.le_refl i)
    have e0 : (0 : Int32).toInt = 0 := rfl
    have hQ : ∀ K, tkQ ((t.1 52).1 5) (tkL ((t.1 52).1 5) (t.2 2) x i).2 ((tkL ((t.1 52).1 5) (t.2 2) x i).1 i) = K → (tkS (t.1 33).1 (t.1 34).1 (t.1 35).1 x (i + 1)) = (upd (tkS (t.1 33).1 (t.1 34).1 (t.1 35).1 x i).1 i ((tkS (t.1 33).1 (t.1 34).1 (t.1 35).1 x i).1 i - K), (tkS (t.1 33).1 (t.1 34).1 (t.1 35).1 x i).2 - K) ∧ 0 ≤ K.toInt ∧ K.toInt ≤ ((tkL ((t.1 52).1 5) (t.2 2) x i).2).toInt ∧ K.toInt ≤ ((tkS (t.1 33).1 (t.1 34).1 (t.1 35).1 x i).1 i).toInt := fun K hK => by
      unfold tkQ at hK
      rw [d2, ← d1, ← a] at hK
      by_cases q : (t.1 52).1 5 < (t.2 2 i).2.1 1
      · rw [if_pos q] at hK
        subst hK
        rw [tkS_f (fun z => by rw [hg, decide_eq_false (fun y => y q)] at z; exact absurd z.2 (by decide)), Int32.sub_zero, Int32.sub_zero, z_updk rfl, e0]
        exact ⟨rfl, by omega, b1.1, d3.1⟩
      · rw [if_neg q] at hK
        by_cases r : 0 < (tkS (t.1 33).1 (t.1 34).1 (t.1 35).1 x i).2
        · rw [tkS_t ⟨r, by rw [hg]; exact decide_eq_true q⟩]
          have eK : tkM (tkS (t.1 33).1 (t.1 34).1 (t.1 35).1 x i).2 ((tkS (t.1 33).1 (t.1 34).1 (t.1 35).1 x i).1 i) = K := hK
          rw [eK, ← a]
          rw [← a] at b1
          refine ⟨rfl, ?_⟩
          by_cases p : (tkS (t.1 33).1 (t.1 34).1 (t.1 35).1 x i).1 i < (tkS (t.1 33).1 (t.1 34).1 (t.1 35).1 x i).2
          · rw [if_pos p] at hK
            rw [Int32.lt_iff_toInt_lt] at p
            rw [← hK]
            omega
          · rw [if_neg p] at hK
            rw [Int32.lt_iff_toInt_lt] at p
            rw [← hK]
            omega
        · have r0 : (tkS (t.1 33).1 (t.1 34).1 (t.1 35).1 x i).2 = 0 := by
            rw [← a] at b1
            rw [Int32.lt_iff_toInt_lt, e0] at r
            exact Int32.toInt_inj.mp (by rw [e0]; omega)
          rw [r0] at hK
          have hK0 : K = 0 := by
            rw [if_neg (fun z => by rw [Int32.lt_iff_toInt_lt, e0] at z; omega)] at hK
            exact hK.symm
          subst hK0
          rw [tkS_f (fun z => r z.1), Int32.sub_zero, Int32.sub_zero, z_updk rfl, e0]
          exact ⟨rfl, by omega, b1.1, d3.1⟩
    obtain ⟨eS, K0, K1, K2⟩ := hQ _ rfl
    have el := tk_l (h := (t.1 52).1 5) (x := x) (V := t.2 2) (i := i) rfl
    have eL : ((tkL ((t.1 52).1 5) (t.2 2) x i).2 - tkQ ((t.1 52).1 5) (tkL ((t.1 52).1 5) (t.2 2) x i).2 ((tkL ((t.1 52).1 5) (t.2 2) x i).1 i)).toInt = ((tkL ((t.1 52).1 5) (t.2 2) x i).2).toInt - (tkQ ((t.1 52).1 5) (tkL ((t.1 52).1 5) (t.2 2) x i).2 ((tkL ((t.1 52).1 5) (t.2 2) x i).1 i)).toInt := by rw [Int32.toInt_sub]; exact bm32 (by omega) (by omega)
    refine ⟨by rw [eS, el, a], by rw [el, eL]; omega, fun k hk => ?_⟩
    obtain ⟨f1, f2, f3, f4⟩ := d k hk
    rw [eS]
    show upd (tkS (t.1 33).1 (t.1 34).1 (t.1 35).1 x i).1 i _ k = ((if k = i then tkW ((t.1 52).1 5) (tkL ((t.1 52).1 5) (t.2 2) x i).2 ((tkL ((t.1 52).1 5) (t.2 2) x i).1 i) else (tkL ((t.1 52).1 5) (t.2 2) x i).1 k) : zV).2.1 0 ∧ ((if k = i then tkW ((t.1 52).1 5) (tkL ((t.1 52).1 5) (t.2 2) x i).2 ((tkL ((t.1 52).1 5) (t.2 2) x i).1 i) else (tkL ((t.1 52).1 5) (t.2 2) x i).1 k) : zV).2.1 1 = (t.2 2 k).2.1 1 ∧ (0 ≤ (upd (tkS (t.1 33).1 (t.1 34).1 (t.1 35).1 x i).1 i _ k).toInt ∧ (upd (tkS (t.1 33).1 (t.1 34).1 (t.1 35).1 x i).1 i _ k).toInt ≤ 10) ∧ (i + 1 ≤ k → ((if k = i then tkW ((t.1 52).1 5) (tkL ((t.1 52).1 5) (t.2 2) x i).2 ((tkL ((t.1 52).1 5) (t.2 2) x i).1 i) else (tkL ((t.1 52).1 5) (t.2 2) x i).1 k) : zV) = t.2 2 k)
    by_cases q : k = i
    · subst q
      rw [if_pos rfl, upd_eq]
      have es : ((tkS (t.1 33).1 (t.1 34).1 (t.1 35).1 x k).1 k - tkQ ((t.1 52).1 5) (tkL ((t.1 52).1 5) (t.2 2) x k).2 ((tkL ((t.1 52).1 5) (t.2 2) x k).1 k)).toInt = ((tkS (t.1 33).1 (t.1 34).1 (t.1 35).1 x k).1 k).toInt - (tkQ ((t.1 52).1 5) (tkL ((t.1 52).1 5) (t.2 2) x k).2 ((tkL ((t.1 52).1 5) (t.2 2) x k).1 k)).toInt := by rw [Int32.toInt_sub]; exact bm32 (by omega) (by omega)
      refine ⟨?_, f2, by rw [es]; omega, fun z => absurd z (by omega)⟩
      rw [f1]
      rfl
    · rw [if_neg q, upd_ne q]
      exact ⟨f1, f2, f3, fun z => f4 (by omega)⟩
theorem use_1 {a b c : Int32} (h : a = b ∧ 0 ≤ a.toInt ∧ a.toInt ≤ 300) (hc : 0 ≤ c.toInt ∧ c.toInt ≤ 10) : (if 0 < a - c then a - c else 0) = S_Mm_most (b - c) ∧ 0 ≤ (if 0 < a - c then a - c else 0).toInt ∧ (if 0 < a - c then a - c else 0).toInt ≤ 300 := by
  obtain ⟨rfl, h1, h2⟩ := h
  have e0 : (0 : Int32).toInt = 0 := rfl
  have e3 : (300 : Int32).toInt = 300 := rfl
  have e : (a - c).toInt = a.toInt - c.toInt := by rw [Int32.toInt_sub]; exact bm32 (by omega) (by omega)
  unfold S_Mm_most
  by_cases r : a - c < 300
  · rw [if_pos r]
    by_cases q : 0 < a - c
    · rw [if_pos q]
      refine ⟨rfl, ?_⟩
      rw [Int32.lt_iff_toInt_lt, e0, e] at q
      rw [e]; omega
    · rw [if_neg q, e0]
      exact ⟨rfl, by omega, by omega⟩
  · rw [Int32.lt_iff_toInt_lt, e3, e] at r
    have hc0 : c = 0 := Int32.toInt_inj.mp (by rw [e0]; omega)
    subst hc0
    have ha : a = 300 := Int32.toInt_inj.mp (by rw [e3]; omega)
    subst ha
    decide
theorem use_2 {a b m : Int32} (h : a = b ∧ 0 ≤ a.toInt ∧ a.toInt ≤ 300) (hm : 0 ≤ m.toInt ∧ m.toInt ≤ 1000) : (if a + m < 300 then a + m else 300) = S_Mm_most (b + m) ∧ 0 ≤ (if a + m < 300 then a + m else 300).toInt ∧ (if a + m < 300 then a + m else 300).toInt ≤ 300 := by
  obtain ⟨rfl, h1, h2⟩ := h
  have e3 : (300 : Int32).toInt = 300 := rfl
  have e : (a + m).toInt = a.toInt + m.toInt := by rw [Int32.toInt_add]; exact bm32 (by omega) (by omega)
  refine ⟨(z_sat e (by omega)).symm, ?_⟩
  by_cases q : a + m < 300
  · rw [if_pos q, e]
    rw [Int32.lt_iff_toInt_lt, e3, e] at q
    omega
  · rw [if_neg q, e3]
    omega
theorem use_3 {a b : Int32} {c : Nat} (h : a = b ∧ 0 ≤ a.toInt ∧ a.toInt ≤ 300) (hc : c ≤ 108) : (if (a + 10) + (nI c / 4) < 300 then (a + 10) + (nI c / 4) else 300) = S_Mm_most (b + 10 + nI c / 4) ∧ 0 ≤ (if (a + 10) + (nI c / 4) < 300 then (a + 10) + (nI c / 4) else 300).toInt ∧ (if (a + 10) + (nI c / 4) < 300 then (a + 10) + (nI c / 4) else 300).toInt ≤ 300 := by
  have e4 : (4 : Int32).toInt = 4 := rfl
  have ed : (nI c / 4).toInt = (c : Int) / 4 := by
    rw [Int32.toInt_div, nI_toInt (by omega), e4, Int.tdiv_eq_ediv_of_nonneg (by omega)]
    exact bm32 (by omega) (by omega)
  have em : (10 + nI c / 4).toInt = 10 + (c : Int) / 4 := by
    rw [Int32.toInt_add, ed, show (10 : Int32).toInt = 10 from rfl]
    exact bm32 (by omega) (by omega)
  have k := use_2 (m := 10 + nI c / 4) h (by rw [em]; omega)
  rw [← Int32.add_assoc, ← Int32.add_assoc] at k
  exact k
theorem fill_eq {f : Nat → Int32} (h : ∀ k, 108 ≤ k → f k = 0) : fa_fill f (fun _ => 0) 108 = f := funext fun k => by
  by_cases q : k < 108
  · exact if_pos q
  · exact (if_neg q).trans (h k (by omega)).symm
theorem mo_new {t : zTT} {n : Nat → Nat} {b : Nat} (h : REL t n b) : RELm (moV t) (cpV t) (nuV t) := by
  have ef := fill_eq h.pz
  refine ⟨?_, ?_, ?_, ?_, ?_, ?_, ?_, rfl⟩
  · show fa_fill (t.1 2).1 (fun _ => 0) 108 = fa_fill (t.1 53).1 (fun _ => 0) 108
    rw [h.pa]
  · show fa_cnt (fun k => tmB ((t.1 2).1 k)) 108 = fa_cnt (fun k => tmB (fa_fill (t.1 2).1 (fun _ => 0) 108 k)) 108
    rw [ef]
  · show rsR (t.1 2).1 = rsR (fa_fill (t.1 2).1 (fun _ => 0) 108)
    rw [ef]
  · show bdI (t.1 2).1 ((t.1 1).2.2 0) = bdI (fa_fill (t.1 2).1 (fun _ => 0) 108) ((t.1 52).2.2 0)
    rw [ef, h.pt]
  · show S_GS_strength 0 ((t.1 31).1 0) ((t.1 31).1 1) ((t.1 31).1 2) ((t.1 31).1 3) ((t.1 31).1 4) = mstI (t.1 52).1
    rw [(h.sa 0 (by decide)).1, (h.sa 1 (by decide)).1, (h.sa 2 (by decide)).1, (h.sa 3 (by decide)).1, (h.sa 4 (by decide)).1]
    rfl
  · show S_GS_draught 0 ((t.1 31).1 0) ((t.1 31).1 1) ((t.1 31).1 2) ((t.1 31).1 3) ((t.1 31).1 4) = mdrI (t.1 52).1
    rw [(h.sa 0 (by decide)).1, (h.sa 1 (by decide)).1, (h.sa 2 (by decide)).1, (h.sa 3 (by decide)).1, (h.sa 4 (by decide)).1]
    rfl
  · show (t.1 31).1 1 = (t.1 52).1 1
    exact (h.sa 1 (by decide)).1
theorem R_leastCost {t : zTT} {n n1 n2 : Nat → Nat} {b : Nat} (x1 x2 x3 x4 x5 x6 : Int32) (h : REL t n b) (e1 : n1 = n) (e2 : n2 = n1) : REL (tK_Mm_leastCost x1 x2 x3 x4 x5 x6 (tK_Ip_leastCost x1 x2 x3 x4 x5 x6 t)) n2 b := by
  subst e1; subst e2
  unfold tK_Ip_leastCost
  by_cases hw : (0 ≤ x1 ∧ x1 ≤ 450) ∧ (x1 ≤ x2 ∧ x2 ≤ 450) ∧ (0 ≤ x3 ∧ x3 ≤ 450) ∧ (1 ≤ x4 ∧ x4 ≤ 1000) ∧ (1 ≤ x5 ∧ x5 ≤ 1000) ∧ (1 ≤ x6 ∧ x6 ≤ 1000)
  · rw [if_pos hw]
    have hp : ∀ P A, P + A ≤ 100 → 0 ≤ prS x4 x5 x6 P A := fun P A q => prS_nn hw.2.2.2.1 hw.2.2.2.2.1 hw.2.2.2.2.2 q
    have hj := rcO_J (le := x1) (mo := x2) (si := x3) hp (s := (-1, (t.1 49).1 0, (t.1 49).1 1, (t.1 49).1 2)) (t := (-1, -1, 0, 0)) rfl 11 (Nat.le_refl _)
    unfold tK_Mm_leastCost
    by_cases hs : (rcO x1 x2 x3 x4 x5 x6 (-1, -1, 0, 0) 11).1 < 0
    · refine Eq.mpr (congrArg (fun z => REL z _ _) ((if_pos hw).trans (if_pos hs))) ?_
      have e := hj.resolve_right (fun q => q.2.1 (by rw [q.1]; exact hs))
      refine ⟨h.pa, h.pt, h.sa, h.co, h.ir, h.la, ?_, h.mo, h.ca, h.fb, h.sz, h.pz⟩
      show ((rcO x1 x2 x3 x4 x5 x6 (-1, (t.1 49).1 0, (t.1 49).1 1, (t.1 49).1 2) 11).2.2.2 = 0 ∧ (t.1 52).1 9 = -1) ∨ (¬ (rcO x1 x2 x3 x4 x5 x6 (-1, (t.1 49).1 0, (t.1 49).1 1, (t.1 49).1 2) 11).2.2.2 = 0 ∧ (rcO x1 x2 x3 x4 x5 x6 (-1, (t.1 49).1 0, (t.1 49).1 1, (t.1 49).1 2) 11).2.1 = (t.1 52).1 9 ∧ (rcO x1 x2 x3 x4 x5 x6 (-1, (t.1 49).1 0, (t.1 49).1 1, (t.1 49).1 2) 11).2.2.1 = (t.1 52).1 10 ∧ ¬ (t.1 52).1 9 = -1)
      rw [e.1]
      exact h.re
    · refine Eq.mpr (congrArg (fun z => REL z _ _) ((if_pos hw).trans (if_neg hs))) ?_
      have e := hj.resolve_left (fun q => hs (by rw [q.2]; decide))
      refine ⟨h.pa, h.pt, (h.sa.u5 (by decide)).u5 (by decide), h.co, h.ir, h.la, ?_, h.mo, h.ca, h.fb, h.sz, h.pz⟩
      show ((rcO x1 x2 x3 x4 x5 x6 (-1, (t.1 49).1 0, (t.1 49).1 1, (t.1 49).1 2) 11).2.2.2 = 0 ∧ (rcO x1 x2 x3 x4 x5 x6 (-1, -1, 0, 0) 11).2.1 = -1) ∨ (¬ (rcO x1 x2 x3 x4 x5 x6 (-1, (t.1 49).1 0, (t.1 49).1 1, (t.1 49).1 2) 11).2.2.2 = 0 ∧ (rcO x1 x2 x3 x4 x5 x6 (-1, (t.1 49).1 0, (t.1 49).1 1, (t.1 49).1 2) 11).2.1 = (rcO x1 x2 x3 x4 x5 x6 (-1, -1, 0, 0) 11).2.1 ∧ (rcO x1 x2 x3 x4 x5 x6 (-1, (t.1 49).1 0, (t.1 49).1 1, (t.1 49).1 2) 11).2.2.1 = (rcO x1 x2 x3 x4 x5 x6 (-1, -1, 0, 0) 11).2.2.1 ∧ ¬ (rcO x1 x2 x3 x4 x5 x6 (-1, -1, 0, 0) 11).2.1 = -1)
      exact Or.inr ⟨by rw [e.2.2.2]; decide, by rw [e.1], by rw [e.1], by rw [← e.1]; exact e.2.2.1⟩
  · rw [if_neg hw]
    unfold tK_Mm_leastCost
    refine Eq.mpr (congrArg (fun z => REL z _ _) (if_neg hw)) ?_
    exact h
theorem sa_use {f m : Nat → Int32} {c : Nat} (h : RELs f m) (hc : c ≤ 108) : RELs (ufI f (nI c)) (muI m (nI c)) := fun i hi => by
  rcases (show i = 0 ∨ i = 1 ∨ i = 2 ∨ i = 3 ∨ i = 4 by omega) with rfl | rfl | rfl | rfl | rfl
  · exact use_1 (c := 3) (h 0 (by decide)) (by decide)
  · exact use_1 (c := 8) (h 1 (by decide)) (by decide)
  · exact use_1 (c := 4) (h 2 (by decide)) (by decide)
  · exact use_2 (m := 2) (h 3 (by decide)) (by decide)
  · exact use_3 (h 4 (by decide)) hc
theorem tk_out {t : zTT} {n : Nat → Nat} {b : Nat} {x : Int32} (h : RELk t n b) (hb : b ≤ 100000) (hx : 0 ≤ x.toInt ∧ x.toInt ≤ 1000) (D : zL3) (hD : dlS (tkS (t.1 33).1 (t.1 34).1 (t.1 35).1 x ((t.1 32).2.2 0)).1 (t.1 34).1 (t.1 35).1 ((t.1 32).2.2 0) = D) (F : Nat × (Nat → zV) × Int32) (hF : dwL tcP tcQ (n 2) (n 2, (tkL ((t.1 52).1 5) (t.2 2) x (n 2)).1, 0) = F) : D.1 = F.1 ∧ F.1 ≤ n 2 ∧ ∀ i, i < F.1 → D.2.1 i = (F.2.1 i).2.1 0 ∧ (1 ≤ (D.2.1 i).toInt ∧ (D.2.1 i).toInt ≤ 10) ∧ (1 ≤ (D.2.2.1 i).toInt ∧ (D.2.2.1 i).toInt ≤ 24) ∧ (0 ≤ (D.2.2.2 i).toInt ∧ (D.2.2.2 i).toInt ≤ (D.2.2.1 i).toInt + 72) ∧ ((F.2.1 i).2.1 1).toInt = ((t.1 52).1 5).toInt - (D.2.2.2 i).toInt + (D.2.2.1 i).toInt := by
  rw [h.1] at hD
  obtain ⟨-, -, ht⟩ := tk_rel h hb hx (n 2) (Nat.le_refl _)
  generalize (tkS (t.1 33).1 (t.1 34).1 (t.1 35).1 x (n 2)).1 = cn at hD ht
  generalize (tkL ((t.1 52).1 5) (t.2 2) x (n 2)).1 = V at hF ht
  have hd := dlS_k cn (t.1 34).1 (t.1 35).1 (n 2)
  have hk := dwL_k tcP tcQ (n 2) 0 V 0
  rw [Nat.add_zero, hF] at hk
  rw [hD] at hd
  have e0 : (0 : Int32).toInt = 0 := rfl
  have hp : ∀ k, k < n 2 → cnP cn k = tcP (V k) := fun k hk => by
    obtain ⟨d1, d2, d3, d4⟩ := ht k hk
    unfold cnP tcP
    rw [← d1]
    by_cases q : cn k = 0
    · rw [decide_eq_false (show ¬ ¬ cn k ≤ 0 from fun z => z (by rw [q]; decide)), decide_eq_false (show ¬ ¬ cn k = 0 from fun z => z q)]
    · rw [decide_eq_true (show ¬ cn k = 0 from q), decide_eq_true (show ¬ cn k ≤ 0 from fun z => q (by rw [Int32.le_iff_toInt_le, e0] at z; exact Int32.toInt_inj.mp (by rw [e0]; omega)))]
  have cg := kx_cg (p := cnP cn) (q := fun k => tcP (V k)) (n 2) hp
  rw [cg.1] at hd
  refine ⟨by rw [hd.1, hk.1]; rfl, ?_, fun i hi => ?_⟩
  · rw [hk.1]
    exact fa_cnt_le _ _
  · rw [hk.1, Nat.add_zero] at hi
    have kl := kx_lt (p := fun k => tcP (V k)) (n 2) i hi
    rw [(hd.2.1 i hi).1, (hd.2.1 i hi).2.1, (hd.2.1 i hi).2.2, hk.2.1 i hi, cg.2 i]
    generalize kx (fun k => tcP (V k)) (n 2) i = k at kl
    obtain ⟨k1, k2⟩ := kl
    obtain ⟨d1, d2, d3, d4⟩ := ht k k1
    obtain ⟨c1, c2, c3, c4, c5⟩ := h.2.2 k k1
    have hz : ¬ cn k = 0 := by
      have k2 : decide (¬ (V k).2.1 0 = 0) = true := k2
      rw [← d1] at k2
      exact of_decide_eq_true k2
    have hz1 : ¬ (cn k).toInt = 0 := fun z => hz (Int32.toInt_inj.mp (by rw [e0]; exact z))
    rw [d2]
    exact ⟨d1, ⟨by omega, d3.2⟩, c3, c4, c5⟩
theorem R_mould {t : zTT} {n n1 n2 : Nat → Nat} {b : Nat} (hb : b ≤ 100000) (h : REL t n b) (e1 : n1 = nK_Ip_mould t n) (e2 : n2 = nK_Mm_mould (tK_Ip_mould t n) n1) : REL (tK_Mm_mould (tK_Ip_mould t n) n1) n2 b := by
  subst e1
  rw [e2]
  unfold tK_Ip_mould nK_Ip_mould
  have hq0 := gdN_rel h.co hb
  by_cases hg : (¬ fa_cnt (fun k => decide ((t.1 2).1 k = 103)) 12 = 0 ∧ anB (fun k => decide ((t.1 2).1 k = 99)) 108 = true)
  · have g' : (¬ fa_cnt (fun k => decide ((t.1 53).1 k = 103)) 12 = 0 ∧ anB (fun k => decide ((t.1 53).1 k = 99)) 108 = true) := h.pa ▸ hg
    rw [if_pos hg, if_pos hg]
    by_cases hq : nI (coN (t.1 2).1) ≤ gdN t
    · have q' : nI (coN (t.1 53).1) ≤ gdS ((t.1 52).1 5) (t.2 2) (n 2) := by
        rw [← h.pa, ← hq0]
        exact hq
      rw [if_pos hq, if_pos hq]
      by_cases h10 : n 0 < 10
      · have m' : ¬ n 3 = 10 := by
          have := h.mo.1
          omega
        rw [if_pos h10, if_pos h10]
        unfold tK_Mm_mould nK_Mm_mould
        refine Eq.mpr (congrArg (fun z => REL z _ _) ((if_pos g').trans ((if_pos q').trans (if_pos m')))) ?_
        refine Eq.mpr (congrArg (fun z => REL _ z _) ((if_pos g').trans ((if_pos q').trans (if_pos m')))) ?_
        have hc := co_le (t.1 2).1
        obtain ⟨o1, o2, o3⟩ := tk_out (x := nI (coN (t.1 2).1)) h.co hb (by rw [nI_toInt (by omega)]; omega) (toT t) rfl (dwL tcP tcQ (n 2) (n 2, (tkL ((t.1 52).1 5) (t.2 2) (nI (coN (t.1 53).1)) (n 2)).1, 0)) (by rw [h.pa])
        refine ⟨h.pa, h.pt, ?_, ⟨?_, h.co.2.1, fun i hi => ?_⟩, h.ir, h.la, h.re, ⟨?_, ?_, fun i hi => ?_⟩, h.ca, h.fb, ⟨?_, ?_, h.sz.2.2⟩, h.pz⟩
        · show RELs (ufI (t.1 31).1 (nI (fa_cnt (fun k => tmB ((t.1 2).1 k)) 108))) (muI (t.1 52).1 (nI (fa_cnt (fun k => tmB ((t.1 53).1 k)) 108)))
          rw [← h.pa]
          exact sa_use h.sa (fa_cnt_le _ 108)
        · exact o1
        · exact o3 i hi
        · show n 0 + 1 = n 3 + 1
          rw [h.mo.1]
        · show n 4 + 1 = n 3 + 1
          rw [h.mo.2.1]
        · have hi : i < n 0 + 1 := hi
          show RELm (if i = n 0 then moV t else t.2 0 i) (if i = n 3 then cpV t else t.2 3 i) (if i = n 4 then nuV t else t.2 4 i)
          rw [h.mo.2.1, ← h.mo.1]
          by_cases q : i = n 0
          · rw [if_pos q, if_pos q, if_pos q]
            exact mo_new h
          · rw [if_neg q, if_neg q, if_neg q]
            exact h.mo.2.2 i (by omega)
        · show (dwL tcP tcQ (n 2) (n 2, (tkL ((t.1 52).1 5) (t.2 2) (nI (coN (t.1 53).1)) (n 2)).1, 0)).1 ≤ 20
          have := h.sz.1
          omega
        · show n 0 + 1 ≤ 10
          omega
      · have m' : ¬ ¬ n 3 = 10 := fun z => z (by have := h.mo.1; have := h.sz.2.1; omega)
        rw [if_neg h10, if_neg h10]
        unfold tK_Mm_mould nK_Mm_mould
        refine Eq.mpr (congrArg (fun z => REL z _ _) ((if_pos g').trans ((if_pos q').trans (if_neg m')))) ?_
        refine Eq.mpr (congrArg (fun z => REL _ z _) ((if_pos g').trans ((if_pos q').trans (if_neg m')))) ?_
        exact h
    · have q' : ¬ nI (coN (t.1 53).1) ≤ gdS ((t.1 52).1 5) (t.2 2) (n 2) := by
        rw [← h.pa, ← hq0]
        exact hq
      rw [if_neg hq, if_neg hq]
      unfold tK_Mm_mould nK_Mm_mould
      refine Eq.mpr (congrArg (fun z => REL z _ _) ((if_pos g').trans (if_neg q'))) ?_
      refine Eq.mpr (congrArg (fun z => REL _ z _) ((if_pos g').trans (if_neg q'))) ?_
      exact h
  · have g' : ¬ (¬ fa_cnt (fun k => decide ((t.1 53).1 k = 103)) 12 = 0 ∧ anB (fun k => decide ((t.1 53).1 k = 99)) 108 = true) := h.pa ▸ hg
    rw [if_neg hg, if_neg hg]
    unfold tK_Mm_mould nK_Mm_mould
    refine Eq.mpr (congrArg (fun z => REL z _ _) (if_neg g')) ?_
    refine Eq.mpr (congrArg (fun z => REL _ z _) (if_neg g')) ?_
    exact h
theorem pg_rel {G B : Nat → Int64} {tk al : Int32} (h : ∀ e, e < 4 → B e = G (4 * 1 + e)) : ∀ n, n ≤ 4 → (∀ e, e < 4 → mvS B tk al n e = (pgM G tk al n).1 (4 * 1 + e)) ∧ (∀ e, e < 4 → mvT B tk al (fun _ => 0) n e = (pgM G tk al n).2 e) ∧ (∀ e, n ≤ e → (pgM G tk al n).2 e = 0) ∧ ∀ p, ¬ p = 1 → ∀ e, e < 4 → (pgM G tk al n).1 (4 * p + e) = G (4 * p + e)
  | 0, _ => ⟨h, fun _ _ => rfl, fun _ _ => rfl, fun _ _ _ _ => rfl⟩
  | n + 1, hn => by
    obtain ⟨h1, h2, h3, h4⟩ := pg_rel (tk := tk) (al := al) h n (by omega)
    have e0 : 4 * 1 + n = 4 + n := by omega
    have hv : mvA (mvS B tk al n) tk al n = (pgM G tk al n).1 (4 + n) * tk.toInt64 / al.toInt64 := by
      show mvS B tk al n n * tk.toInt64 / al.toInt64 = _
      rw [h1 n (by omega), e0]
    refine ⟨fun e he => ?_, fun e he => ?_, fun e he => ?_, fun p hp e he => ?_⟩
    · show vp_updL (mvS B tk al n) n (mvS B tk al n n - mvA (mvS B tk al n) tk al n) e = vp_updL (pgM G tk al n).1 (4 + n) ((pgM G tk al n).1 (4 + n) - (vp_updL (pgM G tk al n).2 n ((pgM G tk al n).1 (4 + n) * tk.toInt64 / al.toInt64)) n) (4 * 1 + e)
      by_cases q : e = n
      · subst q
        rw [updL_eq, e0, updL_eq, updL_eq, hv, h1 e he, e0]
      · rw [updL_ne q, updL_ne (by omega), h1 e he]
    · show vp_updL (mvT B tk al (fun _ => 0) n) n (mvT B tk al (fun _ => 0) n n + mvA (mvS B tk al n) tk al n) e = vp_updL (pgM G tk al n).2 n ((pgM G tk al n).1 (4 + n) * tk.toInt64 / al.toInt64) e
      by_cases q : e = n
      · subst q
        rw [updL_eq, updL_eq, hv, h2 e he, h3 e (Nat.le_refl e), Int64.zero_add]
      · rw [updL_ne q, updL_ne q, h2 e he]
    · show vp_updL _ _ _ _ = _
      rw [updL_ne (by omega)]
      exact h3 e (by omega)
    · show vp_updL _ _ _ _ = _
      rw [updL_ne (by omega)]
      exact h4 p hp e he
theorem am_pos {i : Int32} {c : Nat} (h0 : 0 ≤ i.toInt) (hn : ¬ i = 0) (hc : 1 ≤ c) (hc2 : c ≤ 108) : 1 ≤ (if i < nI (2 * c) then i else nI (2 * c)).toInt ∧ (if i < nI (2 * c) then i else nI (2 * c)).toInt ≤ i.toInt := by
  have hz : ¬ i.toInt = 0 := fun q => hn (Int32.toInt_inj.mp (by rw [q]; rfl))
  have e : (nI (2 * c)).toInt = ((2 * c : Nat) : Int) := nI_toInt (by omega)
  by_cases q : i < nI (2 * c)
  · rw [if_pos q]
    omega
  · rw [if_neg q, e]
    rw [Int32.lt_iff_toInt_lt, e] at q
    omega
theorem if_b {α : Type} {p : Prop} [Decidable p] {x y : α} : (if p then x else y) = cond (decide p) x y := by
  by_cases h : p
  · rw [if_pos h, decide_eq_true h]; rfl
  · rw [if_neg h, decide_eq_false h]; rfl
theorem moF_b {bad sp sr dr wa wt : Int32} : moF bad sp sr dr wa wt = (if (dr < 80 ∧ 40 < wa) ∨ 60 < wt then mo1 bad sp sr ||| 8 else mo1 bad sp sr) := by
  unfold moF
  by_cases h1 : 80 ≤ dr
  · rw [if_pos h1]
    by_cases h2 : wt ≤ 60
    · rw [if_pos h2, if_neg (fun q => q.elim (fun z => Int32.not_lt.mpr h1 z.1) (fun z => Int32.not_lt.mpr h2 z))]
    · rw [if_neg h2, if_pos (Or.inr (Int32.not_le.mp h2))]
  · rw [if_neg h1]
    by_cases h3 : 40 < wa
    · rw [if_pos h3, if_pos (Or.inl ⟨Int32.not_le.mp h1, h3⟩)]
    · rw [if_neg h3]
      by_cases h2 : wt ≤ 60
      · rw [if_pos h2, if_neg (fun q => q.elim (fun z => h3 z.2) (fun z => Int32.not_lt.mpr h2 z))]
      · rw [if_neg h2, if_pos (Or.inr (Int32.not_le.mp h2))]
def fbC1 (b0 sn : Bool) : Int32 := cond sn (cond b0 0 16) (cond b0 0 16 ||| 4)
def fbC2 (x : Int32) (bl : Bool) : Int32 := cond bl (x ||| 8) x
def fbC3 (x : Int32) (s0 : Bool) : Int32 := cond s0 x (x ||| 1)
def fbC4 (x : Int32) (c : Bool) : Int32 := cond c (x ||| 2) x
def fbC5 (x : Int32) (hd : Bool) : Int32 := cond hd (x ||| 32) x
def fbC (b0 sn bl s0 c hd : Bool) : Int32 := fbC5 (fbC4 (fbC3 (fbC2 (fbC1 b0 sn) bl) s0) c) hd
def fbM (b0 sn bl s0 c hd : Bool) : Int32 := cond s0 0 1 + cond c 2 0 + cond sn 0 4 + (cond bl 8 0 + cond b0 0 16 + cond hd 32 0)
theorem fb_rel : ∀ b0 sn bl s0 s2 c hd : Bool, (c = false → s0 = s2) → fbC b0 sn bl s0 c hd &&& -2 = fbM b0 sn bl s2 c hd &&& -2 ∧ (fbC b0 sn bl s0 c hd &&& 2 = 0 → fbC b0 sn bl s0 c hd = fbM b0 sn bl s2 c hd) := by decide +kernel
theorem caF_b {t : zTT} {vm : zV} {X : zTr} : caF t vm X = fbC (decide (vm.1 1 = 0)) (decide (vm.1 0 ≤ vm.1 2)) (decide ((vm.1 3 < 80 ∧ 40 < vm.1 4) ∨ 60 < vm.1 5)) (decide (caS t vm X ≤ 0)) (decide (amI t vm < 2 * nI (vm.2.2.2 0) ∨ caC t vm X = true)) (caH t vm) := by
  have e5 : caF t vm X = fbC5 (caF2 t vm X) (caH t vm) := by
    unfold caF fbC5
    rw [if_b, Bool.decide_eq_true]
  have e4 : caF2 t vm X = fbC4 (caF1 t vm X) (decide (amI t vm < 2 * nI (vm.2.2.2 0) ∨ caC t vm X = true)) := if_b
  have e3 : caF1 t vm X = fbC3 (moF (vm.1 1) (vm.1 0) (vm.1 2) (vm.1 3) (vm.1 4) (vm.1 5)) (decide (caS t vm X ≤ 0)) := if_b
  have e2 : moF (vm.1 1) (vm.1 0) (vm.1 2) (vm.1 3) (vm.1 4) (vm.1 5) = fbC2 (mo1 (vm.1 1) (vm.1 0) (vm.1 2)) (decide ((vm.1 3 < 80 ∧ 40 < vm.1 4) ∨ 60 < vm.1 5)) := moF_b.trans if_b
  have e1 : mo1 (vm.1 1) (vm.1 0) (vm.1 2) = fbC1 (decide (vm.1 1 = 0)) (decide (vm.1 0 ≤ vm.1 2)) := by
    unfold mo1 fbC1
    rw [if_b (p := vm.1 0 ≤ vm.1 2), if_b (p := vm.1 1 = 0)]
  rw [e5, e4, e3, e2, e1]
  rfl
theorem pEc_b {f : Nat → Int32} {p : Nat} (hp : p < 9) : pEc f p = cond (decide (bdI f p = 0)) 0 16 := by
  have l1 := lo_le f
  have l2 := ucT_le (f := f) hp 12
  have i1 : (0 : Int32) < nI (loN f) ↔ 0 < loN f := nI_ltI (a := 0) (by decide) (by omega)
  have i2 : (0 : Int32) < nI (ucT f p 12) ↔ 0 < ucT f p 12 := nI_ltI (a := 0) (by decide) (by omega)
  unfold pEc bdI
  by_cases q : 0 < loN f ∨ 0 < ucT f p 12
  · rw [if_pos q, if_pos (q.imp i1.mpr i2.mpr)]
    rfl
  · rw [if_neg q, if_neg (fun z => q (z.imp i1.mp i2.mp))]
    rfl
theorem pfF_b {f nn : Nat → Int32} {p : Nat} {mg9 : Nat → Int64} {tk mg sh : Int32} {c : Bool} (hp : p < 9) : pfF f nn p mg9 tk mg sh c = fbM (decide (bdI f p = 0)) (decide (rsR f ≤ nn 1)) (decide ((nn 2 < 80 ∧ 40 < nn 3) ∨ 60 < nn 4)) (decide (sh ≤ 0)) c (decide (pE9 mg9 tk < 370 ∨ (1 ≤ mg ∧ mg ≤ 19))) := by
  have e5 : pE5 sh = cond (decide (sh ≤ 0)) 0 1 := if_b
  have e7 : pE7 c = cond c 2 0 := by cases c <;> rfl
  have es : pEs f nn = cond (decide (rsR f ≤ nn 1)) 0 4 := if_b
  have eb : pEb (pE8 nn) = cond (decide ((nn 2 < 80 ∧ 40 < nn 3) ∨ 60 < nn 4)) 8 0 := by
    unfold pE8
    by_cases q : (nn 2 < 80 ∧ 40 < nn 3) ∨ 60 < nn 4
    · rw [if_pos q, decide_eq_true q]; rfl
    · rw [if_neg q, decide_eq_false q]; rfl
  have eh : pEh (pE10 mg9 tk mg) = cond (decide (pE9 mg9 tk < 370 ∨ (1 ≤ mg ∧ mg ≤ 19))) 32 0 := by
    unfold pE10
    by_cases q : pE9 mg9 tk < 370 ∨ (1 ≤ mg ∧ mg ≤ 19)
    · rw [if_pos q, decide_eq_true q]; rfl
    · rw [if_neg q, decide_eq_false q]; rfl
  unfold pfF
  rw [e5, e7, es, eb, pEc_b hp, eh]
  rfl
theorem dor_b {p : Prop} [Decidable p] {x : Bool} : decide (p ∨ x = true) = (decide p || x) := by
  by_cases h : p
  · rw [decide_eq_true h, decide_eq_true (Or.inl h)]; rfl
  · cases x with
    | true => rw [decide_eq_true (Or.inr rfl), Bool.or_true]
    | false => rw [decide_eq_false h, decide_eq_false (fun q => q.elim h (fun e => by cases e))]; rfl
theorem mg_hd {m : Int32} : (¬ m ≤ 0 ∧ m < 20) ↔ (1 ≤ m ∧ m ≤ 19) := by
  rw [Int32.le_iff_toInt_le, Int32.lt_iff_toInt_lt, Int32.le_iff_toInt_le, Int32.le_iff_toInt_le, show (0 : Int32).toInt = 0 from rfl, show (20 : Int32).toInt = 20 from rfl, show (1 : Int32).toInt = 1 from rfl, show (19 : Int32).toInt = 19 from rfl]
  omega
theorem caV_0 {t : zTT} {vm : zV} {X : zTr} {fb : Int32} : (caV t vm X fb).1 0 = (t.1 42).1 1 := rfl
theorem caV_2 {t : zTT} {vm : zV} {X : zTr} {fb : Int32} : (caV t vm X fb).1 2 = fb := rfl
theorem caV_3 {t : zTT} {vm : zV} {X : zTr} {fb : Int32} : (caV t vm X fb).1 3 = 0 := rfl
theorem caV_4 {t : zTT} {vm : zV} {X : zTr} {fb : Int32} : (caV t vm X fb).1 4 = 0 := rfl
theorem caV_5 {t : zTT} {vm : zV} {X : zTr} {fb : Int32} : (caV t vm X fb).1 5 = 0 + amI t vm := rfl
theorem frN_12 (h : Int32) (X : zTr) : (frN h X).1.2.1 = flP X.1.1 X.1.2.1 X.1.2.2.1 := by
  unfold frN
  dsimp only
theorem frN_11 (h : Int32) (X : zTr) : (frN h X).1.1 = X.1.1 := by
  unfold frN
  dsimp only
theorem po_cast {t : zTT} {n : Nat → Nat} {b : Nat} {X : zTr} {S : zSC} (h : REL t n b) (h0 : ¬ n 0 = 0) (hg : ¬ fa_cnt (fun k => decide ((t.2 3 0).2.1 k = 103)) 12 = 0) (hp : (t.2 4 0).2.2.2 0 < 9) (hi : ¬ (t.1 63).1 1 = 0) (hh : 1250 ≤ (t.1 42).1 0) : RELc (caV t (t.2 0 0) X (caF t (t.2 0 0) X)) (pcv9 t (pShS t S) (pFbS t S)) (pgv9 t) ∧ amI t (t.2 0 0) = ptk t ∧ 0 ≤ ((t.1 63).1 1 - ptk t).toInt := by
  obtain ⟨q1, q2, q3, q4, q5, q6, q7, q8⟩ := h.mo.2.2 0 (Nat.pos_of_ne_zero h0)
  have l := h.la.2 hi
  have ei : (t.1 43).1 0 = (t.1 63).1 1 := h.ir.1.2.1
  have e2 : (2 : Int32) * nI (fa_cnt (fun k => tmB ((t.2 3 0).2.1 k)) 108) = nI (2 * fa_cnt (fun k => tmB ((t.2 3 0).2.1 k)) 108) := pk_mul _ _
  have ea : amI t (t.2 0 0) = ptk t := by
    unfold amI ptk
    rw [q2, q1, ei, e2]
  have hc1 := cnt_pos hg
  have hpos : 1 ≤ (ptk t).toInt ∧ (ptk t).toInt ≤ ((t.1 63).1 1).toInt := am_pos h.la.1 hi (Nat.pos_of_ne_zero hc1) (fa_cnt_le _ 108)
  have hgr := pg_rel (tk := ptk t) (al := (t.1 63).1 1) h.ir.2.2.1 4 (Nat.le_refl _)
  have eG : ∀ e, e < 4 → caG t (t.2 0 0) e = (pgg t).2 e := fun e he => by
    unfold caG
    rw [ea, ei]
    exact hgr.2.1 e he
  have hnp : ¬ ptk t ≤ 0 := fun q => by
    rw [Int32.le_iff_toInt_le, show (0 : Int32).toInt = 0 from rfl] at q
    omega
  have eX : caX t (t.2 0 0) X = frN ((t.1 42).1 0) (tkT (t.2 0 0).2.1 X) := if_neg (show ¬ (0 : Int32) = (t.1 42).1 0 from fun e => absurd hh (by rw [← e]; decide))
  have hce : eqA (fa_fill (t.2 0 0).2.1 X.1.1 108) (t.2 3 0).2.1 := fun k hk => (fa_fill_in hk).trans (congrFun q1 k)
  have hfl : eqA (flK (fa_fill (t.2 0 0).2.1 X.1.1 108) X.1.2.1) (flC (t.2 3 0).2.1 S.1) := fun k hk => ((fill_rel hce S.1 X.1.2.1).1 k hk).symm
  have g1 : (frN ((t.1 42).1 0) (tkT (t.2 0 0).2.1 X)).1.1 = fa_fill (t.2 0 0).2.1 X.1.1 108 := (frN_11 _ _).trans rfl
  have f1 : (frN ((t.1 42).1 0) (tkT (t.2 0 0).2.1 X)).1.1 = (tkT (t.2 0 0).2.1 X).1.1 := frN_11 _ _
  have f2 : (frN ((t.1 42).1 0) (tkT (t.2 0 0).2.1 X)).1.2.1 = flP (tkT (t.2 0 0).2.1 X).1.1 (tkT (t.2 0 0).2.1 X).1.2.1 (tkT (t.2 0 0).2.1 X).1.2.2.1 := frN_12 _ _
  have t1 : (tkT (t.2 0 0).2.1 X).1.1 = fa_fill (t.2 0 0).2.1 X.1.1 108 := rfl
  have t2 : (tkT (t.2 0 0).2.1 X).1.2.1 = X.1.2.1 := rfl
  have t3 : (tkT (t.2 0 0).2.1 X).1.2.2.1 = 0 := rfl
  have g2 : (frN ((t.1 42).1 0) (tkT (t.2 0 0).2.1 X)).1.2.1 = flK (fa_fill (t.2 0 0).2.1 X.1.1 108) X.1.2.1 := by
    rw [f2, t1, t2, t3]
    unfold flK
    with_reducible rfl
  have eC1 : caC t (t.2 0 0) X = anB (icP (t.2 3 0).2.1 (flC (t.2 3 0).2.1 S.1) ((t.1 52).1 6)) 108 := by
    unfold caC
    rw [eX, g1, g2, ← l.1]
    exact ic_E hce hfl
  have eC : decide (amI t (t.2 0 0) < 2 * nI ((t.2 0 0).2.2.2 0) ∨ caC t (t.2 0 0) X = true) = pCo t S.1 := by
    rw [dor_b, ea, q2, q1, e2, eC1]
    rfl
  have hs : pCo t S.1 = false → decide (caS t (t.2 0 0) X ≤ 0) = decide (pShS t S ≤ 0) := fun hcf => by
    have ec : anB (icP (t.2 3 0).2.1 (flC (t.2 3 0).2.1 S.1) ((t.1 52).1 6)) 108 = false := (Bool.or_eq_false_iff.mp hcf).2
    rw [← eC1] at ec
    unfold caC at ec
    rw [eX, f1, f2] at ec
    have hh2 := hh
    rw [Int32.le_iff_toInt_le, show (1250 : Int32).toInt = 1250 from rfl] at hh2
    have k := shr_E (f := (t.2 3 0).2.1) (fl := S.1) (he := S.2.1) (nx := S.2.2.1) (mt := S.2.2.2.1) (fz := S.2.2.2.2.1) (ic := S.2.2.2.2.2.1) (qn := S.2.2.2.2.2.2) (h := (t.1 42).1 0) (X := tkT (t.2 0 0).2.1 X) hce rfl hg (by have := l.2.2.2.1.2; omega) (by omega) ec
    have k2 : caS t (t.2 0 0) X = pShS t S := by
      unfold caS
      rw [eX]
      show nI (shN (frN ((t.1 42).1 0) (tkT (t.2 0 0).2.1 X))) = _
      rw [k, l.1]
      unfold pShS pSh
      with_reducible rfl
    rw [k2]
  have eH : caH t (t.2 0 0) = decide (pE9 (pgg t).2 (ptk t) < 370 ∨ (1 ≤ (t.1 52).1 7 ∧ (t.1 52).1 7 ≤ 19)) := by
    have eI : caI (caG t (t.2 0 0)) (0 + amI t (t.2 0 0)) = pE9 (pgg t).2 (ptk t) := by
      unfold caI poI pE9
      rw [Int32.zero_add, ea, if_neg hnp, if_neg hnp, eG 0 (by decide), eG 1 (by decide)]
    unfold caH ihB
    rw [eI, l.2.1]
    exact decide_eq_decide.mpr (or_congr_right mg_hd)
  refine ⟨⟨?_, ?_, eG, ?_, Or.inl ⟨caV_3, caV_4, pcv_5 _ _ _⟩, ?_⟩, ea, ?_⟩
  · rw [caV_0, pcv_1]
    exact l.2.1
  · rw [caV_5, pcv_0, Int32.zero_add]
    exact ea
  · rw [caV_2, pcv_2]
    have eF : pFbS t S = _ := pfF_b (f := (t.2 3 0).2.1) (nn := (t.2 4 0).2.1) (mg9 := (pgg t).2) (tk := ptk t) (mg := (t.1 52).1 7) (sh := pShS t S) (c := pCo t S.1) hp
    rw [eF, caF_b, eC, eH, q4, q3, q1, q5, q6, q7, q8]
    exact fb_rel _ _ _ _ _ _ _ hs
  · rw [caV_0, pcv_4, l.2.1]
    rfl
  · rw [Int32.toInt_sub, bm32 (by have h9 := Int32.toInt_lt ((t.1 63).1 1); omega) (by have h9 := Int32.toInt_lt ((t.1 63).1 1); omega)]
    omega
theorem R_pour {t : zTT} {n n1 n2 : Nat → Nat} {b : Nat} {X9 : zTr} {S9 : zSC} (hx : ¬ n 3 = 0 → ¬ fa_cnt (fun k => decide ((t.2 3 0).2.1 k = 103)) 12 = 0 ∧ (t.2 4 0).2.2.2 0 < 9) (h : REL t n b) (e1 : n1 = nK_Ip_pour t n) (e2 : n2 = nK_Mm_pour (tK_Ip_pour X9 t n) n1) : REL (tK_Mm_pour S9 (tK_Ip_pour X9 t n) n1) n2 b := by
  subst e1
  rw [e2]
  have m0 := h.mo.1
  have m4 := h.mo.2.1
  have c5 := h.ca.1
  have c6 := h.ca.2.1
  unfold tK_Ip_pour nK_Ip_pour
  by_cases h0 : ¬ n 0 = 0
  · have h0' : ¬ n 3 = 0 := by omega
    rw [if_pos h0, if_pos h0]
    by_cases h12 : ¬ (t.1 43).1 0 = 0 ∧ 1250 ≤ (t.1 42).1 0
    · have ei : (t.1 43).1 0 = (t.1 63).1 1 := h.ir.1.2.1
      have hi : ¬ (t.1 63).1 1 = 0 := by rw [← ei]; exact h12.1
      have l := h.la.2 hi
      have h12' : ¬ (t.1 63).1 1 = 0 ∧ 1250 ≤ (t.1 52).1 6 := ⟨hi, by rw [← l.1]; exact h12.2⟩
      rw [if_pos h12, if_pos h12]
      by_cases h3 : n 1 < 30
      · have h3' : ¬ n 5 = 30 := by omega
        rw [if_pos h3, if_pos h3]
        unfold tK_Mm_pour nK_Mm_pour
        refine Eq.mpr (congrArg (fun z => REL z _ _) ((if_pos h0').trans ((if_pos h12').trans (if_pos h3')))) ?_
        refine Eq.mpr (congrArg (fun z => REL _ z _) ((if_pos h0').trans ((if_pos h12').trans (if_pos h3')))) ?_
        obtain ⟨g1, g2⟩ := hx h0'
        obtain ⟨k1, k2, k3⟩ := po_cast (X := X9) (S := S9) h h0 g1 g2 hi h12.2
        have hgr := pg_rel (tk := ptk t) (al := (t.1 63).1 1) h.ir.2.2.1 4 (Nat.le_refl _)
        refine ⟨h.pa, h.pt, h.sa, ⟨h.co.1, h.co.2.1, h.co.2.2⟩, ?_, ⟨?_, fun _ => l⟩, h.re, ⟨?_, ?_, fun i hi => ?_⟩, ⟨?_, ?_, fun i hi => ?_⟩, h.fb, ⟨h.sz.1, ?_, ?_⟩, h.pz⟩
        · show RELI ((t.1 37).1 0) ((t.1 43).1 0 - amI t (t.2 0 0)) ((t.1 45).1 0) ((t.1 47).1 0) (t.1 38).2.1 (mvS (t.1 44).2.1 (amI t (t.2 0 0)) ((t.1 43).1 0) 4) (t.1 46).2.1 (t.1 48).2.1 (upd (t.1 63).1 1 ((t.1 63).1 1 - ptk t)) (pgM (t.1 64).2.1 (ptk t) ((t.1 63).1 1) 4).1
          rw [k2, ei]
          refine ⟨⟨?_, ?_, ?_, ?_⟩, fun e he => ?_, fun e he => ?_, fun e he => ?_, fun e he => ?_⟩
          · rw [upd_ne (by decide)]; exact h.ir.1.1
          · rw [upd_eq]
          · rw [upd_ne (by decide)]; exact h.ir.1.2.2.1
          · rw [upd_ne (by decide)]; exact h.ir.1.2.2.2
          · rw [hgr.2.2.2 0 (by decide) e he]; exact h.ir.2.1 e he
          · exact hgr.1 e he
          · rw [hgr.2.2.2 2 (by decide) e he]; exact h.ir.2.2.2.1 e he
          · rw [hgr.2.2.2 3 (by decide) e he]; exact h.ir.2.2.2.2 e he
        · show 0 ≤ ((t.1 63).1 1 - ptk t).toInt
          exact k3
        · show n 0 - 1 = n 3 - 1
          rw [m0]
        · show n 4 - 1 = n 3 - 1
          rw [m4]
        · have hi : i < n 0 - 1 := hi
          show RELm (z_dlV (t.2 0) 0 i) (z_dlV (t.2 3) 0 i) (z_dlV (t.2 4) 0 i)
          have ez : ∀ V : Nat → zV, z_dlV V 0 i = V (i + 1) := fun V => if_neg (Nat.not_lt_zero i)
          rw [ez, ez, ez]
          exact h.mo.2.2 (i + 1) (by omega)
        · show n 1 + 1 = n 5 + 1
          rw [c5]
        · show n 6 + 1 = n 5 + 1
          rw [c6]
        · have hi : i < n 1 + 1 := hi
          show RELc (if i = n 1 then caV t (t.2 0 0) X9 (caF t (t.2 0 0) X9) else t.2 1 i) (if i = n 5 then pcv9 t (pShS t S9) (pFbS t S9) else t.2 5 i) (if i = n 6 then pgv9 t else t.2 6 i)
          rw [c6, ← c5]
          by_cases q : i = n 1
          · rw [if_pos q, if_pos q, if_pos q]
            exact k1
          · rw [if_neg q, if_neg q, if_neg q]
            exact h.ca.2.2 i (by omega)
        · show n 0 - 1 ≤ 10
          have := h.sz.2.1
          omega
        · show n 1 + 1 ≤ 30
          omega
      · have h3' : ¬ ¬ n 5 = 30 := fun z => z (by have := h.sz.2.2; omega)
        rw [if_neg h3, if_neg h3]
        unfold tK_Mm_pour nK_Mm_pour
        refine Eq.mpr (congrArg (fun z => REL z _ _) ((if_pos h0').trans ((if_pos h12').trans (if_neg h3')))) ?_
        refine Eq.mpr (congrArg (fun z => REL _ z _) ((if_pos h0').trans ((if_pos h12').trans (if_neg h3')))) ?_
        exact h
    · have h12' : ¬ (¬ (t.1 63).1 1 = 0 ∧ 1250 ≤ (t.1 52).1 6) := fun q => h12 ⟨by rw [h.ir.1.2.1]; exact q.1, by rw [(h.la.2 q.1).1]; exact q.2⟩
      rw [if_neg h12, if_neg h12]
      unfold tK_Mm_pour nK_Mm_pour
      refine Eq.mpr (congrArg (fun z => REL z _ _) ((if_pos h0').trans (if_neg h12'))) ?_
      refine Eq.mpr (congrArg (fun z => REL _ z _) ((if_pos h0').trans (if_neg h12'))) ?_
      exact h
  · have h0' : ¬ ¬ n 3 = 0 := by omega
    rw [if_neg h0, if_neg h0]
    unfold tK_Mm_pour nK_Mm_pour
    refine Eq.mpr (congrArg (fun z => REL z _ _) (if_neg h0')) ?_
    refine Eq.mpr (congrArg (fun z => REL _ z _) (if_neg h0')) ?_
    exact h
theorem IVm.px {g : zG} {ad : Nat → Nat} {t : zTT} {u : zNN} {w : zW} (hI : IVm g ad t u w) (h : ¬ u.1 3 = 0) : ¬ fa_cnt (fun k => decide ((t.2 3 0).2.1 k = 103)) 12 = 0 ∧ (t.2 4 0).2.2.2 0 < 9 := by
  obtain ⟨s, hI⟩ := hI
  have h4 : u.1 4 = u.1 3 := hI.sz.2.2.2.2.1
  obtain ⟨-, -, -, a⟩ := hI.2.1.2.1 3 (by decide) 0 (by omega)
  obtain ⟨-, -, -, -, b⟩ := hI.2.1.2.1 4 (by decide) 0 (by omega)
  exact ⟨a, b⟩
end
section
def ixs (C : Nat → zV) : Nat → Int64
  | 0 => 0
  | i + 1 => ixs C i + ((C i).2.1 0).toInt64
def ixd (C : Nat → zV) : Nat → Int64
  | 0 => 0
  | i + 1 => if (C i).2.1 5 = 1 then ixd C i + ((C i).2.1 0).toInt64 else ixd C i
theorem ixs_cg {C D : Nat → zV} : ∀ i, (∀ j, j < i → (C j).2.1 0 = (D j).2.1 0) → ixs C i = ixs D i
  | 0, _ => rfl
  | i + 1, h => by
    show ixs C i + ((C i).2.1 0).toInt64 = ixs D i + ((D i).2.1 0).toInt64
    rw [ixs_cg i (fun j hj => h j (by omega)), h i (by omega)]
theorem ixd_cg {C D : Nat → zV} : ∀ i, (∀ j, j < i → (C j).2.1 0 = (D j).2.1 0 ∧ ((C j).2.1 5 = 1 ↔ (D j).2.1 5 = 1)) → ixd C i = ixd D i
  | 0, _ => rfl
  | i + 1, h => by
    have e := h i (by omega)
    show (if (C i).2.1 5 = 1 then ixd C i + ((C i).2.1 0).toInt64 else ixd C i) = (if (D i).2.1 5 = 1 then ixd D i + ((D i).2.1 0).toInt64 else ixd D i)
    rw [ixd_cg i (fun j hj => h j (by omega)), e.1]
    by_cases q : (C i).2.1 5 = 1
    · rw [if_pos q, if_pos (e.2.mp q)]
    · rw [if_neg q, if_neg (fun z => q (e.2.mpr z))]
theorem ixd_set {C D : Nat → zV} {k : Nat} (hC : ¬ (C k).2.1 5 = 1) (hD : (D k).2.1 5 = 1) (h0 : (D k).2.1 0 = (C k).2.1 0) (ho : ∀ j, ¬ j = k → D j = C j) : ∀ i, (i ≤ k → ixd D i = ixd C i) ∧ (k < i → ixd D i = ixd C i + ((C k).2.1 0).toInt64)
  | 0 => ⟨fun _ => rfl, fun h => absurd h (Nat.not_lt_zero k)⟩
  | i + 1 => by
    obtain ⟨a, b⟩ := ixd_set hC hD h0 ho i
    refine ⟨fun h => ?_, fun h => ?_⟩
    · show (if (D i).2.1 5 = 1 then ixd D i + ((D i).2.1 0).toInt64 else ixd D i) = (if (C i).2.1 5 = 1 then ixd C i + ((C i).2.1 0).toInt64 else ixd C i)
      rw [ho i (by omega), a (by omega)]
    · show (if (D i).2.1 5 = 1 then ixd D i + ((D i).2.1 0).toInt64 else ixd D i) = (if (C i).2.1 5 = 1 then ixd C i + ((C i).2.1 0).toInt64 else ixd C i) + ((C k).2.1 0).toInt64
      by_cases q : i = k
      · rw [if_pos (show (D i).2.1 5 = 1 by rw [q]; exact hD), if_neg (show ¬ (C i).2.1 5 = 1 by rw [q]; exact hC), a (by omega), q, h0]
      · rw [ho i q]
        by_cases z : (C i).2.1 5 = 1
        · rw [if_pos z, if_pos z, b (by omega), Int64.add_assoc, Int64.add_comm ((C k).2.1 0).toInt64, ← Int64.add_assoc]
        · rw [if_neg z, if_neg z, b (by omega)]
theorem v2_ne {a f : Nat → Int32} {c : (Nat → Int64) × (Nat → Nat)} {i k : Nat} {v : Int32} (h : ¬ k = i) : ((a, upd f i v, c) : zV).2.1 k = f k := upd_ne h
theorem v2_eq {a f : Nat → Int32} {c : (Nat → Int64) × (Nat → Nat)} {i : Nat} {v : Int32} : ((a, upd f i v, c) : zV).2.1 i = v := upd_eq
def set5 (C : Nat → zV) (K : Nat) (V : zV) : Nat → zV := fun j => if j = K then V else C j
theorem set5_eq {C : Nat → zV} {K : Nat} {V : zV} : set5 C K V K = V := if_pos rfl
theorem set5_ne {C : Nat → zV} {K j : Nat} {V : zV} (h : ¬ j = K) : set5 C K V j = C j := if_neg h
theorem vup_5 {F : Nat → Nat → zV} {K : Nat} {V : zV} : (vup F 5 K V) 5 = set5 (F 5) K V := funext fun j => by
  show (if 5 = 5 ∧ j = K then V else F 5 j) = (if j = K then V else F 5 j)
  by_cases q : j = K
  · rw [if_pos ⟨rfl, q⟩, if_pos q]
  · rw [if_neg (fun z => q z.2), if_neg q]
def RX (mi : Nat → Int32) (d : Nat → Int64) (C : Nat → zV) (n5 b : Nat) : Prop := (mi 1).toInt ≤ 500 ∧ (0 ≤ (mi 2).toInt ∧ (mi 2).toInt ≤ ((11 * b : Nat) : Int)) ∧ (0 ≤ (mi 3).toInt ∧ (mi 3).toInt ≤ ((11 * b : Nat) : Int)) ∧ (∀ i, i < n5 → 1 ≤ ((C i).2.1 0).toInt ∧ ((C i).2.1 0).toInt ≤ 500) ∧ d 0 = ixs C n5 ∧ d 1 = ixd C n5
def REX (t : zTT) (n : Nat → Nat) (b : Nat) : Prop := RX (t.1 63).1 (t.1 52).2.1 (t.2 5) (n 5) b
def REY (t : zTT) (n : Nat → Nat) (b : Nat) : Prop := REL t n b ∧ REX t n b
theorem RX.up {mi : Nat → Int32} {d : Nat → Int64} {C : Nat → zV} {n5 b c : Nat} (h : RX mi d C n5 b) (e : b ≤ c) : RX mi d C n5 c := ⟨h.1, ⟨h.2.1.1, by have := h.2.1.2; omega⟩, ⟨h.2.2.1.1, by have := h.2.2.1.2; omega⟩, h.2.2.2⟩
theorem REX.up {t : zTT} {n : Nat → Nat} {b c : Nat} (h : REX t n b) (e : b ≤ c) : REX t n c := RX.up h e
theorem REY.up {t : zTT} {n : Nat → Nat} {b c : Nat} (h : REY t n b) (e : b ≤ c) : REY t n c := ⟨h.1.up e, h.2.up e⟩
theorem REY.n {t : zTT} {n m : Nat → Nat} {b : Nat} (h : REY t n b) (e : m = n) : REY t m b := by
  subst e
  exact h
def NEC (t T : zTT) : Prop := T.1 52 = t.1 52 ∧ T.1 63 = t.1 63 ∧ T.2 5 = t.2 5
def NEM (t T : zTT) : Prop := (T.1 52).2.1 = (t.1 52).2.1 ∧ (T.1 63).1 = (t.1 63).1 ∧ T.2 5 = t.2 5
theorem REX.c {t T : zTT} {n n1 : Nat → Nat} {b : Nat} (h : REX t n b) (k : NEC t T) (e : n1 5 = n 5) : REX T n1 b := by
  unfold REX at h ⊢
  rw [k.1, k.2.1, k.2.2, e]
  exact h
theorem REX.m {t T : zTT} {n n1 : Nat → Nat} {b : Nat} (h : REX t n b) (k : NEM t T) (e : n1 5 = n 5) : REX T n1 b := by
  unfold REX at h ⊢
  rw [k.1, k.2.1, k.2.2, e]
  exact h
theorem RX.u0 {mi : Nat → Int32} {d : Nat → Int64} {C : Nat → zV} {n5 b : Nat} {x : Int32} (h : RX mi d C n5 b) : RX (upd mi 0 x) d C n5 b := by
  unfold RX
  rw [upd_ne (by decide), upd_ne (by decide), upd_ne (by decide)]
  exact h
theorem RX.dn2 {mi : Nat → Int32} {d : Nat → Int64} {C : Nat → zV} {n5 b : Nat} {m : Int32} (h : RX mi d C n5 b) (hm : 1 ≤ m.toInt) (hf : ¬ mi 2 < m) : RX (mvN mi 2 0 m) d C n5 b := by
  have g := h.2.1
  rw [Int32.lt_iff_toInt_lt] at hf
  have e : (mi 2 - m).toInt = (mi 2).toInt - m.toInt := by
    have h9 := Int32.toInt_lt (mi 2)
    rw [Int32.toInt_sub]
    exact bm32 (by omega) (by omega)
  unfold RX
  rw [mvN_ot (p := 1) (by decide) (by decide), mvN_fr (show ¬ 2 = 0 by decide), mvN_ot (p := 3) (by decide) (by decide), e]
  exact ⟨h.1, ⟨by omega, by omega⟩, h.2.2.1, h.2.2.2⟩
theorem RX.pl2 {mi : Nat → Int32} {d : Nat → Int64} {C : Nat → zV} {n5 b : Nat} {x : Int32} (hb : b ≤ 100000) (h : RX mi d C n5 b) (hx : 1 ≤ x.toInt ∧ x.toInt ≤ 500) : RX (upd mi 2 (mi 2 + x)) d C n5 (b + 48) := by
  have g := h.2.1
  have e : (mi 2 + x).toInt = (mi 2).toInt + x.toInt := by rw [Int32.toInt_add]; exact bm32 (by omega) (by omega)
  have h' := h.up (show b ≤ b + 48 by omega)
  unfold RX
  rw [upd_eq, upd_ne (show ¬ 1 = 2 by decide), upd_ne (show ¬ 3 = 2 by decide), e]
  exact ⟨h'.1, ⟨by omega, by omega⟩, h'.2.2.1, h'.2.2.2⟩
theorem RX.pg2 {mi : Nat → Int32} {d : Nat → Int64} {C : Nat → zV} {n5 b : Nat} (hb : b ≤ 100000) (h : RX mi d C n5 b) (h0 : 0 ≤ (mi 1).toInt) : RX (mvN mi 1 2 (mi 1)) d C n5 (b + 48) := by
  have g := h.2.1
  have g1 := h.1
  have e : (mi 2 + mi 1).toInt = (mi 2).toInt + (mi 1).toInt := by rw [Int32.toInt_add]; exact bm32 (by omega) (by omega)
  have h' := h.up (show b ≤ b + 48 by omega)
  unfold RX
  rw [mvN_fr (show ¬ 1 = 2 by decide), mvN_to (show ¬ 1 = 2 by decide), mvN_ot (p := 3) (by decide) (by decide), e, Int32.sub_self]
  exact ⟨by decide, ⟨by omega, by omega⟩, h'.2.2.1, h'.2.2.2⟩
theorem RX.dn3 {mi : Nat → Int32} {d : Nat → Int64} {C : Nat → zV} {n5 b : Nat} {m : Int32} (h : RX mi d C n5 b) (hm : 1 ≤ m.toInt) (hf : ¬ mi 3 < m) : RX (mvN mi 3 0 m) d C n5 b := by
  have g := h.2.2.1
  rw [Int32.lt_iff_toInt_lt] at hf
  have e : (mi 3 - m).toInt = (mi 3).toInt - m.toInt := by
    have h9 := Int32.toInt_lt (mi 3)
    rw [Int32.toInt_sub]
    exact bm32 (by omega) (by omega)
  unfold RX
  rw [mvN_ot (p := 1) (by decide) (by decide), mvN_fr (show ¬ 3 = 0 by decide), mvN_ot (p := 2) (by decide) (by decide), e]
  exact ⟨h.1, h.2.1, ⟨by omega, by omega⟩, h.2.2.2⟩
theorem RX.pl3 {mi : Nat → Int32} {d : Nat → Int64} {C : Nat → zV} {n5 b : Nat} {x : Int32} (hb : b ≤ 100000) (h : RX mi d C n5 b) (hx : 1 ≤ x.toInt ∧ x.toInt ≤ 500) : RX (upd mi 3 (mi 3 + x)) d C n5 (b + 48) := by
  have g := h.2.2.1
  have e : (mi 3 + x).toInt = (mi 3).toInt + x.toInt := by rw [Int32.toInt_add]; exact bm32 (by omega) (by omega)
  have h' := h.up (show b ≤ b + 48 by omega)
  unfold RX
  rw [upd_eq, upd_ne (show ¬ 1 = 3 by decide), upd_ne (show ¬ 2 = 3 by decide), e]
  exact ⟨h'.1, h'.2.1, ⟨by omega, by omega⟩, h'.2.2.2⟩
theorem RX.pg3 {mi : Nat → Int32} {d : Nat → Int64} {C : Nat → zV} {n5 b : Nat} (hb : b ≤ 100000) (h : RX mi d C n5 b) (h0 : 0 ≤ (mi 1).toInt) : RX (mvN mi 1 3 (mi 1)) d C n5 (b + 48) := by
  have g := h.2.2.1
  have g1 := h.1
  have e : (mi 3 + mi 1).toInt = (mi 3).toInt + (mi 1).toInt := by rw [Int32.toInt_add]; exact bm32 (by omega) (by omega)
  have h' := h.up (show b ≤ b + 48 by omega)
  unfold RX
  rw [mvN_fr (show ¬ 1 = 3 by decide), mvN_to (show ¬ 1 = 3 by decide), mvN_ot (p := 2) (by decide) (by decide), e, Int32.sub_self]
  exact ⟨by decide, h'.2.1, ⟨by omega, by omega⟩, h'.2.2.2⟩
theorem RX.tp {mi : Nat → Int32} {d : Nat → Int64} {C : Nat → zV} {n5 b : Nat} {m : Int32} (h : RX mi d C n5 b) (hm : 1 ≤ m ∧ m ≤ 500) (h1 : mi 1 ≤ 0) (h0 : 0 ≤ (mi 1).toInt) : RX (mvN mi 0 1 m) d C n5 b := by
  have m1 := hm.1
  have m2 := hm.2
  rw [Int32.le_iff_toInt_le, show (1 : Int32).toInt = 1 from rfl] at m1
  rw [Int32.le_iff_toInt_le, show (500 : Int32).toInt = 500 from rfl] at m2
  rw [Int32.le_iff_toInt_le, show (0 : Int32).toInt = 0 from rfl] at h1
  have e : (mi 1 + m).toInt = (mi 1).toInt + m.toInt := by rw [Int32.toInt_add]; exact bm32 (by omega) (by omega)
  unfold RX
  rw [mvN_to (show ¬ 0 = 1 by decide), mvN_ot (p := 2) (by decide) (by decide), mvN_ot (p := 3) (by decide) (by decide), e]
  exact ⟨by omega, h.2⟩
theorem RX.st {mi : Nat → Int32} {d : Nat → Int64} {C : Nat → zV} {n5 b : Nat} {K : Nat} {V : zV} (h : RX mi d C n5 b) (h0 : V.2.1 0 = (C K).2.1 0) (h5 : V.2.1 5 = 1 ↔ (C K).2.1 5 = 1) : RX mi d (set5 C K V) n5 b := by
  have k0 : ∀ j, (set5 C K V j).2.1 0 = (C j).2.1 0 := fun j => by
    by_cases q : j = K
    · rw [q, set5_eq, h0]
    · rw [set5_ne q]
  have k5 : ∀ j, (set5 C K V j).2.1 5 = 1 ↔ (C j).2.1 5 = 1 := fun j => by
    by_cases q : j = K
    · rw [q, set5_eq]; exact h5
    · rw [set5_ne q]
  refine ⟨h.1, h.2.1, h.2.2.1, fun i hi => ?_, ?_, ?_⟩
  · rw [k0]
    exact h.2.2.2.1 i hi
  · rw [ixs_cg (D := C) n5 (fun j _ => k0 j)]
    exact h.2.2.2.2.1
  · rw [ixd_cg (D := C) n5 (fun j _ => ⟨k0 j, k5 j⟩)]
    exact h.2.2.2.2.2
theorem RX.dl {mi : Nat → Int32} {d : Nat → Int64} {C : Nat → zV} {n5 b : Nat} {K : Nat} {V : zV} (h : RX mi d C n5 b) (hK : K < n5) (h0 : V.2.1 0 = (C K).2.1 0) (h5 : V.2.1 5 = 1) (hC : ¬ (C K).2.1 5 = 1) : RX mi (vp_updL d 1 (d 1 + ((C K).2.1 0).toInt64)) (set5 C K V) n5 b := by
  have k0 : ∀ j, (set5 C K V j).2.1 0 = (C j).2.1 0 := fun j => by
    by_cases q : j = K
    · rw [q, set5_eq, h0]
    · rw [set5_ne q]
  refine ⟨h.1, h.2.1, h.2.2.1, fun i hi => ?_, ?_, ?_⟩
  · rw [k0]
    exact h.2.2.2.1 i hi
  · rw [updL_ne (by decide), ixs_cg (D := C) n5 (fun j _ => k0 j)]
    exact h.2.2.2.2.1
  · rw [updL_eq, (ixd_set (C := C) (D := set5 C K V) (k := K) hC (by rw [set5_eq]; exact h5) (by rw [set5_eq]; exact h0) (fun j hj => set5_ne hj) n5).2 hK, h.2.2.2.2.2]
theorem RX.po {mi : Nat → Int32} {d : Nat → Int64} {C : Nat → zV} {n5 b : Nat} {k : Int32} {V : zV} (h : RX mi d C n5 b) (hk : 1 ≤ k.toInt ∧ k.toInt ≤ (mi 1).toInt) (h0 : V.2.1 0 = k) (h5 : V.2.1 5 = 0) : RX (upd mi 1 (mi 1 - k)) (vp_updL d 0 (d 0 + k.toInt64)) (z_apV C n5 V) (n5 + 1) b := by
  have g := h.1
  have e : (mi 1 - k).toInt = (mi 1).toInt - k.toInt := by rw [Int32.toInt_sub]; exact bm32 (by omega) (by omega)
  have hn : z_apV C n5 V n5 = V := if_pos rfl
  have ho : ∀ j, j < n5 → z_apV C n5 V j = C j := fun j hj => if_neg (by omega)
  refine ⟨by rw [upd_eq, e]; omega, by rw [upd_ne (by decide)]; exact h.2.1, by rw [upd_ne (by decide)]; exact h.2.2.1, fun i hi => ?_, ?_, ?_⟩
  · by_cases q : i = n5
    · rw [q, hn, h0]
      omega
    · rw [ho i (by omega)]
      exact h.2.2.2.1 i (by omega)
  · show vp_updL d 0 (d 0 + k.toInt64) 0 = ixs (z_apV C n5 V) n5 + ((z_apV C n5 V n5).2.1 0).toInt64
    rw [updL_eq, hn, h0, ixs_cg (D := C) n5 (fun j hj => by rw [ho j hj]), h.2.2.2.2.1]
  · show vp_updL d 0 (d 0 + k.toInt64) 1 = (if (z_apV C n5 V n5).2.1 5 = 1 then ixd (z_apV C n5 V) n5 + ((z_apV C n5 V n5).2.1 0).toInt64 else ixd (z_apV C n5 V) n5)
    rw [updL_ne (by decide), hn, if_neg (by rw [h5]; decide), ixd_cg (D := C) n5 (fun j hj => by rw [ho j hj]; exact ⟨rfl, Iff.rfl⟩), h.2.2.2.2.2]
set_option maxHeartbeats 4000000 in
theorem NEC_draw {t : zTT} (k x y p q : Int32) : NEC t (tK_Ip_draw k x y p q t) := by
  unfold tK_Ip_draw
  repeat' split
  all_goals exact ⟨rfl, rfl, rfl⟩
set_option maxHeartbeats 4000000 in
theorem NEC_part {t : zTT} (r : Int32) : NEC t (tK_Ip_part r t) := by
  unfold tK_Ip_part
  repeat' split
  all_goals exact ⟨rfl, rfl, rfl⟩
set_option maxHeartbeats 4000000 in
theorem NEC_mill {t : zTT} (m1 m2 m3 m4 : Int32) : NEC t (tK_Ip_mill m1 m2 m3 m4 t) := by
  unfold tK_Ip_mill
  repeat' split
  all_goals exact ⟨rfl, rfl, rfl⟩
set_option maxHeartbeats 4000000 in
theorem NEC_makeCores {t : zTT} (c k : Int32) : NEC t (tK_Ip_makeCores c k t) := by
  unfold tK_Ip_makeCores
  repeat' split
  all_goals exact ⟨rfl, rfl, rfl⟩
set_option maxHeartbeats 4000000 in
theorem NEC_hours {t : zTT} (x : Int32) : NEC t (tK_Ip_hours x t) := by
  unfold tK_Ip_hours
  repeat' split
  all_goals exact ⟨rfl, rfl, rfl⟩
set_option maxHeartbeats 4000000 in
theorem NEC_charge {t : zTT} (k m : Int32) : NEC t (tK_Ip_charge k m t) := by
  unfold tK_Ip_charge
  repeat' split
  all_goals exact ⟨rfl, rfl, rfl⟩
set_option maxHeartbeats 4000000 in
theorem NEC_hold {t : zTT} (x : Int32) : NEC t (tK_Ip_hold x t) := by
  unfold tK_Ip_hold
  repeat' split
  all_goals exact ⟨rfl, rfl, rfl⟩
set_option maxHeartbeats 4000000 in
theorem NEC_tap {t : zTT} (m : Int32) : NEC t (tK_Ip_tap m t) := by
  unfold tK_Ip_tap
  repeat' split
  all_goals exact ⟨rfl, rfl, rfl⟩
set_option maxHeartbeats 4000000 in
theorem NEC_treat {t : zTT} (m : Int32) : NEC t (tK_Ip_treat m t) := by
  unfold tK_Ip_treat
  repeat' split
  all_goals exact ⟨rfl, rfl, rfl⟩
set_option maxHeartbeats 4000000 in
theorem NEC_pig {t : zTT} : NEC t (tK_Ip_pig t) := by
  unfold tK_Ip_pig
  repeat' split
  all_goals exact ⟨rfl, rfl, rfl⟩
set_option maxHeartbeats 4000000 in
theorem NEC_leastCost {t : zTT} (x1 x2 x3 x4 x5 x6 : Int32) : NEC t (tK_Ip_leastCost x1 x2 x3 x4 x5 x6 t) := by
  unfold tK_Ip_leastCost
  repeat' split
  all_goals exact ⟨rfl, rfl, rfl⟩
set_option maxHeartbeats 4000000 in
theorem NEC_minutes {t : zTT} {n : Nat → Nat} (x : Int32) : NEC t (tK_Ip_minutes x t n) := by
  unfold tK_Ip_minutes
  repeat' split
  all_goals exact ⟨rfl, rfl, rfl⟩
set_option maxHeartbeats 4000000 in
theorem NEC_mould {t : zTT} {n : Nat → Nat} : NEC t (tK_Ip_mould t n) := by
  unfold tK_Ip_mould
  repeat' split
  all_goals exact ⟨rfl, rfl, rfl⟩
set_option maxHeartbeats 4000000 in
theorem NEC_pour {t : zTT} {n : Nat → Nat} {X9 : zTr} : NEC t (tK_Ip_pour X9 t n) := by
  unfold tK_Ip_pour
  repeat' split
  all_goals exact ⟨rfl, rfl, rfl⟩
set_option maxHeartbeats 4000000 in
theorem NEC_weld {t : zTT} {n : Nat → Nat} (x : Int32) : NEC t (tK_Ip_weld x t n) := by
  unfold tK_Ip_weld
  repeat' split
  all_goals exact ⟨rfl, rfl, rfl⟩
set_option maxHeartbeats 4000000 in
theorem NEC_deliver {t : zTT} {n : Nat → Nat} (x : Int32) : NEC t (tK_Ip_deliver x t n) := by
  unfold tK_Ip_deliver
  repeat' split
  all_goals exact ⟨rfl, rfl, rfl⟩
set_option maxHeartbeats 4000000 in
theorem NEC_breakUp {t : zTT} {n : Nat → Nat} (x : Int32) : NEC t (tK_Ip_breakUp x t n) := by
  unfold tK_Ip_breakUp
  repeat' split
  all_goals exact ⟨rfl, rfl, rfl⟩
set_option maxHeartbeats 4000000 in
theorem NEM_draw {t : zTT} (k x y p q : Int32) : NEM t (tK_Mm_draw k x y p q t) := by
  unfold tK_Mm_draw
  repeat' split
  all_goals exact ⟨rfl, rfl, rfl⟩
set_option maxHeartbeats 4000000 in
theorem NEM_part {t : zTT} (r : Int32) : NEM t (tK_Mm_part r t) := by
  unfold tK_Mm_part
  repeat' split
  all_goals exact ⟨rfl, rfl, rfl⟩
set_option maxHeartbeats 4000000 in
theorem NEM_mill {t : zTT} (m1 m2 m3 m4 : Int32) : NEM t (tK_Mm_mill m1 m2 m3 m4 t) := by
  unfold tK_Mm_mill
  repeat' split
  all_goals exact ⟨rfl, rfl, rfl⟩
set_option maxHeartbeats 4000000 in
theorem NEM_makeCores {t : zTT} {n : Nat → Nat} (c k : Int32) : NEM t (tK_Mm_makeCores c k t n) := by
  unfold tK_Mm_makeCores
  repeat' split
  all_goals exact ⟨rfl, rfl, rfl⟩
set_option maxHeartbeats 4000000 in
theorem NEM_hours {t : zTT} {n : Nat → Nat} (x : Int32) : NEM t (tK_Mm_hours x t n) := by
  unfold tK_Mm_hours
  repeat' split
  all_goals exact ⟨rfl, rfl, rfl⟩
set_option maxHeartbeats 4000000 in
theorem NEM_hold {t : zTT} (x : Int32) : NEM t (tK_Mm_hold x t) := by
  unfold tK_Mm_hold
  repeat' split
  all_goals exact ⟨rfl, rfl, rfl⟩
set_option maxHeartbeats 4000000 in
theorem NEM_treat {t : zTT} (m : Int32) : NEM t (tK_Mm_treat m t) := by
  unfold tK_Mm_treat
  repeat' split
  all_goals exact ⟨rfl, rfl, rfl⟩
set_option maxHeartbeats 4000000 in
theorem NEM_leastCost {t : zTT} (x1 x2 x3 x4 x5 x6 : Int32) : NEM t (tK_Mm_leastCost x1 x2 x3 x4 x5 x6 t) := by
  unfold tK_Mm_leastCost
  repeat' split
  all_goals exact ⟨rfl, rfl, rfl⟩
set_option maxHeartbeats 4000000 in
theorem NEM_minutes {t : zTT} {n : Nat → Nat} (x : Int32) : NEM t (tK_Mm_minutes x t n) := by
  unfold tK_Mm_minutes
  repeat' split
  all_goals exact ⟨rfl, rfl, rfl⟩
set_option maxHeartbeats 4000000 in
theorem NEM_mould {t : zTT} {n : Nat → Nat} : NEM t (tK_Mm_mould t n) := by
  unfold tK_Mm_mould
  repeat' split
  all_goals exact ⟨rfl, rfl, rfl⟩
theorem n5_Mm_makeCores {t : zTT} {n : Nat → Nat} (c k : Int32) : nK_Mm_makeCores c k t n 5 = n 5 := by
  unfold nK_Mm_makeCores
  repeat' split
  all_goals rfl
theorem n5_Mm_hours {t : zTT} {n : Nat → Nat} (x : Int32) : nK_Mm_hours x t n 5 = n 5 := by
  unfold nK_Mm_hours
  repeat' split
  all_goals rfl
theorem n5_Ip_mould {t : zTT} {n : Nat → Nat} : nK_Ip_mould t n 5 = n 5 := by
  unfold nK_Ip_mould
  repeat' split
  all_goals rfl
theorem n5_Mm_mould {t : zTT} {n : Nat → Nat} : nK_Mm_mould t n 5 = n 5 := by
  unfold nK_Mm_mould
  repeat' split
  all_goals rfl
theorem n5_Ip_pour {t : zTT} {n : Nat → Nat} : nK_Ip_pour t n 5 = n 5 := by
  unfold nK_Ip_pour
  repeat' split
  all_goals rfl
theorem RXM_charge {T : zTT} {n : Nat → Nat} {b : Nat} (k m : Int32) (h : REX T n b) : REX (tK_Mm_charge k m T) n b := by
  unfold tK_Mm_charge
  by_cases hw : 0 ≤ z_ix 1 k ∧ (1 ≤ m ∧ m ≤ 1000)
  · rw [if_pos hw]
    have hm1 := hw.2.1
    rw [Int32.le_iff_toInt_le, show (1 : Int32).toInt = 1 from rfl] at hm1
    have hu : ∀ x, RX (upd (T.1 63).1 0 x) (T.1 52).2.1 (T.2 5) (n 5) b := fun x => RX.u0 h
    by_cases a1 : k = 112
    · rw [if_pos a1]
      by_cases g : 3000 < (T.1 63).1 0 + m
      · rw [if_pos g]; exact h
      · rw [if_neg g]; exact hu _
    · rw [if_neg a1]
      by_cases a2 : k = 115
      · rw [if_pos a2]
        by_cases g : 3000 < (T.1 63).1 0 + m
        · rw [if_pos g]; exact h
        · rw [if_neg g]; exact hu _
      · rw [if_neg a2]
        by_cases a3 : k = 102
        · rw [if_pos a3]
          by_cases g : 3000 < (T.1 63).1 0 + m
          · rw [if_pos g]; exact h
          · rw [if_neg g]; exact hu _
        · rw [if_neg a3]
          by_cases a4 : k = 107
          · rw [if_pos a4]; exact hu _
          · rw [if_neg a4]
            by_cases a5 : k = 103
            · rw [if_pos a5]
              by_cases hf : (T.1 63).1 2 < m
              · rw [if_pos hf]; exact h
              · rw [if_neg hf]
                by_cases g : 3000 < (T.1 63).1 0 + m
                · rw [if_pos g]; exact h
                · rw [if_neg g]
                  exact (RX.dn2 h hm1 hf : RX (mvN (T.1 63).1 2 0 m) (T.1 52).2.1 (T.2 5) (n 5) b)
            · rw [if_neg a5]
              by_cases hf : (T.1 63).1 3 < m
              · rw [if_pos hf]; exact h
              · rw [if_neg hf]
                by_cases g : 3000 < (T.1 63).1 0 + m
                · rw [if_pos g]; exact h
                · rw [if_neg g]
                  exact (RX.dn3 h hm1 hf : RX (mvN (T.1 63).1 3 0 m) (T.1 52).2.1 (T.2 5) (n 5) b)
  · rw [if_neg hw]; exact h
theorem RXM_tap {T : zTT} {n : Nat → Nat} {b : Nat} (m : Int32) (h0 : 0 ≤ ((T.1 63).1 1).toInt) (h : REX T n b) : REX (tK_Mm_tap m T) n b := by
  unfold tK_Mm_tap
  by_cases hw : 1 ≤ m ∧ m ≤ 500
  · rw [if_pos hw]
    by_cases h1 : (T.1 63).1 1 ≤ 0
    · rw [if_pos h1]
      by_cases g : (T.1 63).1 0 < m
      · rw [if_pos g]; exact h
      · rw [if_neg g]
        exact (RX.tp h hw h1 h0 : RX (mvN (T.1 63).1 0 1 m) (T.1 52).2.1 (T.2 5) (n 5) b)
    · rw [if_neg h1]; exact h
  · rw [if_neg hw]; exact h
theorem RXM_pig {T : zTT} {n : Nat → Nat} {b : Nat} (hb : b ≤ 100000) (h0 : 0 ≤ ((T.1 63).1 1).toInt) (h : REX T n b) : REX (tK_Mm_pig T) n (b + 48) := by
  unfold tK_Mm_pig
  by_cases h1 : (T.1 63).1 1 = 0
  · rw [if_pos h1]; exact h.up (by omega)
  · rw [if_neg h1]
    by_cases hw : (T.1 52).1 8 = 0
    · rw [if_pos hw]
      exact (RX.pg2 hb h h0 : RX (mvN (T.1 63).1 1 2 ((T.1 63).1 1)) (T.1 52).2.1 (T.2 5) (n 5) (b + 48))
    · rw [if_neg hw]
      exact (RX.pg3 hb h h0 : RX (mvN (T.1 63).1 1 3 ((T.1 63).1 1)) (T.1 52).2.1 (T.2 5) (n 5) (b + 48))
theorem RXM_weld {T : zTT} {n : Nat → Nat} {b : Nat} (x : Int32) (h : REX T n b) : REX (tK_Mm_weld x T n) n b := by
  unfold tK_Mm_weld
  by_cases hx : x.toNatClampNeg < n 5 ∧ x = nI x.toNatClampNeg
  · rw [if_pos hx]
    by_cases h12 : ¬ (T.2 5 x.toNatClampNeg).2.1 4 = 1 ∧ (T.2 5 x.toNatClampNeg).2.1 2 &&& 32 = 0
    · rw [if_pos h12]
      by_cases h3 : (T.2 5 x.toNatClampNeg).2.1 5 = 0
      · rw [if_pos h3]
        show RX (T.1 63).1 (T.1 52).2.1 ((vup T.2 5 x.toNatClampNeg ((T.2 5 x.toNatClampNeg).1, upd ((T.2 5 x.toNatClampNeg).2.1) 2 ((T.2 5 x.toNatClampNeg).2.1 2 &&& (-5)), (T.2 5 x.toNatClampNeg).2.2)) 5) (n 5) b
        rw [vup_5]
        exact RX.st h (v2_ne (by decide)) (by rw [v2_ne (show ¬ (5 : Nat) = 2 by decide)])
      · rw [if_neg h3]; exact h
    · rw [if_neg h12]; exact h
  · rw [if_neg hx]; exact h
theorem RXM_deliver {T : zTT} {n : Nat → Nat} {b : Nat} (x : Int32) (h : REX T n b) : REX (tK_Mm_deliver x T n) n b := by
  unfold tK_Mm_deliver
  by_cases hx : x.toNatClampNeg < n 5 ∧ x = nI x.toNatClampNeg
  · rw [if_pos hx]
    by_cases h3 : (T.2 5 x.toNatClampNeg).2.1 5 = 0
    · rw [if_pos h3]
      by_cases h2 : (T.2 5 x.toNatClampNeg).2.1 2 = 0
      · rw [if_pos h2]
        show RX (T.1 63).1 (vp_updL (T.1 52).2.1 1 ((T.1 52).2.1 1 + ((T.2 5 x.toNatClampNeg).2.1 0).toInt64)) ((vup T.2 5 x.toNatClampNeg ((T.2 5 x.toNatClampNeg).1, upd ((T.2 5 x.toNatClampNeg).2.1) 5 1, (T.2 5 x.toNatClampNeg).2.2)) 5) (n 5) b
        rw [vup_5]
        exact RX.dl h hx.1 (v2_ne (by decide)) v2_eq (by rw [h3]; decide)
      · rw [if_neg h2]; exact h
    · rw [if_neg h3]; exact h
  · rw [if_neg hx]; exact h
theorem RXM_bu {T : zTT} {n : Nat → Nat} {b k to : Nat} (hb : b ≤ 100000) (hk : k < n 5) (ht : to = 2 ∨ to = 3) (h3 : (T.2 5 k).2.1 5 = 0) (h : REX T n b) : REX (buT T k to 4) n (b + 48) := by
  show RX (upd (T.1 63).1 to ((T.1 63).1 to + (T.2 5 k).2.1 0)) (T.1 52).2.1 ((vup T.2 5 k ((T.2 5 k).1, upd ((T.2 5 k).2.1) 5 2, (T.2 5 k).2.2)) 5) (n 5) (b + 48)
  rw [vup_5]
  have hs : RX (T.1 63).1 (T.1 52).2.1 (set5 (T.2 5) k ((T.2 5 k).1, upd ((T.2 5 k).2.1) 5 2, (T.2 5 k).2.2)) (n 5) b := RX.st h (v2_ne (by decide)) (by rw [v2_eq, h3]; decide)
  have hi := h.2.2.2.1 k hk
  rcases ht with rfl | rfl
  · exact RX.pl2 hb hs hi
  · exact RX.pl3 hb hs hi
theorem RXM_breakUp {T : zTT} {n : Nat → Nat} {b : Nat} (hb : b ≤ 100000) (x : Int32) (h : REX T n b) : REX (tK_Mm_breakUp x T n) n (b + 48) := by
  unfold tK_Mm_breakUp
  by_cases hx : x.toNatClampNeg < n 5 ∧ x = nI x.toNatClampNeg
  · rw [if_pos hx]
    by_cases h3 : (T.2 5 x.toNatClampNeg).2.1 5 = 0
    · rw [if_pos h3]
      by_cases h4 : (T.2 5 x.toNatClampNeg).2.1 4 = 1
      · rw [if_pos h4]
        exact RXM_bu hb hx.1 (Or.inr rfl) h3 h
      · rw [if_neg h4]
        exact RXM_bu hb hx.1 (Or.inl rfl) h3 h
    · rw [if_neg h3]; exact h.up (by omega)
  · rw [if_neg hx]; exact h.up (by omega)
theorem ptk_b {T : zTT} (hg : ¬ fa_cnt (fun k => decide ((T.2 3 0).2.1 k = 103)) 12 = 0) (h0 : 0 ≤ ((T.1 63).1 1).toInt) (h1 : ¬ (T.1 63).1 1 = 0) : 1 ≤ (ptk T).toInt ∧ (ptk T).toInt ≤ ((T.1 63).1 1).toInt := by
  have hc := cnt_pos hg
  have hl := fa_cnt_le (fun k => tmB ((T.2 3 0).2.1 k)) 108
  have h9 : ¬ ((T.1 63).1 1).toInt = 0 := fun q => h1 (Int32.toInt_inj.mp (by rw [show (0 : Int32).toInt = 0 from rfl]; exact q))
  have e : (nI (2 * fa_cnt (fun k => tmB ((T.2 3 0).2.1 k)) 108)).toInt = ((2 * fa_cnt (fun k => tmB ((T.2 3 0).2.1 k)) 108 : Nat) : Int) := nI_toInt (by omega)
  unfold ptk
  by_cases q : (T.1 63).1 1 < nI (2 * fa_cnt (fun k => tmB ((T.2 3 0).2.1 k)) 108)
  · rw [if_pos q]
    omega
  · rw [if_neg q]
    rw [Int32.lt_iff_toInt_lt] at q
    omega
theorem RXM_pour {T : zTT} {n : Nat → Nat} {b : Nat} {S9 : zSC} (hx : ¬ n 3 = 0 → ¬ fa_cnt (fun k => decide ((T.2 3 0).2.1 k = 103)) 12 = 0) (h0 : 0 ≤ ((T.1 63).1 1).toInt) (h : REX T n b) : REX (tK_Mm_pour S9 T n) (nK_Mm_pour T n) b := by
  unfold tK_Mm_pour nK_Mm_pour
  by_cases g0 : ¬ n 3 = 0
  · by_cases g1 : ¬ (T.1 63).1 1 = 0 ∧ 1250 ≤ (T.1 52).1 6
    · by_cases g2 : ¬ n 5 = 30
      · rw [if_pos g0, if_pos g1, if_pos g2, if_pos g0, if_pos g1, if_pos g2]
        show RX (upd (T.1 63).1 1 ((T.1 63).1 1 - ptk T)) (vp_updL (T.1 52).2.1 0 ((T.1 52).2.1 0 + (ptk T).toInt64)) (z_apV (T.2 5) (n 5) (pcv9 T (pShS T S9) (pFbS T S9))) (n 5 + 1) b
        exact RX.po h (ptk_b (hx g0) h0 g1.1) (pcv_0 _ _ _) (pcv_5 _ _ _)
      · rw [if_pos g0, if_pos g1, if_neg g2, if_pos g0, if_pos g1, if_neg g2]
        exact h
    · rw [if_pos g0, if_neg g1, if_pos g0, if_neg g1]
      exact h
  · rw [if_neg g0, if_neg g0]
    exact h
theorem RY_draw {t : zTT} {n n1 n2 : Nat → Nat} {b : Nat} (hb : b ≤ 100000) (k x y p q : Int32) (h : REY t n b) (e1 : n1 = n) (e2 : n2 = n1) : REY (tK_Mm_draw k x y p q (tK_Ip_draw k x y p q t)) n2 (b + 48) := ⟨(R_draw k x y p q h.1 e1 e2).up (by omega), ((h.2.c (n1 := n1) (NEC_draw k x y p q) (by rw [e1])).m (n1 := n2) (NEM_draw k x y p q) (by rw [e2])).up (by omega)⟩
theorem RY_part {t : zTT} {n n1 n2 : Nat → Nat} {b : Nat} (hb : b ≤ 100000) (r : Int32) (h : REY t n b) (e1 : n1 = n) (e2 : n2 = n1) : REY (tK_Mm_part r (tK_Ip_part r t)) n2 (b + 48) := ⟨(R_part r h.1 e1 e2).up (by omega), ((h.2.c (n1 := n1) (NEC_part r) (by rw [e1])).m (n1 := n2) (NEM_part r) (by rw [e2])).up (by omega)⟩
theorem RY_mill {t : zTT} {n n1 n2 : Nat → Nat} {b : Nat} (hb : b ≤ 100000) (m1 m2 m3 m4 : Int32) (h : REY t n b) (e1 : n1 = n) (e2 : n2 = n1) : REY (tK_Mm_mill m1 m2 m3 m4 (tK_Ip_mill m1 m2 m3 m4 t)) n2 (b + 48) := ⟨(R_mill m1 m2 m3 m4 h.1 e1 e2).up (by omega), ((h.2.c (n1 := n1) (NEC_mill m1 m2 m3 m4) (by rw [e1])).m (n1 := n2) (NEM_mill m1 m2 m3 m4) (by rw [e2])).up (by omega)⟩
theorem RY_makeCores {t : zTT} {n n1 n2 : Nat → Nat} {b : Nat} (hb : b ≤ 100000) (c k : Int32) (h : REY t n b) (e1 : n1 = n) (e2 : n2 = nK_Mm_makeCores c k (tK_Ip_makeCores c k t) n1) : REY (tK_Mm_makeCores c k (tK_Ip_makeCores c k t) n1) n2 (b + 48) := ⟨(R_makeCores hb c k h.1 e1 e2).up (by omega), ((h.2.c (n1 := n1) (NEC_makeCores c k) (by rw [e1])).m (n1 := n2) (NEM_makeCores (n := n1) c k) (by rw [e2]; exact n5_Mm_makeCores _ _)).up (by omega)⟩
theorem RY_hours {t : zTT} {n n1 n2 : Nat → Nat} {b : Nat} (hb : b ≤ 100000) (x : Int32) (h : REY t n b) (e1 : n1 = n) (e2 : n2 = nK_Mm_hours x (tK_Ip_hours x t) n1) : REY (tK_Mm_hours x (tK_Ip_hours x t) n1) n2 (b + 48) := ⟨(R_hours hb x h.1 e1 e2), ((h.2.c (n1 := n1) (NEC_hours x) (by rw [e1])).m (n1 := n2) (NEM_hours (n := n1) x) (by rw [e2]; exact n5_Mm_hours _)).up (by omega)⟩
theorem RY_charge {t : zTT} {n n1 n2 : Nat → Nat} {b : Nat} (hb : b ≤ 100000) (k m : Int32) (h : REY t n b) (e1 : n1 = n) (e2 : n2 = n1) : REY (tK_Mm_charge k m (tK_Ip_charge k m t)) n2 (b + 48) := by
  have hR : REL (tK_Mm_charge k m (tK_Ip_charge k m t)) n2 (b + 48) := (R_charge k m h.1 e1 e2).up (by omega)
  have hX : REX (tK_Mm_charge k m (tK_Ip_charge k m t)) n1 (b + 48) := (RXM_charge k m (h.2.c (n1 := n1) (NEC_charge k m) (by rw [e1]))).up (by omega)
  exact ⟨hR, by rw [e2]; exact hX⟩
theorem RY_hold {t : zTT} {n n1 n2 : Nat → Nat} {b : Nat} (hb : b ≤ 100000) (x : Int32) (h : REY t n b) (e1 : n1 = n) (e2 : n2 = n1) : REY (tK_Mm_hold x (tK_Ip_hold x t)) n2 (b + 48) := ⟨(R_hold x h.1 e1 e2).up (by omega), ((h.2.c (n1 := n1) (NEC_hold x) (by rw [e1])).m (n1 := n2) (NEM_hold x) (by rw [e2])).up (by omega)⟩
theorem RY_tap {t : zTT} {n n1 n2 : Nat → Nat} {b : Nat} (hb : b ≤ 100000) (m : Int32) (h : REY t n b) (e1 : n1 = n) (e2 : n2 = n1) : REY (tK_Mm_tap m (tK_Ip_tap m t)) n2 (b + 48) := by
  have hR : REL (tK_Mm_tap m (tK_Ip_tap m t)) n2 (b + 48) := (R_tap m h.1 e1 e2).up (by omega)
  have hX : REX (tK_Mm_tap m (tK_Ip_tap m t)) n1 (b + 48) := (RXM_tap m (by rw [(NEC_tap m).2.1]; exact h.1.la.1) (h.2.c (n1 := n1) (NEC_tap m) (by rw [e1]))).up (by omega)
  exact ⟨hR, by rw [e2]; exact hX⟩
theorem RY_treat {t : zTT} {n n1 n2 : Nat → Nat} {b : Nat} (hb : b ≤ 100000) (m : Int32) (h : REY t n b) (e1 : n1 = n) (e2 : n2 = n1) : REY (tK_Mm_treat m (tK_Ip_treat m t)) n2 (b + 48) := ⟨(R_treat m h.1 e1 e2).up (by omega), ((h.2.c (n1 := n1) (NEC_treat m) (by rw [e1])).m (n1 := n2) (NEM_treat m) (by rw [e2])).up (by omega)⟩
theorem RY_pig {t : zTT} {n n1 n2 : Nat → Nat} {b : Nat} (hb : b ≤ 100000) (h : REY t n b) (e1 : n1 = n) (e2 : n2 = n1) : REY (tK_Mm_pig (tK_Ip_pig t)) n2 (b + 48) := by
  have hR : REL (tK_Mm_pig (tK_Ip_pig t)) n2 (b + 48) := (R_pig h.1 e1 e2).up (by omega)
  have hX : REX (tK_Mm_pig (tK_Ip_pig t)) n1 (b + 48) := RXM_pig hb (by rw [(NEC_pig).2.1]; exact h.1.la.1) (h.2.c (n1 := n1) (NEC_pig) (by rw [e1]))
  exact ⟨hR, by rw [e2]; exact hX⟩
theorem RY_leastCost {t : zTT} {n n1 n2 : Nat → Nat} {b : Nat} (hb : b ≤ 100000) (x1 x2 x3 x4 x5 x6 : Int32) (h : REY t n b) (e1 : n1 = n) (e2 : n2 = n1) : REY (tK_Mm_leastCost x1 x2 x3 x4 x5 x6 (tK_Ip_leastCost x1 x2 x3 x4 x5 x6 t)) n2 (b + 48) := ⟨(R_leastCost x1 x2 x3 x4 x5 x6 h.1 e1 e2).up (by omega), ((h.2.c (n1 := n1) (NEC_leastCost x1 x2 x3 x4 x5 x6) (by rw [e1])).m (n1 := n2) (NEM_leastCost x1 x2 x3 x4 x5 x6) (by rw [e2])).up (by omega)⟩
theorem RY_minutes {t : zTT} {n n1 n2 : Nat → Nat} {b : Nat} (hb : b ≤ 100000) (x : Int32) (h : REY t n b) (e1 : n1 = n) (e2 : n2 = n1) : REY (tK_Mm_minutes x (tK_Ip_minutes x t n) n1) n2 (b + 48) := ⟨(R_minutes x h.1 e1 e2).up (by omega), ((h.2.c (n1 := n1) (NEC_minutes (n := n) x) (by rw [e1])).m (n1 := n2) (NEM_minutes (n := n1) x) (by rw [e2])).up (by omega)⟩
theorem RY_mould {t : zTT} {n n1 n2 : Nat → Nat} {b : Nat} (hb : b ≤ 100000) (h : REY t n b) (e1 : n1 = nK_Ip_mould t n) (e2 : n2 = nK_Mm_mould (tK_Ip_mould t n) n1) : REY (tK_Mm_mould (tK_Ip_mould t n) n1) n2 (b + 48) := ⟨(R_mould hb h.1 e1 e2).up (by omega), ((h.2.c (n1 := n1) (NEC_mould (n := n)) (by rw [e1]; exact n5_Ip_mould)).m (n1 := n2) (NEM_mould (n := n1)) (by rw [e2]; exact n5_Mm_mould)).up (by omega)⟩
theorem n5x_pour3 {t : zTT} {n : Nat → Nat} {X9 : zTr} : nK_Ip_pour t n 3 = n 3 ∧ (tK_Ip_pour X9 t n).2 3 = t.2 3 := by
  constructor
  · unfold nK_Ip_pour
    repeat' split
    all_goals rfl
  · unfold tK_Ip_pour
    repeat' split
    all_goals rfl
theorem RY_pour {t : zTT} {n n1 n2 : Nat → Nat} {b : Nat} {X9 : zTr} {S9 : zSC} (hx : ¬ n 3 = 0 → ¬ fa_cnt (fun k => decide ((t.2 3 0).2.1 k = 103)) 12 = 0 ∧ (t.2 4 0).2.2.2 0 < 9) (hb : b ≤ 100000) (h : REY t n b) (e1 : n1 = nK_Ip_pour t n) (e2 : n2 = nK_Mm_pour (tK_Ip_pour X9 t n) n1) : REY (tK_Mm_pour S9 (tK_Ip_pour X9 t n) n1) n2 (b + 48) := by
  have hR : REL (tK_Mm_pour S9 (tK_Ip_pour X9 t n) n1) n2 (b + 48) := (R_pour hx h.1 e1 e2).up (by omega)
  have hX : REX (tK_Mm_pour S9 (tK_Ip_pour X9 t n) n1) (nK_Mm_pour (tK_Ip_pour X9 t n) n1) (b + 48) := (RXM_pour (S9 := S9) (fun q => by have e3 := n5x_pour3 (X9 := X9) (t := t) (n := n); rw [e1] at q; rw [e3.1] at q; rw [(n5x_pour3 (X9 := X9) (t := t) (n := n)).2]; exact (hx q).1) (by rw [(NEC_pour (n := n)).2.1]; exact h.1.la.1) (h.2.c (n1 := n1) (NEC_pour (n := n)) (by rw [e1]; exact n5_Ip_pour))).up (by omega)
  exact ⟨hR, by rw [e2]; exact hX⟩
theorem RY_weld {t : zTT} {n n1 n2 : Nat → Nat} {b : Nat} (hb : b ≤ 100000) (x : Int32) (h : REY t n b) (e1 : n1 = n) (e2 : n2 = n1) : REY (tK_Mm_weld x (tK_Ip_weld x t n) n1) n2 (b + 48) := by
  have hR : REL (tK_Mm_weld x (tK_Ip_weld x t n) n1) n2 (b + 48) := (R_weld x h.1 e1 e2).up (by omega)
  have hX : REX (tK_Mm_weld x (tK_Ip_weld x t n) n1) n1 (b + 48) := (RXM_weld x (h.2.c (n1 := n1) (NEC_weld (n := n) x) (by rw [e1]))).up (by omega)
  exact ⟨hR, by rw [e2]; exact hX⟩
theorem RY_deliver {t : zTT} {n n1 n2 : Nat → Nat} {b : Nat} (hb : b ≤ 100000) (x : Int32) (h : REY t n b) (e1 : n1 = n) (e2 : n2 = n1) : REY (tK_Mm_deliver x (tK_Ip_deliver x t n) n1) n2 (b + 48) := by
  have hR : REL (tK_Mm_deliver x (tK_Ip_deliver x t n) n1) n2 (b + 48) := (R_deliver x h.1 e1 e2).up (by omega)
  have hX : REX (tK_Mm_deliver x (tK_Ip_deliver x t n) n1) n1 (b + 48) := (RXM_deliver x (h.2.c (n1 := n1) (NEC_deliver (n := n) x) (by rw [e1]))).up (by omega)
  exact ⟨hR, by rw [e2]; exact hX⟩
theorem RY_breakUp {t : zTT} {n n1 n2 : Nat → Nat} {b : Nat} (hb : b ≤ 100000) (x : Int32) (h : REY t n b) (e1 : n1 = n) (e2 : n2 = n1) : REY (tK_Mm_breakUp x (tK_Ip_breakUp x t n) n1) n2 (b + 48) := by
  have hR : REL (tK_Mm_breakUp x (tK_Ip_breakUp x t n) n1) n2 (b + 48) := (R_breakUp x h.1 e1 e2).up (by omega)
  have hX : REX (tK_Mm_breakUp x (tK_Ip_breakUp x t n) n1) n1 (b + 48) := RXM_breakUp hb x (h.2.c (n1 := n1) (NEC_breakUp (n := n) x) (by rw [e1]))
  exact ⟨hR, by rw [e2]; exact hX⟩
end
section
def TH (ad : Nat → Nat) (c : Int32) (w : zW) : Prop := ∃ fs : List Value, w (ad 52) = some (.inr (12, .int c :: fs))
def IVo (g : zG) (ad : Nat → Nat) (v : Int64) (t : zTT) (u : zNN) (w : zW) : Prop := ∃ s, (s 69).2.1 0 = v ∧ IV g ad (mg t s) u w
theorem IVo.of {g : zG} {ad : Nat → Nat} {v : Int64} {t T : zTT} {u : zNN} {w : zW} (h : IV g ad T u w) (h1 : ∀ i, ¬ tx i → T.1 i = t.1 i) (h2 : T.2 = t.2) (h3 : (T.1 69).2.1 0 = v) : IVo g ad v t u w := ⟨T.1, h3, by rw [mg_self t T h1 h2]; exact h⟩
theorem IVo.m {g : zG} {ad : Nat → Nat} {v : Int64} {t : zTT} {u : zNN} {w : zW} (h : IVo g ad v t u w) : IVm g ad t u w := by
  obtain ⟨s, -, h⟩ := h
  exact ⟨s, h⟩
theorem IVo.nil {g : zG} {ad : Nat → Nat} {v : Int64} {t : zTT} {u : zNN} {w w1 : zW} (h1 : z_I w w1 0 []) (hI : IVo g ad v t u w) : IVo g ad v t u w1 := (z_I.same (z_I.nil w) h1).symm ▸ hI
theorem IVo.zu {g : zG} {ad : Nat → Nat} {v : Int64} {t : zTT} {s : Nat → zP2} {V : Nat → Nat → zV} {l : List (Nat × zP2)} {u : zNN} {w : zW} (h : IV g ad (zup (mg t s).1 l, V) u w) (h3 : (zup (mg t s).1 l 69).2.1 0 = v) : IVo g ad v (zup t.1 l, V) u w := IVo.of h (fun i hi => zup_cg (P := fun i => ¬ tx i) (fun i hi => if_neg hi) l i hi) rfl h3
theorem IVo.tz {g : zG} {ad : Nat → Nat} {v : Int64} {t : zTT} {s : Nat → zP2} {l : List (Nat × zP2)} {u : zNN} {w : zW} (h : IV g ad (zup (mg t s).1 l, (mg t s).2) u w) (hl : ∀ i ∈ l.map Prod.fst, tx i) (h3 : (zup (mg t s).1 l 69).2.1 0 = v) : IVo g ad v t u w := IVo.of h (fun i hi => (zup_out (fun q => hi (hl i q))).trans (if_neg hi)) rfl h3
def zxA (Es : List String) (p : Int32 × Int32) (o : zO) : Prop := (p.1 = 0 ∧ o = .inl (some (.int p.2))) ∨ ∃ (k : Nat) (E : String), Es[k]? = some E ∧ p.1 = nI (k + 1) ∧ o = .inr E
theorem zxA.V {Es : List String} {p : Int32 × Int32} {v : Option Value} (h : zxA Es p (.inl v)) : ∃ x : Int32, v = some (.int x) ∧ p.1 = 0 ∧ p.2 = x := by
  rcases h with ⟨h1, h2⟩ | ⟨k, E, -, -, h2⟩
  · cases h2; exact ⟨_, rfl, h1, rfl⟩
  · cases h2
theorem zxA.X {Es : List String} {p : Int32 × Int32} {E : String} (h : zxA Es p (.inr E)) : ∃ k : Nat, Es[k]? = some E ∧ p.1 = nI (k + 1) := by
  rcases h with ⟨h1, h2⟩ | ⟨k, E2, h3, h4, h2⟩
  · cases h2
  · cases h2; exact ⟨k, h3, h4⟩
theorem le_z {x : Int32} (h : 0 ≤ x.toInt) : x ≤ 0 ↔ x = 0 := by
  constructor
  · intro q
    rw [Int32.le_iff_toInt_le, show (0 : Int32).toInt = 0 from rfl] at q
    exact Int32.toInt_inj.mp (by rw [show (0 : Int32).toInt = 0 from rfl]; omega)
  · intro q
    rw [q]
    decide
noncomputable def vK_Ip_poolHas (ad : Nat → Nat) (k0 k : Int32) (t : zTT) : Int32 × Int32 := (if k0 = 103 then (if z_ix 2 k < 0 then (1, 0) else (if (t.1 45).1 0 ≤ 0 then (2, 0) else (0, (poI ((t.1 46).2.1) ((t.1 45).1 0) ((z_ix 2 k).toNatClampNeg))))) else (if k0 = 100 then (if z_ix 2 k < 0 then (1, 0) else (if (t.1 47).1 0 ≤ 0 then (2, 0) else (0, (poI ((t.1 48).2.1) ((t.1 47).1 0) ((z_ix 2 k).toNatClampNeg))))) else (1, 0)))
theorem KE_Ip_poolHas {g : zG} {ad : Nat → Nat} {t : zTT} {u : zNN} {w : zW} (hI : IVm g ad t u w) (k0 k : Int32) : zMB g M_Ip_poolHas [.ref (ad 0), .int k0, .int k] w (fun o w1 => zxA ["java/lang/IllegalArgumentException", "java/util/NoSuchElementException"] (vK_Ip_poolHas ad k0 k t) o ∧ ∃ u2 : zNN, u2.1 = u.1 ∧ IVm g ad t u2 w1) 10 300 := by
  obtain ⟨s, hI⟩ := hI
  by_cases h1 : k0 = 103
  · subst h1
    by_cases hk : z_ix 2 k < 0
    · have eV : (vK_Ip_poolHas ad 103 k t) = (1, 0) := by unfold vK_Ip_poolHas; rw [if_pos (rfl : (103 : Int32) = 103), if_pos hk]
      rw [eV]
      exact (Qx_Ip_poolHas103E hI k hk).mono (by decide) (by decide) (fun o w1 h => ⟨Or.inr ⟨0, _, rfl, rfl, h.1⟩, u, rfl, ⟨_, h.2⟩⟩)
    · obtain ⟨e9, he9, h2⟩ := z_ix2 hk
      by_cases hi : (t.1 45).1 0 ≤ 0
      · have eV : (vK_Ip_poolHas ad 103 k t) = (2, 0) := by unfold vK_Ip_poolHas; rw [if_pos (rfl : (103 : Int32) = 103), if_neg hk, if_pos hi]
        rw [eV]
        exact (Qx_Ip_poolHas103F hI k e9 he9 h2 hi).mono (by decide) (by decide) (fun o w1 h => ⟨Or.inr ⟨1, _, rfl, rfl, h.1⟩, u, rfl, ⟨_, h.2⟩⟩)
      · have eV : (vK_Ip_poolHas ad 103 k t) = (0, (poI ((t.1 46).2.1) ((t.1 45).1 0) e9)) := by unfold vK_Ip_poolHas; rw [if_pos (rfl : (103 : Int32) = 103), if_neg hk, if_neg hi, h2, nI_clamp (by omega)]
        rw [eV]
        exact (Qx_Ip_poolHas103N hI k e9 he9 h2 hi).mono (by decide) (by decide) (fun o w1 h => ⟨Or.inl ⟨rfl, h.1⟩, u, rfl, ⟨_, h.2⟩⟩)
  · by_cases h2 : k0 = 100
    · subst h2
      by_cases hk : z_ix 2 k < 0
      · have eV : (vK_Ip_poolHas ad 100 k t) = (1, 0) := by unfold vK_Ip_poolHas; rw [if_neg h1, if_pos (rfl : (100 : Int32) = 100), if_pos hk]
        rw [eV]
        exact (Qx_Ip_poolHas100E hI k hk).mono (by decide) (by decide) (fun o w1 h => ⟨Or.inr ⟨0, _, rfl, rfl, h.1⟩, u, rfl, ⟨_, h.2⟩⟩)
      · obtain ⟨e9, he9, h2⟩ := z_ix2 hk
        by_cases hi : (t.1 47).1 0 ≤ 0
        · have eV : (vK_Ip_poolHas ad 100 k t) = (2, 0) := by unfold vK_Ip_poolHas; rw [if_neg h1, if_pos (rfl : (100 : Int32) = 100), if_neg hk, if_pos hi]
          rw [eV]
          exact (Qx_Ip_poolHas100F hI k e9 he9 h2 hi).mono (by decide) (by decide) (fun o w1 h => ⟨Or.inr ⟨1, _, rfl, rfl, h.1⟩, u, rfl, ⟨_, h.2⟩⟩)
        · have eV : (vK_Ip_poolHas ad 100 k t) = (0, (poI ((t.1 48).2.1) ((t.1 47).1 0) e9)) := by unfold vK_Ip_poolHas; rw [if_neg h1, if_pos (rfl : (100 : Int32) = 100), if_neg hk, if_neg hi, h2, nI_clamp (by omega)]
          rw [eV]
          exact (Qx_Ip_poolHas100N hI k e9 he9 h2 hi).mono (by decide) (by decide) (fun o w1 h => ⟨Or.inl ⟨rfl, h.1⟩, u, rfl, ⟨_, h.2⟩⟩)
    · have eV : (vK_Ip_poolHas ad k0 k t) = (1, 0) := by unfold vK_Ip_poolHas; rw [if_neg h1, if_neg h2]
      rw [eV]
      exact (Qx_Ip_poolHasE hI k0 k h1 h2).mono (by decide) (by decide) (fun o w1 h => ⟨Or.inr ⟨0, _, rfl, rfl, h.1⟩, u, rfl, ⟨_, h.2⟩⟩)
set_option maxHeartbeats 4000000 in
theorem Qt_Mm_poolHas103E {g : zG} {ad : Nat → Nat} {t : zTT} {u : zNN} {w : zW} (hI : IV g ad t u w) (k : Int32) (hk : z_ix 2 k < 0) : zMB g M_Mm_poolHas [.ref (ad 52), .int 103, .int k] w (fun o w1 => o = .inl (some (.int 0)) ∧ IV g ad t u w1 ∧ TH ad 1 w1) 0 0 := by
  obtain ⟨e_m, w_m, k_m⟩ := hI.1.2 52 (by decide)
  obtain ⟨v_m_th, rfl⟩ := kd_52.mp k_m
  refine ((C_Mm_poolHas103E g (ad 52) (ad 53) (ad 54) (ad 55) (ad 56) (ad 57) (ad 58) (ad 59) (ad 60) (ad 61) (ad 62) (ad 63) (ad 64) (ad 65) (ad 66) (ad 67) (ad 68) v_m_th (nI ((t.1 52).2.2 0)) ((t.1 52).1 0) ((t.1 52).1 1) ((t.1 52).1 2) ((t.1 52).1 3) ((t.1 52).1 4) ((t.1 52).1 5) ((t.1 52).1 6) ((t.1 52).1 7) ((t.1 52).1 8) ((t.1 52).1 9) ((t.1 52).1 10) ((t.1 52).2.1 0) ((t.1 52).2.1 1) k hk).at (hI.1.I [52] _ rfl (by decide) (by decide) (List.forall_mem_cons.mpr ⟨w_m, (fun _ h => nomatch h)⟩))).mono (Nat.le_of_ble_eq_true rfl) (Nat.le_of_ble_eq_true rfl) (fun o w1 hp => ?_)
  obtain ⟨cs1, hp, hi9⟩ := hp
  obtain ⟨e1, e2⟩ := hp
  subst e1; subst e2
  exact ⟨rfl, hI.fix (t2 := t) (is := [52]) hi9 rfl ⟨kd_52.mpr ⟨_, rfl⟩, trivial⟩ (by decide) (by decide) (fun _ _ _ => rfl) (fun h => h) rfl, ⟨_, hi9.at (q0 := 0) rfl⟩⟩
set_option maxHeartbeats 4000000 in
theorem Qt_Mm_poolHas103F {g : zG} {ad : Nat → Nat} {t : zTT} {u : zNN} {w : zW} (hI : IV g ad t u w) (k : Int32) (hk : ¬ z_ix 2 k < 0) (h0 : ((t.1 63).1) 2 = 0) : zMB g M_Mm_poolHas [.ref (ad 52), .int 103, .int k] w (fun o w1 => o = .inl (some (.int 0)) ∧ IV g ad t u w1 ∧ TH ad 2 w1) 0 0 := by
  obtain ⟨e_m, w_m, k_m⟩ := hI.1.2 52 (by decide)
  obtain ⟨v_m_th, rfl⟩ := kd_52.mp k_m
  obtain ⟨e_mi, w_mi, k_mi⟩ := hI.1.2 63 (by decide)
  obtain rfl := kd_63.mp k_mi
  refine ((C_Mm_poolHas103F g (ad 52) (ad 53) (ad 54) (ad 55) (ad 56) (ad 57) (ad 58) (ad 59) (ad 60) (ad 61) (ad 62) (ad 63) (ad 64) (ad 65) (ad 66) (ad 67) (ad 68) v_m_th (nI ((t.1 52).2.2 0)) ((t.1 52).1 0) ((t.1 52).1 1) ((t.1 52).1 2) ((t.1 52).1 3) ((t.1 52).1 4) ((t.1 52).1 5) ((t.1 52).1 6) ((t.1 52).1 7) ((t.1 52).1 8) ((t.1 52).1 9) ((t.1 52).1 10) ((t.1 52).2.1 0) ((t.1 52).2.1 1) ((t.1 63).1) k hk h0).at (hI.1.I [52, 63] _ rfl (by decide) (by decide) (List.forall_mem_cons.mpr ⟨w_m, (List.forall_mem_cons.mpr ⟨w_mi, (fun _ h => nomatch h)⟩)⟩))).mono (Nat.le_of_ble_eq_true rfl) (Nat.le_of_ble_eq_true rfl) (fun o w1 hp => ?_)
  obtain ⟨cs1, hp, hi9⟩ := hp
  obtain ⟨e1, e2⟩ := hp
  subst e1; subst e2
  exact ⟨rfl, hI.fix (t2 := t) (is := [52, 63]) hi9 rfl ⟨kd_52.mpr ⟨_, rfl⟩, kd_63.mpr rfl, trivial⟩ (by decide) (by decide) (fun _ _ _ => rfl) (fun h => h) rfl, ⟨_, hi9.at (q0 := 0) rfl⟩⟩
set_option maxHeartbeats 4000000 in
theorem Qt_Mm_poolHas103N9 {g : zG} {ad : Nat → Nat} {t : zTT} {u : zNN} {w : zW} (hI : IV g ad t u w) (k : Int32) (e : Nat) (he : e < 4) (hk : z_ix 2 k = nI e) (h0 : ¬ ((t.1 63).1) 2 = 0) : zMB g M_Mm_poolHas [.ref (ad 52), .int 103, .int k] w (fun o w1 => o = .inl (some (.int (pcR ((t.1 64).2.1) ((t.1 63).1) 2 e))) ∧ IV g ad t u w1 ∧ TH ad 0 w1) 0 0 := by
  obtain ⟨e_m, w_m, k_m⟩ := hI.1.2 52 (by decide)
  obtain ⟨v_m_th, rfl⟩ := kd_52.mp k_m
  obtain ⟨e_mi, w_mi, k_mi⟩ := hI.1.2 63 (by decide)
  obtain rfl := kd_63.mp k_mi
  obtain ⟨e_mr, w_mr, k_mr⟩ := hI.1.2 64 (by decide)
  obtain rfl := kd_64.mp k_mr
  refine ((C_Mm_poolHas103N9 g (ad 52) (ad 53) (ad 54) (ad 55) (ad 56) (ad 57) (ad 58) (ad 59) (ad 60) (ad 61) (ad 62) (ad 63) (ad 64) (ad 65) (ad 66) (ad 67) (ad 68) v_m_th (nI ((t.1 52).2.2 0)) ((t.1 52).1 0) ((t.1 52).1 1) ((t.1 52).1 2) ((t.1 52).1 3) ((t.1 52).1 4) ((t.1 52).1 5) ((t.1 52).1 6) ((t.1 52).1 7) ((t.1 52).1 8) ((t.1 52).1 9) ((t.1 52).1 10) ((t.1 52).2.1 0) ((t.1 52).2.1 1) ((t.1 63).1) ((t.1 64).2.1) k e he hk h0).at (hI.1.I [52, 63, 64] _ rfl (by decide) (by decide) (List.forall_mem_cons.mpr ⟨w_m, (List.forall_mem_cons.mpr ⟨w_mi, (List.forall_mem_cons.mpr ⟨w_mr, (fun _ h => nomatch h)⟩)⟩)⟩))).mono (Nat.le_of_ble_eq_true rfl) (Nat.le_of_ble_eq_true rfl) (fun o w1 hp => ?_)
  obtain ⟨cs1, hp, hi9⟩ := hp
  obtain ⟨e1, e2⟩ := hp
  subst e1; subst e2
  exact ⟨rfl, hI.fix (t2 := t) (is := [52, 63, 64]) hi9 rfl ⟨kd_52.mpr ⟨_, rfl⟩, kd_63.mpr rfl, kd_64.mpr rfl, trivial⟩ (by decide) (by decide) (fun _ _ _ => rfl) (fun h => h) rfl, ⟨_, hi9.at (q0 := 0) rfl⟩⟩
set_option maxHeartbeats 4000000 in
theorem Qt_Mm_poolHas100E {g : zG} {ad : Nat → Nat} {t : zTT} {u : zNN} {w : zW} (hI : IV g ad t u w) (k : Int32) (hk : z_ix 2 k < 0) : zMB g M_Mm_poolHas [.ref (ad 52), .int 100, .int k] w (fun o w1 => o = .inl (some (.int 0)) ∧ IV g ad t u w1 ∧ TH ad 1 w1) 0 0 := by
  obtain ⟨e_m, w_m, k_m⟩ := hI.1.2 52 (by decide)
  obtain ⟨v_m_th, rfl⟩ := kd_52.mp k_m
  refine ((C_Mm_poolHas100E g (ad 52) (ad 53) (ad 54) (ad 55) (ad 56) (ad 57) (ad 58) (ad 59) (ad 60) (ad 61) (ad 62) (ad 63) (ad 64) (ad 65) (ad 66) (ad 67) (ad 68) v_m_th (nI ((t.1 52).2.2 0)) ((t.1 52).1 0) ((t.1 52).1 1) ((t.1 52).1 2) ((t.1 52).1 3) ((t.1 52).1 4) ((t.1 52).1 5) ((t.1 52).1 6) ((t.1 52).1 7) ((t.1 52).1 8) ((t.1 52).1 9) ((t.1 52).1 10) ((t.1 52).2.1 0) ((t.1 52).2.1 1) k hk).at (hI.1.I [52] _ rfl (by decide) (by decide) (List.forall_mem_cons.mpr ⟨w_m, (fun _ h => nomatch h)⟩))).mono (Nat.le_of_ble_eq_true rfl) (Nat.le_of_ble_eq_true rfl) (fun o w1 hp => ?_)
  obtain ⟨cs1, hp, hi9⟩ := hp
  obtain ⟨e1, e2⟩ := hp
  subst e1; subst e2
  exact ⟨rfl, hI.fix (t2 := t) (is := [52]) hi9 rfl ⟨kd_52.mpr ⟨_, rfl⟩, trivial⟩ (by decide) (by decide) (fun _ _ _ => rfl) (fun h => h) rfl, ⟨_, hi9.at (q0 := 0) rfl⟩⟩
set_option maxHeartbeats 4000000 in
theorem Qt_Mm_poolHas100F {g : zG} {ad : Nat → Nat} {t : zTT} {u : zNN} {w : zW} (hI : IV g ad t u w) (k : Int32) (hk : ¬ z_ix 2 k < 0) (h0 : ((t.1 63).1) 3 = 0) : zMB g M_Mm_poolHas [.ref (ad 52), .int 100, .int k] w (fun o w1 => o = .inl (some (.int 0)) ∧ IV g ad t u w1 ∧ TH ad 2 w1) 0 0 := by
  obtain ⟨e_m, w_m, k_m⟩ := hI.1.2 52 (by decide)
  obtain ⟨v_m_th, rfl⟩ := kd_52.mp k_m
  obtain ⟨e_mi, w_mi, k_mi⟩ := hI.1.2 63 (by decide)
  obtain rfl := kd_63.mp k_mi
  refine ((C_Mm_poolHas100F g (ad 52) (ad 53) (ad 54) (ad 55) (ad 56) (ad 57) (ad 58) (ad 59) (ad 60) (ad 61) (ad 62) (ad 63) (ad 64) (ad 65) (ad 66) (ad 67) (ad 68) v_m_th (nI ((t.1 52).2.2 0)) ((t.1 52).1 0) ((t.1 52).1 1) ((t.1 52).1 2) ((t.1 52).1 3) ((t.1 52).1 4) ((t.1 52).1 5) ((t.1 52).1 6) ((t.1 52).1 7) ((t.1 52).1 8) ((t.1 52).1 9) ((t.1 52).1 10) ((t.1 52).2.1 0) ((t.1 52).2.1 1) ((t.1 63).1) k hk h0).at (hI.1.I [52, 63] _ rfl (by decide) (by decide) (List.forall_mem_cons.mpr ⟨w_m, (List.forall_mem_cons.mpr ⟨w_mi, (fun _ h => nomatch h)⟩)⟩))).mono (Nat.le_of_ble_eq_true rfl) (Nat.le_of_ble_eq_true rfl) (fun o w1 hp => ?_)
  obtain ⟨cs1, hp, hi9⟩ := hp
  obtain ⟨e1, e2⟩ := hp
  subst e1; subst e2
  exact ⟨rfl, hI.fix (t2 := t) (is := [52, 63]) hi9 rfl ⟨kd_52.mpr ⟨_, rfl⟩, kd_63.mpr rfl, trivial⟩ (by decide) (by decide) (fun _ _ _ => rfl) (fun h => h) rfl, ⟨_, hi9.at (q0 := 0) rfl⟩⟩
set_option maxHeartbeats 4000000 in
theorem Qt_Mm_poolHas100N9 {g : zG} {ad : Nat → Nat} {t : zTT} {u : zNN} {w : zW} (hI : IV g ad t u w) (k : Int32) (e : Nat) (he : e < 4) (hk : z_ix 2 k = nI e) (h0 : ¬ ((t.1 63).1) 3 = 0) : zMB g M_Mm_poolHas [.ref (ad 52), .int 100, .int k] w (fun o w1 => o = .inl (some (.int (pcR ((t.1 64).2.1) ((t.1 63).1) 3 e))) ∧ IV g ad t u w1 ∧ TH ad 0 w1) 0 0 := by
  obtain ⟨e_m, w_m, k_m⟩ := hI.1.2 52 (by decide)
  obtain ⟨v_m_th, rfl⟩ := kd_52.mp k_m
  obtain ⟨e_mi, w_mi, k_mi⟩ := hI.1.2 63 (by decide)
  obtain rfl := kd_63.mp k_mi
  obtain ⟨e_mr, w_mr, k_mr⟩ := hI.1.2 64 (by decide)
  obtain rfl := kd_64.mp k_mr
  refine ((C_Mm_poolHas100N9 g (ad 52) (ad 53) (ad 54) (ad 55) (ad 56) (ad 57) (ad 58) (ad 59) (ad 60) (ad 61) (ad 62) (ad 63) (ad 64) (ad 65) (ad 66) (ad 67) (ad 68) v_m_th (nI ((t.1 52).2.2 0)) ((t.1 52).1 0) ((t.1 52).1 1) ((t.1 52).1 2) ((t.1 52).1 3) ((t.1 52).1 4) ((t.1 52).1 5) ((t.1 52).1 6) ((t.1 52).1 7) ((t.1 52).1 8) ((t.1 52).1 9) ((t.1 52).1 10) ((t.1 52).2.1 0) ((t.1 52).2.1 1) ((t.1 63).1) ((t.1 64).2.1) k e he hk h0).at (hI.1.I [52, 63, 64] _ rfl (by decide) (by decide) (List.forall_mem_cons.mpr ⟨w_m, (List.forall_mem_cons.mpr ⟨w_mi, (List.forall_mem_cons.mpr ⟨w_mr, (fun _ h => nomatch h)⟩)⟩)⟩))).mono (Nat.le_of_ble_eq_true rfl) (Nat.le_of_ble_eq_true rfl) (fun o w1 hp => ?_)
  obtain ⟨cs1, hp, hi9⟩ := hp
  obtain ⟨e1, e2⟩ := hp
  subst e1; subst e2
  exact ⟨rfl, hI.fix (t2 := t) (is := [52, 63, 64]) hi9 rfl ⟨kd_52.mpr ⟨_, rfl⟩, kd_63.mpr rfl, kd_64.mpr rfl, trivial⟩ (by decide) (by decide) (fun _ _ _ => rfl) (fun h => h) rfl, ⟨_, hi9.at (q0 := 0) rfl⟩⟩
set_option maxHeartbeats 4000000 in
theorem Qt_Mm_poolHasE {g : zG} {ad : Nat → Nat} {t : zTT} {u : zNN} {w : zW} (hI : IV g ad t u w) (k : Int32) (k2 : Int32) (h1 : ¬ k = 103) (h2 : ¬ k = 100) : zMB g M_Mm_poolHas [.ref (ad 52), .int k, .int k2] w (fun o w1 => o = .inl (some (.int 0)) ∧ IV g ad t u w1 ∧ TH ad 1 w1) 0 0 := by
  obtain ⟨e_m, w_m, k_m⟩ := hI.1.2 52 (by decide)
  obtain ⟨v_m_th, rfl⟩ := kd_52.mp k_m
  refine ((C_Mm_poolHasE g (ad 52) (ad 53) (ad 54) (ad 55) (ad 56) (ad 57) (ad 58) (ad 59) (ad 60) (ad 61) (ad 62) (ad 63) (ad 64) (ad 65) (ad 66) (ad 67) (ad 68) v_m_th (nI ((t.1 52).2.2 0)) ((t.1 52).1 0) ((t.1 52).1 1) ((t.1 52).1 2) ((t.1 52).1 3) ((t.1 52).1 4) ((t.1 52).1 5) ((t.1 52).1 6) ((t.1 52).1 7) ((t.1 52).1 8) ((t.1 52).1 9) ((t.1 52).1 10) ((t.1 52).2.1 0) ((t.1 52).2.1 1) k k2 h1 h2).at (hI.1.I [52] _ rfl (by decide) (by decide) (List.forall_mem_cons.mpr ⟨w_m, (fun _ h => nomatch h)⟩))).mono (Nat.le_of_ble_eq_true rfl) (Nat.le_of_ble_eq_true rfl) (fun o w1 hp => ?_)
  obtain ⟨cs1, hp, hi9⟩ := hp
  obtain ⟨e1, e2⟩ := hp
  subst e1; subst e2
  exact ⟨rfl, hI.fix (t2 := t) (is := [52]) hi9 rfl ⟨kd_52.mpr ⟨_, rfl⟩, trivial⟩ (by decide) (by decide) (fun _ _ _ => rfl) (fun h => h) rfl, ⟨_, hi9.at (q0 := 0) rfl⟩⟩
noncomputable def vK_Mm_poolHas (ad : Nat → Nat) (k0 k : Int32) (t : zTT) : Int32 × Int32 := (if k0 = 103 then (if z_ix 2 k < 0 then (1, 0) else (if (t.1 63).1 2 = 0 then (2, 0) else (0, (pcR ((t.1 64).2.1) ((t.1 63).1) 2 ((z_ix 2 k).toNatClampNeg))))) else (if k0 = 100 then (if z_ix 2 k < 0 then (1, 0) else (if (t.1 63).1 3 = 0 then (2, 0) else (0, (pcR ((t.1 64).2.1) ((t.1 63).1) 3 ((z_ix 2 k).toNatClampNeg))))) else (1, 0)))
theorem KE_Mm_poolHas {g : zG} {ad : Nat → Nat} {t : zTT} {u : zNN} {w : zW} {vo : Int64} (hI : IVo g ad vo t u w) (k0 k : Int32) : zMB g M_Mm_poolHas [.ref (ad 52), .int k0, .int k] w (fun o w1 => o = .inl (some (.int (vK_Mm_poolHas ad k0 k t).2)) ∧ TH ad (vK_Mm_poolHas ad k0 k t).1 w1 ∧ ∃ u2 : zNN, u2.1 = u.1 ∧ IVo g ad vo t u2 w1) 10 300 := by
  obtain ⟨s, hv, hI⟩ := hI
  by_cases h1 : k0 = 103
  · subst h1
    by_cases hk : z_ix 2 k < 0
    · have eV : (vK_Mm_poolHas ad 103 k t) = (1, 0) := by unfold vK_Mm_poolHas; rw [if_pos (rfl : (103 : Int32) = 103), if_pos hk]
      rw [eV]
      exact (Qt_Mm_poolHas103E hI k hk).mono (by decide) (by decide) (fun o w1 h => ⟨h.1, h.2.2, u, rfl, ⟨s, hv, h.2.1⟩⟩)
    · by_cases h0 : (t.1 63).1 2 = 0
      · have eV : (vK_Mm_poolHas ad 103 k t) = (2, 0) := by unfold vK_Mm_poolHas; rw [if_pos (rfl : (103 : Int32) = 103), if_neg hk, if_pos h0]
        rw [eV]
        exact (Qt_Mm_poolHas103F hI k hk h0).mono (by decide) (by decide) (fun o w1 h => ⟨h.1, h.2.2, u, rfl, ⟨s, hv, h.2.1⟩⟩)
      · obtain ⟨e9, he9, h2⟩ := z_ix2 hk
        have eV : (vK_Mm_poolHas ad 103 k t) = (0, (pcR ((t.1 64).2.1) ((t.1 63).1) 2 e9)) := by unfold vK_Mm_poolHas; rw [if_pos (rfl : (103 : Int32) = 103), if_neg hk, if_neg h0, h2, nI_clamp (by omega)]
        rw [eV]
        exact (Qt_Mm_poolHas103N9 hI k e9 he9 h2 h0).mono (by decide) (by decide) (fun o w1 h => ⟨h.1, h.2.2, u, rfl, ⟨s, hv, h.2.1⟩⟩)
  · by_cases h2 : k0 = 100
    · subst h2
      by_cases hk : z_ix 2 k < 0
      · have eV : (vK_Mm_poolHas ad 100 k t) = (1, 0) := by unfold vK_Mm_poolHas; rw [if_neg h1, if_pos (rfl : (100 : Int32) = 100), if_pos hk]
        rw [eV]
        exact (Qt_Mm_poolHas100E hI k hk).mono (by decide) (by decide) (fun o w1 h => ⟨h.1, h.2.2, u, rfl, ⟨s, hv, h.2.1⟩⟩)
      · by_cases h0 : (t.1 63).1 3 = 0
        · have eV : (vK_Mm_poolHas ad 100 k t) = (2, 0) := by unfold vK_Mm_poolHas; rw [if_neg h1, if_pos (rfl : (100 : Int32) = 100), if_neg hk, if_pos h0]
          rw [eV]
          exact (Qt_Mm_poolHas100F hI k hk h0).mono (by decide) (by decide) (fun o w1 h => ⟨h.1, h.2.2, u, rfl, ⟨s, hv, h.2.1⟩⟩)
        · obtain ⟨e9, he9, h2⟩ := z_ix2 hk
          have eV : (vK_Mm_poolHas ad 100 k t) = (0, (pcR ((t.1 64).2.1) ((t.1 63).1) 3 e9)) := by unfold vK_Mm_poolHas; rw [if_neg h1, if_pos (rfl : (100 : Int32) = 100), if_neg hk, if_neg h0, h2, nI_clamp (by omega)]
          rw [eV]
          exact (Qt_Mm_poolHas100N9 hI k e9 he9 h2 h0).mono (by decide) (by decide) (fun o w1 h => ⟨h.1, h.2.2, u, rfl, ⟨s, hv, h.2.1⟩⟩)
    · have eV : (vK_Mm_poolHas ad k0 k t) = (1, 0) := by unfold vK_Mm_poolHas; rw [if_neg h1, if_neg h2]
      rw [eV]
      exact (Qt_Mm_poolHasE hI k0 k h1 h2).mono (by decide) (by decide) (fun o w1 h => ⟨h.1, h.2.2, u, rfl, ⟨s, hv, h.2.1⟩⟩)
theorem V_poolHas {ad : Nat → Nat} {t : zTT} {n : Nat → Nat} {b : Nat} (k0 k : Int32) (h : REY t n b) : (vK_Ip_poolHas ad k0 k t).1 = (vK_Mm_poolHas ad k0 k t).1 ∧ ((vK_Ip_poolHas ad k0 k t).1 = 0 → (vK_Ip_poolHas ad k0 k t).2 = (vK_Mm_poolHas ad k0 k t).2) := by
  unfold vK_Ip_poolHas vK_Mm_poolHas
  by_cases h1 : k0 = 103
  · rw [if_pos h1, if_pos h1]
    by_cases hk : z_ix 2 k < 0
    · rw [if_pos hk, if_pos hk]
      exact ⟨rfl, fun _ => rfl⟩
    · rw [if_neg hk, if_neg hk]
      obtain ⟨e9, he9, h2⟩ := z_ix2 hk
      rw [h2, nI_clamp (by omega)]
      have e : (t.1 45).1 0 ≤ 0 ↔ (t.1 45).1 0 = 0 := le_z (by rw [h.1.ir.1.2.2.1]; exact h.2.2.1.1)
      unfold pcR
      rw [← h.1.ir.1.2.2.1, ← h.1.ir.2.2.2.1 e9 he9]
      by_cases hi : (t.1 45).1 0 = 0
      · rw [if_pos hi, if_pos (e.mpr hi)]
        exact ⟨rfl, fun _ => rfl⟩
      · rw [if_neg hi, if_neg (fun q => hi (e.mp q))]
        unfold poI
        rw [if_neg (fun q => hi (e.mp q))]
        exact ⟨rfl, fun _ => rfl⟩
  · rw [if_neg h1, if_neg h1]
    by_cases h9 : k0 = 100
    · rw [if_pos h9, if_pos h9]
      by_cases hk : z_ix 2 k < 0
      · rw [if_pos hk, if_pos hk]
        exact ⟨rfl, fun _ => rfl⟩
      · rw [if_neg hk, if_neg hk]
        obtain ⟨e9, he9, h2⟩ := z_ix2 hk
        rw [h2, nI_clamp (by omega)]
        have e : (t.1 47).1 0 ≤ 0 ↔ (t.1 47).1 0 = 0 := le_z (by rw [h.1.ir.1.2.2.2]; exact h.2.2.2.1.1)
        unfold pcR
        rw [← h.1.ir.1.2.2.2, ← h.1.ir.2.2.2.2 e9 he9]
        by_cases hi : (t.1 47).1 0 = 0
        · rw [if_pos hi, if_pos (e.mpr hi)]
          exact ⟨rfl, fun _ => rfl⟩
        · rw [if_neg hi, if_neg (fun q => hi (e.mp q))]
          unfold poI
          rw [if_neg (fun q => hi (e.mp q))]
          exact ⟨rfl, fun _ => rfl⟩
    · rw [if_neg h9, if_neg h9]
      exact ⟨rfl, fun _ => rfl⟩
end
