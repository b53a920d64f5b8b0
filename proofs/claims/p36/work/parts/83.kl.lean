def zX0 : zTr := ((fun _ => 0, fun _ => 0, 0, 0), (((fun _ => 0, fun _ => 0, fun _ => 0, 0), fun _ => 0), fun _ => 0, fun _ => 0), (fun _ => 0, fun _ => 0, fun _ => 0))
abbrev zSC : Type := (Nat → Int32) × (Nat → Int32) × (Nat → Int32) × (Nat → Int32) × (Nat → Int32) × (Nat → Int32) × (Nat → Nat)
def zS0 : zSC := (fun _ => 0, fun _ => 0, fun _ => 0, fun _ => 0, fun _ => 0, fun _ => 0, fun _ => 0)
def pShS (t : zTT) (S : zSC) : Int32 := pSh t S.1 S.2.1 S.2.2.1 S.2.2.2.1 S.2.2.2.2.1 S.2.2.2.2.2.1 S.2.2.2.2.2.2
def pFbS (t : zTT) (S : zSC) : Int32 := pFb t S.1 S.2.1 S.2.2.1 S.2.2.2.1 S.2.2.2.2.1 S.2.2.2.2.2.1 S.2.2.2.2.2.2
set_option maxHeartbeats 4000000 in
theorem Qx_Ip_mouldE {g : zG} {ad : Nat → Nat} {t : zTT} {u : zNN} {w : zW} (hI : IV g ad t u w) (hE : fa_cnt (fun k => decide (((t.1 2).1) k = 103)) 12 = 0 ∨ anB (fun k => decide (((t.1 2).1) k = 99)) 108 = false) : zMB g M_Ip_mould [.ref (ad 0)] w (fun o w1 => o = .inr "java/util/NoSuchElementException" ∧ IV g ad t u w1) 1 6 := by
  obtain ⟨e_a, w_a, k_a⟩ := hI.1.2 0 (by decide)
  obtain rfl := kd_0.mp k_a
  obtain ⟨e_pa, w_pa, k_pa⟩ := hI.1.2 1 (by decide)
  obtain rfl := kd_1.mp k_pa
  obtain ⟨e_pa1, w_pa1, k_pa1⟩ := hI.1.2 2 (by decide)
  obtain rfl := kd_2.mp k_pa1
  obtain ⟨e_pa2, w_pa2, k_pa2⟩ := hI.1.2 3 (by decide)
  obtain ⟨v_pa2_f, rfl⟩ := kd_3.mp k_pa2
  obtain ⟨e_pa3, w_pa3, k_pa3⟩ := hI.1.2 4 (by decide)
  obtain ⟨v_pa3_h, rfl⟩ := kd_4.mp k_pa3
  refine ((C_Ip_mouldE g (ad 0) (ad 1) (ad 5) (ad 18) (ad 31) (ad 32) (ad 36) (ad 42) (ad 45) (ad 47) (ad 49) (ad 50) (ad 51) (ad 2) (ad 3) (ad 4) ((t.1 2).1) v_pa2_f v_pa3_h ((t.1 1).2.2 0) hE).at (hI.1.I [0, 1, 2, 3, 4] _ rfl (by decide) (by decide) (List.forall_mem_cons.mpr ⟨w_a, (List.forall_mem_cons.mpr ⟨w_pa, (List.forall_mem_cons.mpr ⟨w_pa1, (List.forall_mem_cons.mpr ⟨w_pa2, (List.forall_mem_cons.mpr ⟨w_pa3, (fun _ h => nomatch h)⟩)⟩)⟩)⟩)⟩))).mono (Nat.le_of_ble_eq_true rfl) (Nat.le_of_ble_eq_true rfl) (fun o w1 hp => ?_)
  obtain ⟨cs1, hp, hi9⟩ := hp
  obtain ⟨e1, e2⟩ := hp
  subst e1; subst e2
  exact ⟨rfl, hI.fix (t2 := t) (is := [0, 1, 2, 3, 4]) hi9 rfl ⟨kd_0.mpr rfl, kd_1.mpr rfl, kd_2.mpr rfl, kd_3.mpr ⟨_, rfl⟩, kd_4.mpr ⟨_, rfl⟩, trivial⟩ (by decide) (by decide) (fun _ _ _ => rfl) (fun h => h) rfl⟩
theorem K_Ip_alloy {g : zG} {ad : Nat → Nat} {t : zTT} {u : zNN} {w : zW} (hI : IVm g ad t u w) (x : Int32) : zMB g M_Ip_alloy [.ref (ad 0), .int x] w (fun o w1 => CKx g ad t u.1 ["java/lang/IndexOutOfBoundsException"] o w1) 10 300 := by
  obtain ⟨s, hI⟩ := hI
  by_cases hx : x.toNatClampNeg < u.1 1 ∧ x = nI x.toNatClampNeg
  · obtain ⟨k, hk, rfl⟩ : ∃ k, k < u.1 1 ∧ x = nI k := ⟨_, hx⟩
    have h33 := hI.n5 1 (by decide)
    have ek : (nI k).toNatClampNeg = k := nI_clamp (by omega)
    exact (Q_Ip_alloyN hI k hk).mono (by decide) (by decide) (fun o w1 h => ⟨h.1.sub (by simp), u, rfl, ⟨_, h.2⟩⟩)
  · have hx9 : ¬ ∃ k, k < u.1 1 ∧ x = nI k := fun ⟨k, hk, e⟩ => hx (by have h33 := hI.n5 1 (by decide); subst e; rw [nI_clamp (by omega)]; exact ⟨hk, rfl⟩)
    exact (Q_Ip_alloyE hI x hx9).mono (by decide) (by decide) (fun o w1 h => ⟨h.1.sub (by simp), u, rfl, ⟨_, h.2⟩⟩)
theorem K_Ip_faults {g : zG} {ad : Nat → Nat} {t : zTT} {u : zNN} {w : zW} (hI : IVm g ad t u w) (x : Int32) : zMB g M_Ip_faults [.ref (ad 0), .int x] w (fun o w1 => CKx g ad t u.1 ["java/lang/IndexOutOfBoundsException"] o w1) 10 300 := by
  obtain ⟨s, hI⟩ := hI
  by_cases hx : x.toNatClampNeg < u.1 1 ∧ x = nI x.toNatClampNeg
  · obtain ⟨k, hk, rfl⟩ : ∃ k, k < u.1 1 ∧ x = nI k := ⟨_, hx⟩
    have h33 := hI.n5 1 (by decide)
    have ek : (nI k).toNatClampNeg = k := nI_clamp (by omega)
    exact (Q_Ip_faultsN hI k hk).mono (by decide) (by decide) (fun o w1 h => ⟨h.1.sub (by simp), u, rfl, ⟨_, h.2⟩⟩)
  · have hx9 : ¬ ∃ k, k < u.1 1 ∧ x = nI k := fun ⟨k, hk, e⟩ => hx (by have h33 := hI.n5 1 (by decide); subst e; rw [nI_clamp (by omega)]; exact ⟨hk, rfl⟩)
    exact (Q_Ip_faultsE hI x hx9).mono (by decide) (by decide) (fun o w1 h => ⟨h.1.sub (by simp), u, rfl, ⟨_, h.2⟩⟩)
theorem K_Ip_shrunkIn {g : zG} {ad : Nat → Nat} {t : zTT} {u : zNN} {w : zW} (hI : IVm g ad t u w) (x : Int32) : zMB g M_Ip_shrunkIn [.ref (ad 0), .int x] w (fun o w1 => CKx g ad t u.1 ["java/lang/IndexOutOfBoundsException"] o w1) 10 300 := by
  obtain ⟨s, hI⟩ := hI
  by_cases hx : x.toNatClampNeg < u.1 1 ∧ x = nI x.toNatClampNeg
  · obtain ⟨k, hk, rfl⟩ : ∃ k, k < u.1 1 ∧ x = nI k := ⟨_, hx⟩
    have h33 := hI.n5 1 (by decide)
    have ek : (nI k).toNatClampNeg = k := nI_clamp (by omega)
    exact (Q_Ip_shrunkInN hI k hk).mono (by decide) (by decide) (fun o w1 h => ⟨h.1.sub (by simp), u, rfl, ⟨_, h.2⟩⟩)
  · have hx9 : ¬ ∃ k, k < u.1 1 ∧ x = nI k := fun ⟨k, hk, e⟩ => hx (by have h33 := hI.n5 1 (by decide); subst e; rw [nI_clamp (by omega)]; exact ⟨hk, rfl⟩)
    exact (Q_Ip_shrunkInE hI x hx9).mono (by decide) (by decide) (fun o w1 h => ⟨h.1.sub (by simp), u, rfl, ⟨_, h.2⟩⟩)
theorem K_Ip_bar {g : zG} {ad : Nat → Nat} {t : zTT} {u : zNN} {w : zW} (hI : IVm g ad t u w) (x : Int32) : zMB g M_Ip_bar [.ref (ad 0), .int x] w (fun o w1 => CKx g ad t u.1 ["java/lang/IndexOutOfBoundsException"] o w1) 10 300 := by
  obtain ⟨s, hI⟩ := hI
  by_cases hx : x.toNatClampNeg < u.1 1 ∧ x = nI x.toNatClampNeg
  · obtain ⟨k, hk, rfl⟩ : ∃ k, k < u.1 1 ∧ x = nI k := ⟨_, hx⟩
    have h33 := hI.n5 1 (by decide)
    have ek : (nI k).toNatClampNeg = k := nI_clamp (by omega)
    exact (Q_Ip_barN hI k hk).mono (by decide) (by decide) (fun o w1 h => ⟨h.1.sub (by simp), u, rfl, ⟨_, h.2⟩⟩)
  · have hx9 : ¬ ∃ k, k < u.1 1 ∧ x = nI k := fun ⟨k, hk, e⟩ => hx (by have h33 := hI.n5 1 (by decide); subst e; rw [nI_clamp (by omega)]; exact ⟨hk, rfl⟩)
    exact (Q_Ip_barE hI x hx9).mono (by decide) (by decide) (fun o w1 h => ⟨h.1.sub (by simp), u, rfl, ⟨_, h.2⟩⟩)
theorem K_Ip_has {g : zG} {ad : Nat → Nat} {t : zTT} {u : zNN} {w : zW} (hI : IVm g ad t u w) (x c : Int32) : zMB g M_Ip_has [.ref (ad 0), .int x, .int c] w (fun o w1 => CKx g ad t u.1 ["java/lang/IndexOutOfBoundsException", "java/lang/IllegalArgumentException"] o w1) 10 300 := by
  obtain ⟨s, hI⟩ := hI
  by_cases hx : x.toNatClampNeg < u.1 1 ∧ x = nI x.toNatClampNeg
  · obtain ⟨k, hk, rfl⟩ : ∃ k, k < u.1 1 ∧ x = nI k := ⟨_, hx⟩
    have h33 := hI.n5 1 (by decide)
    have ek : (nI k).toNatClampNeg = k := nI_clamp (by omega)
    by_cases h2 : z_ix 2 c < 0
    · exact (Q_Ip_hasF hI k hk c h2).mono (by decide) (by decide) (fun o w1 h => ⟨h.1.sub (by simp), u, rfl, ⟨_, h.2⟩⟩)
    · obtain ⟨e9, he9, h3⟩ := z_ix2 h2
      exact (Q_Ip_hasN hI k hk c e9 he9 h3).mono (by decide) (by decide) (fun o w1 h => ⟨h.1.sub (by simp), u, rfl, ⟨_, h.2⟩⟩)
  · have hx9 : ¬ ∃ k, k < u.1 1 ∧ x = nI k := fun ⟨k, hk, e⟩ => hx (by have h33 := hI.n5 1 (by decide); subst e; rw [nI_clamp (by omega)]; exact ⟨hk, rfl⟩)
    exact (Q_Ip_hasE hI x hx9 c).mono (by decide) (by decide) (fun o w1 h => ⟨h.1.sub (by simp), u, rfl, ⟨_, h.2⟩⟩)
theorem K_Ip_castings {g : zG} {ad : Nat → Nat} {t : zTT} {u : zNN} {w : zW} (hI : IVm g ad t u w) : zMB g M_Ip_castings [.ref (ad 0)] w (fun o w1 => CKx g ad t u.1 [] o w1) 10 300 := by
  obtain ⟨s, hI⟩ := hI
  exact (Q_Ip_castings hI).mono (by decide) (by decide) (fun o w1 h => ⟨h.1.sub (by simp), u, rfl, ⟨_, h.2⟩⟩)
theorem K_Ip_worst {g : zG} {ad : Nat → Nat} {t : zTT} {u : zNN} {w : zW} (hI : IVm g ad t u w) : zMB g M_Ip_worst [.ref (ad 0)] w (fun o w1 => CKx g ad t u.1 ["java/util/NoSuchElementException"] o w1) 10 300 := by
  obtain ⟨s, hI⟩ := hI
  exact (Q_Ip_worst hI).mono (by decide) (by decide) (fun o w1 h => ⟨h.1.sub (by simp), u, rfl, ⟨_, h.2⟩⟩)
theorem K_Ip_isSound {g : zG} {ad : Nat → Nat} {t : zTT} {u : zNN} {w : zW} (hI : IVm g ad t u w) : zMB g M_Ip_isSound [.ref (ad 0)] w (fun o w1 => CKx g ad t u.1 [] o w1) 10 300 := by
  obtain ⟨s, hI⟩ := hI
  exact (Qx_Ip_isSound hI).mono (by decide) (by decide) (fun o w1 h => ⟨h.1.sub (by simp), u, rfl, IVm.mm h.2⟩)
theorem K_Ip_bestFeeder {g : zG} {ad : Nat → Nat} {t : zTT} {u : zNN} {w : zW} (hI : IVm g ad t u w) (h : Int32) : zMB g M_Ip_bestFeeder [.ref (ad 0), .int h] w (fun o w1 => CKx g ad t u.1 ["java/lang/IllegalArgumentException", "java/util/NoSuchElementException"] o w1) 10 300 := by
  obtain ⟨s, hI⟩ := hI
  by_cases hh : 1200 ≤ h ∧ h ≤ 1500
  · exact (Qx_Ip_bestFeederN hI h hh).mono (by decide) (by decide) (fun o w1 h => ⟨h.1.sub (by simp), u, rfl, IVm.mm h.2⟩)
  · exact (Q_Ip_bestFeederE hI h hh).mono (by decide) (by decide) (fun o w1 h => ⟨h.1.sub (by simp), u, rfl, ⟨_, h.2⟩⟩)
theorem K_Mm_alloy {g : zG} {ad : Nat → Nat} {t : zTT} {u : zNN} {w : zW} (hI : IVm g ad t u w) (x : Int32) : zMB g M_Mm_alloy [.ref (ad 52), .int x] w (fun o w1 => MKx g ad t u.1 o w1) 10 300 := by
  obtain ⟨s, hI⟩ := hI
  by_cases hx : x.toNatClampNeg < u.1 5 ∧ x = nI x.toNatClampNeg
  · obtain ⟨k, hk, rfl⟩ : ∃ k, k < u.1 5 ∧ x = nI k := ⟨_, hx⟩
    have h33 := hI.n5 5 (by decide)
    have ek : (nI k).toNatClampNeg = k := nI_clamp (by omega)
    exact (Q_Mm_alloyN hI k hk).mono (by decide) (by decide) (fun o w1 h => ⟨h.1, u, rfl, ⟨_, h.2⟩⟩)
  · have hx9 : ¬ ∃ k, k < u.1 5 ∧ x = nI k := fun ⟨k, hk, e⟩ => hx (by have h33 := hI.n5 5 (by decide); subst e; rw [nI_clamp (by omega)]; exact ⟨hk, rfl⟩)
    exact (Q_Mm_alloyE hI x hx9).mono (by decide) (by decide) (fun o w1 h => ⟨h.1, u, rfl, ⟨_, h.2⟩⟩)
theorem K_Mm_faults {g : zG} {ad : Nat → Nat} {t : zTT} {u : zNN} {w : zW} (hI : IVm g ad t u w) (x : Int32) : zMB g M_Mm_faults [.ref (ad 52), .int x] w (fun o w1 => MKx g ad t u.1 o w1) 10 300 := by
  obtain ⟨s, hI⟩ := hI
  by_cases hx : x.toNatClampNeg < u.1 5 ∧ x = nI x.toNatClampNeg
  · obtain ⟨k, hk, rfl⟩ : ∃ k, k < u.1 5 ∧ x = nI k := ⟨_, hx⟩
    have h33 := hI.n5 5 (by decide)
    have ek : (nI k).toNatClampNeg = k := nI_clamp (by omega)
    exact (Q_Mm_faultsN hI k hk).mono (by decide) (by decide) (fun o w1 h => ⟨h.1, u, rfl, ⟨_, h.2⟩⟩)
  · have hx9 : ¬ ∃ k, k < u.1 5 ∧ x = nI k := fun ⟨k, hk, e⟩ => hx (by have h33 := hI.n5 5 (by decide); subst e; rw [nI_clamp (by omega)]; exact ⟨hk, rfl⟩)
    exact (Q_Mm_faultsE hI x hx9).mono (by decide) (by decide) (fun o w1 h => ⟨h.1, u, rfl, ⟨_, h.2⟩⟩)
theorem K_Mm_shrunkIn {g : zG} {ad : Nat → Nat} {t : zTT} {u : zNN} {w : zW} (hI : IVm g ad t u w) (x : Int32) : zMB g M_Mm_shrunkIn [.ref (ad 52), .int x] w (fun o w1 => MKx g ad t u.1 o w1) 10 300 := by
  obtain ⟨s, hI⟩ := hI
  by_cases hx : x.toNatClampNeg < u.1 5 ∧ x = nI x.toNatClampNeg
  · obtain ⟨k, hk, rfl⟩ : ∃ k, k < u.1 5 ∧ x = nI k := ⟨_, hx⟩
    have h33 := hI.n5 5 (by decide)
    have ek : (nI k).toNatClampNeg = k := nI_clamp (by omega)
    exact (Q_Mm_shrunkInN hI k hk).mono (by decide) (by decide) (fun o w1 h => ⟨h.1, u, rfl, ⟨_, h.2⟩⟩)
  · have hx9 : ¬ ∃ k, k < u.1 5 ∧ x = nI k := fun ⟨k, hk, e⟩ => hx (by have h33 := hI.n5 5 (by decide); subst e; rw [nI_clamp (by omega)]; exact ⟨hk, rfl⟩)
    exact (Q_Mm_shrunkInE hI x hx9).mono (by decide) (by decide) (fun o w1 h => ⟨h.1, u, rfl, ⟨_, h.2⟩⟩)
theorem K_Mm_bar {g : zG} {ad : Nat → Nat} {t : zTT} {u : zNN} {w : zW} (hI : IVm g ad t u w) (x : Int32) : zMB g M_Mm_bar [.ref (ad 52), .int x] w (fun o w1 => MKx g ad t u.1 o w1) 10 300 := by
  obtain ⟨s, hI⟩ := hI
  by_cases hx : x.toNatClampNeg < u.1 5 ∧ x = nI x.toNatClampNeg
  · obtain ⟨k, hk, rfl⟩ : ∃ k, k < u.1 5 ∧ x = nI k := ⟨_, hx⟩
    have h33 := hI.n5 5 (by decide)
    have ek : (nI k).toNatClampNeg = k := nI_clamp (by omega)
    exact (Q_Mm_barN hI k hk).mono (by decide) (by decide) (fun o w1 h => ⟨h.1, u, rfl, ⟨_, h.2⟩⟩)
  · have hx9 : ¬ ∃ k, k < u.1 5 ∧ x = nI k := fun ⟨k, hk, e⟩ => hx (by have h33 := hI.n5 5 (by decide); subst e; rw [nI_clamp (by omega)]; exact ⟨hk, rfl⟩)
    exact (Q_Mm_barE hI x hx9).mono (by decide) (by decide) (fun o w1 h => ⟨h.1, u, rfl, ⟨_, h.2⟩⟩)
theorem K_Mm_has {g : zG} {ad : Nat → Nat} {t : zTT} {u : zNN} {w : zW} (hI : IVm g ad t u w) (x c : Int32) : zMB g M_Mm_has_1 [.ref (ad 52), .int x, .int c] w (fun o w1 => MKx g ad t u.1 o w1) 10 300 := by
  obtain ⟨s, hI⟩ := hI
  by_cases hx : x.toNatClampNeg < u.1 5 ∧ x = nI x.toNatClampNeg
  · obtain ⟨k, hk, rfl⟩ : ∃ k, k < u.1 5 ∧ x = nI k := ⟨_, hx⟩
    have h33 := hI.n5 5 (by decide)
    have ek : (nI k).toNatClampNeg = k := nI_clamp (by omega)
    exact (Q_Mm_hasN hI k hk c).mono (by decide) (by decide) (fun o w1 h => ⟨h.1, u, rfl, ⟨_, h.2⟩⟩)
  · have hx9 : ¬ ∃ k, k < u.1 5 ∧ x = nI k := fun ⟨k, hk, e⟩ => hx (by have h33 := hI.n5 5 (by decide); subst e; rw [nI_clamp (by omega)]; exact ⟨hk, rfl⟩)
    exact (Q_Mm_hasE hI x hx9 c).mono (by decide) (by decide) (fun o w1 h => ⟨h.1, u, rfl, ⟨_, h.2⟩⟩)
theorem K_Mm_castings {g : zG} {ad : Nat → Nat} {t : zTT} {u : zNN} {w : zW} (hI : IVm g ad t u w) : zMB g M_Mm_castings [.ref (ad 52)] w (fun o w1 => MKx g ad t u.1 o w1) 10 300 := by
  obtain ⟨s, hI⟩ := hI
  exact (Q_Mm_castings hI).mono (by decide) (by decide) (fun o w1 h => ⟨h.1, u, rfl, ⟨_, h.2⟩⟩)
theorem K_Mm_goodCores {g : zG} {ad : Nat → Nat} {t : zTT} {u : zNN} {w : zW} (hI : IVm g ad t u w) : zMB g M_Mm_goodCores [.ref (ad 52)] w (fun o w1 => MKx g ad t u.1 o w1) 10 300 := by
  obtain ⟨s, hI⟩ := hI
  exact (Q_Mm_goodCores hI).mono (by decide) (by decide) (fun o w1 h => ⟨h.1, u, rfl, ⟨_, h.2⟩⟩)
theorem K_Mm_worst {g : zG} {ad : Nat → Nat} {t : zTT} {u : zNN} {w : zW} (hI : IVm g ad t u w) : zMB g M_Mm_worst [.ref (ad 52)] w (fun o w1 => MKx g ad t u.1 o w1) 10 300 := by
  obtain ⟨s, hI⟩ := hI
  exact (Q_Mm_worst hI).mono (by decide) (by decide) (fun o w1 h => ⟨h.1, u, rfl, ⟨_, h.2⟩⟩)
noncomputable def tK_Ip_weld (x : Int32) (t : zTT) (n : Nat → Nat) : zTT := if x.toNatClampNeg < n 1 ∧ x = nI x.toNatClampNeg then (if (t.2 1 x.toNatClampNeg).1 0 < 20 ∧ (t.2 1 x.toNatClampNeg).1 2 &&& 32 = 0 then (if (t.2 1 x.toNatClampNeg).1 3 = 0 ∧ (t.2 1 x.toNatClampNeg).1 4 = 0 then (t.1, vup t.2 1 x.toNatClampNeg (upd ((t.2 1 x.toNatClampNeg).1) 2 ((t.2 1 x.toNatClampNeg).1 2 &&& (-5)), (t.2 1 x.toNatClampNeg).2)) else t) else t) else t
theorem K_Ip_weld {g : zG} {ad : Nat → Nat} {t : zTT} {u : zNN} {w : zW} (hI : IVm g ad t u w) (x : Int32) : zMB g M_Ip_weld [.ref (ad 0), .int x] w (fun o w1 => CKx g ad (tK_Ip_weld x t u.1) u.1 ["java/lang/IndexOutOfBoundsException", "java/lang/UnsupportedOperationException", "java/lang/IllegalStateException"] o w1) 10 300 := by
  obtain ⟨s, hI⟩ := hI
  by_cases hx : x.toNatClampNeg < u.1 1 ∧ x = nI x.toNatClampNeg
  · obtain ⟨k, hk, rfl⟩ : ∃ k, k < u.1 1 ∧ x = nI k := ⟨_, hx⟩
    have h33 := hI.n5 1 (by decide)
    have ek : (nI k).toNatClampNeg = k := nI_clamp (by omega)
    by_cases h12 : (t.2 1 k).1 0 < 20 ∧ (t.2 1 k).1 2 &&& 32 = 0
    · by_cases h34 : (t.2 1 k).1 3 = 0 ∧ (t.2 1 k).1 4 = 0
      · have eT : tK_Ip_weld (nI k) t u.1 = (t.1, vup t.2 1 k (upd ((t.2 1 k).1) 2 ((t.2 1 k).1 2 &&& (-5)), (t.2 1 k).2)) := by
          unfold tK_Ip_weld
          rw [if_pos hx, ek, if_pos h12, if_pos h34]
        rw [eT]
        exact (Qx_Ip_weldN hI k hk h12.1 h12.2 h34.1 h34.2).mono (by decide) (by decide) (fun o w1 h => ⟨zri.vl h.1, u, rfl, IVm.of h.2 (fun i hi => if_neg hi) rfl⟩)
      · have eT : tK_Ip_weld (nI k) t u.1 = t := by
          unfold tK_Ip_weld
          rw [if_pos hx, ek, if_pos h12, if_neg h34]
        rw [eT]
        exact (Qx_Ip_weldS hI k hk h12.1 h12.2 h34).mono (by decide) (by decide) (fun o w1 h => ⟨zri.th h.1 (by simp), u, rfl, ⟨_, h.2⟩⟩)
    · have eT : tK_Ip_weld (nI k) t u.1 = t := by
        unfold tK_Ip_weld
        rw [if_pos hx, ek, if_neg h12]
      rw [eT]
      exact (Qx_Ip_weldU hI k hk h12).mono (by decide) (by decide) (fun o w1 h => ⟨zri.th h.1 (by simp), u, rfl, ⟨_, h.2⟩⟩)
  · have hx9 : ¬ ∃ k, k < u.1 1 ∧ x = nI k := fun ⟨k, hk, e⟩ => hx (by have h33 := hI.n5 1 (by decide); subst e; rw [nI_clamp (by omega)]; exact ⟨hk, rfl⟩)
    have eT : tK_Ip_weld x t u.1 = t := by
      unfold tK_Ip_weld
      rw [if_neg hx]
    rw [eT]
    exact (Q_Ip_weldE hI x hx9).mono (by decide) (by decide) (fun o w1 h => ⟨h.1.sub (by simp), u, rfl, ⟨_, h.2⟩⟩)
noncomputable def tK_Ip_deliver (x : Int32) (t : zTT) (n : Nat → Nat) : zTT := if x.toNatClampNeg < n 1 ∧ x = nI x.toNatClampNeg then (if (t.2 1 x.toNatClampNeg).1 3 = 0 ∧ (t.2 1 x.toNatClampNeg).1 4 = 0 then (if (t.2 1 x.toNatClampNeg).1 2 = 0 then (t.1, vup t.2 1 x.toNatClampNeg (upd ((t.2 1 x.toNatClampNeg).1) 3 (1), (t.2 1 x.toNatClampNeg).2)) else (t.1, vup t.2 1 x.toNatClampNeg (upd ((t.2 1 x.toNatClampNeg).1) 3 (0), (t.2 1 x.toNatClampNeg).2))) else t) else t
theorem K_Ip_deliver {g : zG} {ad : Nat → Nat} {t : zTT} {u : zNN} {w : zW} (hI : IVm g ad t u w) (x : Int32) : zMB g M_Ip_deliver [.ref (ad 0), .int x] w (fun o w1 => CKx g ad (tK_Ip_deliver x t u.1) u.1 ["java/lang/IndexOutOfBoundsException", "java/lang/IllegalStateException"] o w1) 10 300 := by
  obtain ⟨s, hI⟩ := hI
  by_cases hx : x.toNatClampNeg < u.1 1 ∧ x = nI x.toNatClampNeg
  · obtain ⟨k, hk, rfl⟩ : ∃ k, k < u.1 1 ∧ x = nI k := ⟨_, hx⟩
    have h33 := hI.n5 1 (by decide)
    have ek : (nI k).toNatClampNeg = k := nI_clamp (by omega)
    by_cases h34 : (t.2 1 k).1 3 = 0 ∧ (t.2 1 k).1 4 = 0
    · by_cases h5 : (t.2 1 k).1 2 = 0
      · have eT : tK_Ip_deliver (nI k) t u.1 = (t.1, vup t.2 1 k (upd ((t.2 1 k).1) 3 (1), (t.2 1 k).2)) := by
          unfold tK_Ip_deliver
          rw [if_pos hx, ek, if_pos h34, if_pos h5]
        rw [eT]
        exact (Qx_Ip_deliverY hI k hk h34.1 h34.2 h5).mono (by decide) (by decide) (fun o w1 h => ⟨zri.vl h.1, u, rfl, IVm.of h.2 (fun i hi => if_neg hi) rfl⟩)
      · have eT : tK_Ip_deliver (nI k) t u.1 = (t.1, vup t.2 1 k (upd ((t.2 1 k).1) 3 (0), (t.2 1 k).2)) := by
          unfold tK_Ip_deliver
          rw [if_pos hx, ek, if_pos h34, if_neg h5]
        rw [eT]
        exact (Qx_Ip_deliverN hI k hk h34.1 h34.2 h5).mono (by decide) (by decide) (fun o w1 h => ⟨zri.vl h.1, u, rfl, IVm.of h.2 (fun i hi => if_neg hi) rfl⟩)
    · have eT : tK_Ip_deliver (nI k) t u.1 = t := by
        unfold tK_Ip_deliver
        rw [if_pos hx, ek, if_neg h34]
      rw [eT]
      exact (Qx_Ip_deliverS hI k hk h34).mono (by decide) (by decide) (fun o w1 h => ⟨zri.th h.1 (by simp), u, rfl, ⟨_, h.2⟩⟩)
  · have hx9 : ¬ ∃ k, k < u.1 1 ∧ x = nI k := fun ⟨k, hk, e⟩ => hx (by have h33 := hI.n5 1 (by decide); subst e; rw [nI_clamp (by omega)]; exact ⟨hk, rfl⟩)
    have eT : tK_Ip_deliver x t u.1 = t := by
      unfold tK_Ip_deliver
      rw [if_neg hx]
    rw [eT]
    exact (Q_Ip_deliverE hI x hx9).mono (by decide) (by decide) (fun o w1 h => ⟨h.1.sub (by simp), u, rfl, ⟨_, h.2⟩⟩)
noncomputable def tK_Ip_breakUp (x : Int32) (t : zTT) (n : Nat → Nat) : zTT := if x.toNatClampNeg < n 1 ∧ x = nI x.toNatClampNeg then (if (t.2 1 x.toNatClampNeg).1 3 = 0 ∧ (t.2 1 x.toNatClampNeg).1 4 = 0 then (if (t.2 1 x.toNatClampNeg).1 0 < 20 then (zup t.1 [(45, (upd ((t.1 45).1) 0 ((t.1 45).1 0 + (t.2 1 x.toNatClampNeg).1 5), (t.1 45).2.1, (t.1 45).2.2)), (46, ((t.1 46).1, lfd ((t.1 46).2.1) ((t.2 1 x.toNatClampNeg).2.2.1) 4, (t.1 46).2.2))], vup t.2 1 x.toNatClampNeg (upd ((t.2 1 x.toNatClampNeg).1) 4 (1), (t.2 1 x.toNatClampNeg).2)) else (zup t.1 [(47, (upd ((t.1 47).1) 0 ((t.1 47).1 0 + (t.2 1 x.toNatClampNeg).1 5), (t.1 47).2.1, (t.1 47).2.2)), (48, ((t.1 48).1, lfd ((t.1 48).2.1) ((t.2 1 x.toNatClampNeg).2.2.1) 4, (t.1 48).2.2))], vup t.2 1 x.toNatClampNeg (upd ((t.2 1 x.toNatClampNeg).1) 4 (1), (t.2 1 x.toNatClampNeg).2))) else t) else t
theorem K_Ip_breakUp {g : zG} {ad : Nat → Nat} {t : zTT} {u : zNN} {w : zW} (hI : IVm g ad t u w) (x : Int32) : zMB g M_Ip_breakUp [.ref (ad 0), .int x] w (fun o w1 => CKx g ad (tK_Ip_breakUp x t u.1) u.1 ["java/lang/IndexOutOfBoundsException", "java/lang/IllegalStateException"] o w1) 10 300 := by
  obtain ⟨s, hI⟩ := hI
  by_cases hx : x.toNatClampNeg < u.1 1 ∧ x = nI x.toNatClampNeg
  · obtain ⟨k, hk, rfl⟩ : ∃ k, k < u.1 1 ∧ x = nI k := ⟨_, hx⟩
    have h33 := hI.n5 1 (by decide)
    have ek : (nI k).toNatClampNeg = k := nI_clamp (by omega)
    by_cases h34 : (t.2 1 k).1 3 = 0 ∧ (t.2 1 k).1 4 = 0
    · by_cases h5 : (t.2 1 k).1 0 < 20
      · have eT : tK_Ip_breakUp (nI k) t u.1 = (zup t.1 [(45, (upd ((t.1 45).1) 0 ((t.1 45).1 0 + (t.2 1 k).1 5), (t.1 45).2.1, (t.1 45).2.2)), (46, ((t.1 46).1, lfd ((t.1 46).2.1) ((t.2 1 k).2.2.1) 4, (t.1 46).2.2))], vup t.2 1 k (upd ((t.2 1 k).1) 4 (1), (t.2 1 k).2)) := by
          unfold tK_Ip_breakUp
          rw [if_pos hx, ek, if_pos h34, if_pos h5]
        rw [eT]
        exact (Qx_Ip_breakUpG hI k hk h34.1 h34.2 h5).mono (by decide) (by decide) (fun o w1 h => ⟨zri.vl h.1, u, rfl, IVm.of h.2 (fun i hi => zup_cg (P := fun i => ¬ tx i) (fun i hi => if_neg hi) _ i hi) rfl⟩)
      · have eT : tK_Ip_breakUp (nI k) t u.1 = (zup t.1 [(47, (upd ((t.1 47).1) 0 ((t.1 47).1 0 + (t.2 1 k).1 5), (t.1 47).2.1, (t.1 47).2.2)), (48, ((t.1 48).1, lfd ((t.1 48).2.1) ((t.2 1 k).2.2.1) 4, (t.1 48).2.2))], vup t.2 1 k (upd ((t.2 1 k).1) 4 (1), (t.2 1 k).2)) := by
          unfold tK_Ip_breakUp
          rw [if_pos hx, ek, if_pos h34, if_neg h5]
        rw [eT]
        exact (Qx_Ip_breakUpD hI k hk h34.1 h34.2 h5).mono (by decide) (by decide) (fun o w1 h => ⟨zri.vl h.1, u, rfl, IVm.of h.2 (fun i hi => zup_cg (P := fun i => ¬ tx i) (fun i hi => if_neg hi) _ i hi) rfl⟩)
    · have eT : tK_Ip_breakUp (nI k) t u.1 = t := by
        unfold tK_Ip_breakUp
        rw [if_pos hx, ek, if_neg h34]
      rw [eT]
      exact (Qx_Ip_breakUpS hI k hk h34).mono (by decide) (by decide) (fun o w1 h => ⟨zri.th h.1 (by simp), u, rfl, ⟨_, h.2⟩⟩)
  · have hx9 : ¬ ∃ k, k < u.1 1 ∧ x = nI k := fun ⟨k, hk, e⟩ => hx (by have h33 := hI.n5 1 (by decide); subst e; rw [nI_clamp (by omega)]; exact ⟨hk, rfl⟩)
    have eT : tK_Ip_breakUp x t u.1 = t := by
      unfold tK_Ip_breakUp
      rw [if_neg hx]
    rw [eT]
    exact (Q_Ip_breakUpE hI x hx9).mono (by decide) (by decide) (fun o w1 h => ⟨h.1.sub (by simp), u, rfl, ⟨_, h.2⟩⟩)
noncomputable def tK_Mm_weld (x : Int32) (t : zTT) (n : Nat → Nat) : zTT := if x.toNatClampNeg < n 5 ∧ x = nI x.toNatClampNeg then (if ¬ (t.2 5 x.toNatClampNeg).2.1 4 = 1 ∧ (t.2 5 x.toNatClampNeg).2.1 2 &&& 32 = 0 then (if (t.2 5 x.toNatClampNeg).2.1 5 = 0 then (t.1, vup t.2 5 x.toNatClampNeg ((t.2 5 x.toNatClampNeg).1, upd ((t.2 5 x.toNatClampNeg).2.1) 2 ((t.2 5 x.toNatClampNeg).2.1 2 &&& (-5)), (t.2 5 x.toNatClampNeg).2.2)) else t) else t) else t
theorem K_Mm_weld {g : zG} {ad : Nat → Nat} {t : zTT} {u : zNN} {w : zW} (hI : IVm g ad t u w) (x : Int32) : zMB g M_Mm_weld [.ref (ad 52), .int x] w (fun o w1 => MKx g ad (tK_Mm_weld x t u.1) u.1 o w1) 10 300 := by
  obtain ⟨s, hI⟩ := hI
  by_cases hx : x.toNatClampNeg < u.1 5 ∧ x = nI x.toNatClampNeg
  · obtain ⟨k, hk, rfl⟩ : ∃ k, k < u.1 5 ∧ x = nI k := ⟨_, hx⟩
    have h33 := hI.n5 5 (by decide)
    have ek : (nI k).toNatClampNeg = k := nI_clamp (by omega)
    by_cases h12 : ¬ (t.2 5 k).2.1 4 = 1 ∧ (t.2 5 k).2.1 2 &&& 32 = 0
    · by_cases h3 : (t.2 5 k).2.1 5 = 0
      · have eT : tK_Mm_weld (nI k) t u.1 = (t.1, vup t.2 5 k ((t.2 5 k).1, upd ((t.2 5 k).2.1) 2 ((t.2 5 k).2.1 2 &&& (-5)), (t.2 5 k).2.2)) := by
          unfold tK_Mm_weld
          rw [if_pos hx, ek, if_pos h12, if_pos h3]
        rw [eT]
        exact (Qx_Mm_weldN hI k hk h12.1 h12.2 h3).mono (by decide) (by decide) (fun o w1 h => ⟨⟨_, h.1⟩, u, rfl, IVm.of h.2 (fun i hi => if_neg hi) rfl⟩)
      · have eT : tK_Mm_weld (nI k) t u.1 = t := by
          unfold tK_Mm_weld
          rw [if_pos hx, ek, if_pos h12, if_neg h3]
        rw [eT]
        exact (Qx_Mm_weldS hI k hk h12.1 h12.2 h3).mono (by decide) (by decide) (fun o w1 h => ⟨⟨_, h.1⟩, u, rfl, ⟨_, h.2⟩⟩)
    · have eT : tK_Mm_weld (nI k) t u.1 = t := by
        unfold tK_Mm_weld
        rw [if_pos hx, ek, if_neg h12]
      rw [eT]
      exact (Qx_Mm_weldU hI k hk h12).mono (by decide) (by decide) (fun o w1 h => ⟨⟨_, h.1⟩, u, rfl, ⟨_, h.2⟩⟩)
  · have hx9 : ¬ ∃ k, k < u.1 5 ∧ x = nI k := fun ⟨k, hk, e⟩ => hx (by have h33 := hI.n5 5 (by decide); subst e; rw [nI_clamp (by omega)]; exact ⟨hk, rfl⟩)
    have eT : tK_Mm_weld x t u.1 = t := by
      unfold tK_Mm_weld
      rw [if_neg hx]
    rw [eT]
    exact (Q_Mm_weldE hI x hx9).mono (by decide) (by decide) (fun o w1 h => ⟨h.1, u, rfl, ⟨_, h.2⟩⟩)
noncomputable def tK_Mm_deliver (x : Int32) (t : zTT) (n : Nat → Nat) : zTT := if x.toNatClampNeg < n 5 ∧ x = nI x.toNatClampNeg then (if (t.2 5 x.toNatClampNeg).2.1 5 = 0 then (if (t.2 5 x.toNatClampNeg).2.1 2 = 0 then (zup t.1 [(52, ((t.1 52).1, (vp_updL ((t.1 52).2.1) 1 ((t.1 52).2.1 1 + ((t.2 5 x.toNatClampNeg).2.1 0).toInt64)), (t.1 52).2.2))], vup t.2 5 x.toNatClampNeg ((t.2 5 x.toNatClampNeg).1, upd ((t.2 5 x.toNatClampNeg).2.1) 5 (1), (t.2 5 x.toNatClampNeg).2.2)) else t) else t) else t
theorem K_Mm_deliver {g : zG} {ad : Nat → Nat} {t : zTT} {u : zNN} {w : zW} (hI : IVm g ad t u w) (x : Int32) : zMB g M_Mm_deliver [.ref (ad 52), .int x] w (fun o w1 => MKx g ad (tK_Mm_deliver x t u.1) u.1 o w1) 10 300 := by
  obtain ⟨s, hI⟩ := hI
  by_cases hx : x.toNatClampNeg < u.1 5 ∧ x = nI x.toNatClampNeg
  · obtain ⟨k, hk, rfl⟩ : ∃ k, k < u.1 5 ∧ x = nI k := ⟨_, hx⟩
    have h33 := hI.n5 5 (by decide)
    have ek : (nI k).toNatClampNeg = k := nI_clamp (by omega)
    by_cases h3 : (t.2 5 k).2.1 5 = 0
    · by_cases h2 : (t.2 5 k).2.1 2 = 0
      · have eT : tK_Mm_deliver (nI k) t u.1 = (zup t.1 [(52, ((t.1 52).1, (vp_updL ((t.1 52).2.1) 1 ((t.1 52).2.1 1 + ((t.2 5 k).2.1 0).toInt64)), (t.1 52).2.2))], vup t.2 5 k ((t.2 5 k).1, upd ((t.2 5 k).2.1) 5 (1), (t.2 5 k).2.2)) := by
          unfold tK_Mm_deliver
          rw [if_pos hx, ek, if_pos h3, if_pos h2]
        rw [eT]
        exact (Qx_Mm_deliverY hI k hk h3 h2).mono (by decide) (by decide) (fun o w1 h => ⟨⟨_, h.1⟩, u, rfl, IVm.of h.2 (fun i hi => zup_cg (P := fun i => ¬ tx i) (fun i hi => if_neg hi) _ i hi) rfl⟩)
      · have eT : tK_Mm_deliver (nI k) t u.1 = t := by
          unfold tK_Mm_deliver
          rw [if_pos hx, ek, if_pos h3, if_neg h2]
        rw [eT]
        exact (Qx_Mm_deliverN hI k hk h3 h2).mono (by decide) (by decide) (fun o w1 h => ⟨⟨_, h.1⟩, u, rfl, ⟨_, h.2⟩⟩)
    · have eT : tK_Mm_deliver (nI k) t u.1 = t := by
        unfold tK_Mm_deliver
        rw [if_pos hx, ek, if_neg h3]
      rw [eT]
      exact (Qx_Mm_deliverS hI k hk h3).mono (by decide) (by decide) (fun o w1 h => ⟨⟨_, h.1⟩, u, rfl, ⟨_, h.2⟩⟩)
  · have hx9 : ¬ ∃ k, k < u.1 5 ∧ x = nI k := fun ⟨k, hk, e⟩ => hx (by have h33 := hI.n5 5 (by decide); subst e; rw [nI_clamp (by omega)]; exact ⟨hk, rfl⟩)
    have eT : tK_Mm_deliver x t u.1 = t := by
      unfold tK_Mm_deliver
      rw [if_neg hx]
    rw [eT]
    exact (Q_Mm_deliverE hI x hx9).mono (by decide) (by decide) (fun o w1 h => ⟨h.1, u, rfl, ⟨_, h.2⟩⟩)
noncomputable def tK_Mm_breakUp (x : Int32) (t : zTT) (n : Nat → Nat) : zTT := if x.toNatClampNeg < n 5 ∧ x = nI x.toNatClampNeg then (if (t.2 5 x.toNatClampNeg).2.1 5 = 0 then (if (t.2 5 x.toNatClampNeg).2.1 4 = 1 then buT t x.toNatClampNeg 3 4 else buT t x.toNatClampNeg 2 4) else t) else t
theorem K_Mm_breakUp {g : zG} {ad : Nat → Nat} {t : zTT} {u : zNN} {w : zW} (hI : IVm g ad t u w) (x : Int32) : zMB g M_Mm_breakUp [.ref (ad 52), .int x] w (fun o w1 => MKx g ad (tK_Mm_breakUp x t u.1) u.1 o w1) 10 300 := by
  obtain ⟨s, hI⟩ := hI
  by_cases hx : x.toNatClampNeg < u.1 5 ∧ x = nI x.toNatClampNeg
  · obtain ⟨k, hk, rfl⟩ : ∃ k, k < u.1 5 ∧ x = nI k := ⟨_, hx⟩
    have h33 := hI.n5 5 (by decide)
    have ek : (nI k).toNatClampNeg = k := nI_clamp (by omega)
    by_cases h3 : (t.2 5 k).2.1 5 = 0
    · by_cases h4 : (t.2 5 k).2.1 4 = 1
      · have eT : tK_Mm_breakUp (nI k) t u.1 = buT t k 3 4 := by
          unfold tK_Mm_breakUp
          rw [if_pos hx, ek, if_pos h3, if_pos h4]
        rw [eT]
        exact (Qx_Mm_breakUpD hI k hk h3 h4).mono (by decide) (by decide) (fun o w1 h => ⟨⟨_, h.1⟩, u, rfl, IVm.of h.2 (fun i hi => zup_cg (P := fun i => ¬ tx i) (fun i hi => if_neg hi) _ i hi) rfl⟩)
      · have eT : tK_Mm_breakUp (nI k) t u.1 = buT t k 2 4 := by
          unfold tK_Mm_breakUp
          rw [if_pos hx, ek, if_pos h3, if_neg h4]
        rw [eT]
        exact (Qx_Mm_breakUpG hI k hk h3 h4).mono (by decide) (by decide) (fun o w1 h => ⟨⟨_, h.1⟩, u, rfl, IVm.of h.2 (fun i hi => zup_cg (P := fun i => ¬ tx i) (fun i hi => if_neg hi) _ i hi) rfl⟩)
    · have eT : tK_Mm_breakUp (nI k) t u.1 = t := by
        unfold tK_Mm_breakUp
        rw [if_pos hx, ek, if_neg h3]
      rw [eT]
      exact (Qx_Mm_breakUpS hI k hk h3).mono (by decide) (by decide) (fun o w1 h => ⟨⟨_, h.1⟩, u, rfl, ⟨_, h.2⟩⟩)
  · have hx9 : ¬ ∃ k, k < u.1 5 ∧ x = nI k := fun ⟨k, hk, e⟩ => hx (by have h33 := hI.n5 5 (by decide); subst e; rw [nI_clamp (by omega)]; exact ⟨hk, rfl⟩)
    have eT : tK_Mm_breakUp x t u.1 = t := by
      unfold tK_Mm_breakUp
      rw [if_neg hx]
    rw [eT]
    exact (Q_Mm_breakUpE hI x hx9).mono (by decide) (by decide) (fun o w1 h => ⟨h.1, u, rfl, ⟨_, h.2⟩⟩)
noncomputable def tK_Ip_minutes (x : Int32) (t : zTT) (n : Nat → Nat) : zTT := if 1 ≤ x ∧ x ≤ 60 then elT 0 (wtV9 x) (fdT t x.toNatClampNeg) (n 0) else t
theorem K_Ip_minutes {g : zG} {ad : Nat → Nat} {t : zTT} {u : zNN} {w : zW} (hI : IVm g ad t u w) (x : Int32) : zMB g M_Ip_minutes [.ref (ad 0), .int x] w (fun o w1 => CKx g ad (tK_Ip_minutes x t u.1) u.1 ["java/lang/IllegalArgumentException"] o w1) 10 300 := by
  obtain ⟨s, hI⟩ := hI
  by_cases hw : 1 ≤ x ∧ x ≤ 60
  · obtain ⟨a9, ha9, e9⟩ := z_in20 (b := 60) (by decide) ⟨Int32.le_trans (by decide) hw.1, hw.2⟩
    subst e9
    have ek : (nI a9).toNatClampNeg = a9 := nI_clamp (by omega)
    have eT : tK_Ip_minutes (nI a9) t u.1 = elT 0 (wtV9 (nI a9)) (fdT t a9) (u.1 0) := by
      unfold tK_Ip_minutes
      rw [if_pos hw, ek]
    rw [eT]
    exact (Qx_Ip_minutesN hI a9 ha9 hw).mono (by decide) (by decide) (fun o w1 h => ⟨zri.vl h.1, u, rfl, IVm.of h.2 (fun i hi => zup_cg (P := fun i => ¬ tx i) (fun i hi => if_neg hi) _ i hi) rfl⟩)
  · have eT : tK_Ip_minutes x t u.1 = t := by
      unfold tK_Ip_minutes
      rw [if_neg hw]
    rw [eT]
    exact (Q_Ip_minutesE hI x hw).mono (by decide) (by decide) (fun o w1 h => ⟨h.1.sub (by simp), u, rfl, ⟨_, h.2⟩⟩)
noncomputable def tK_Mm_minutes (x : Int32) (t : zTT) (n : Nat → Nat) : zTT := if 1 ≤ x ∧ x ≤ 60 then elT 4 (nuV9 x) (if (t.1 63).1 1 ≤ 0 then t else fmT t x.toNatClampNeg) (n 4) else t
theorem K_Mm_minutes {g : zG} {ad : Nat → Nat} {t : zTT} {u : zNN} {w : zW} (hI : IVm g ad t u w) (x : Int32) : zMB g M_Mm_minutes [.ref (ad 52), .int x] w (fun o w1 => MKx g ad (tK_Mm_minutes x t u.1) u.1 o w1) 10 300 := by
  obtain ⟨s, hI⟩ := hI
  by_cases hw : 1 ≤ x ∧ x ≤ 60
  · obtain ⟨a9, ha9, e9⟩ := z_in20 (b := 60) (by decide) ⟨Int32.le_trans (by decide) hw.1, hw.2⟩
    subst e9
    have ek : (nI a9).toNatClampNeg = a9 := nI_clamp (by omega)
    by_cases h1 : (t.1 63).1 1 ≤ 0
    · have eT : tK_Mm_minutes (nI a9) t u.1 = elT 4 (nuV9 (nI a9)) t (u.1 4) := by
        unfold tK_Mm_minutes
        rw [if_pos hw, if_pos h1]
      rw [eT]
      exact (Qx_Mm_minutesA hI a9 ha9 hw h1).mono (by decide) (by decide) (fun o w1 h => ⟨⟨_, h.1⟩, u, rfl, IVm.of h.2 (fun i hi => if_neg hi) rfl⟩)
    · have eT : tK_Mm_minutes (nI a9) t u.1 = elT 4 (nuV9 (nI a9)) (fmT t a9) (u.1 4) := by
        unfold tK_Mm_minutes
        rw [if_pos hw, if_neg h1, ek]
      rw [eT]
      exact (Qx_Mm_minutesB hI a9 ha9 hw h1).mono (by decide) (by decide) (fun o w1 h => ⟨⟨_, h.1⟩, u, rfl, IVm.of h.2 (fun i hi => zup_cg (P := fun i => ¬ tx i) (fun i hi => if_neg hi) _ i hi) rfl⟩)
  · have eT : tK_Mm_minutes x t u.1 = t := by
      unfold tK_Mm_minutes
      rw [if_neg hw]
    rw [eT]
    exact (Q_Mm_minutesE hI x hw).mono (by decide) (by decide) (fun o w1 h => ⟨h.1, u, rfl, ⟨_, h.2⟩⟩)
noncomputable def tK_Ip_mould (t : zTT) (n : Nat → Nat) : zTT := (if ¬ fa_cnt (fun k => decide (((t.1 2).1) k = 103)) 12 = 0 ∧ anB (fun k => decide (((t.1 2).1) k = 99)) 108 = true then (if nI (coN ((t.1 2).1)) ≤ gdN t then (if n 0 < 10 then mdT t (n 0) else t) else t) else t)
noncomputable def nK_Ip_mould (t : zTT) (n : Nat → Nat) : Nat → Nat := (if ¬ fa_cnt (fun k => decide (((t.1 2).1) k = 103)) 12 = 0 ∧ anB (fun k => decide (((t.1 2).1) k = 99)) 108 = true then (if nI (coN ((t.1 2).1)) ≤ gdN t then (if n 0 < 10 then z_upL n 0 (n 0 + 1) else n) else n) else n)
theorem K_Ip_mould {g : zG} {ad : Nat → Nat} {t : zTT} {u : zNN} {w : zW} (hI : IVm g ad t u w) : zMB g M_Ip_mould [.ref (ad 0)] w (fun o w1 => CKx g ad (tK_Ip_mould t u.1) (nK_Ip_mould t u.1) ["java/util/NoSuchElementException", "java/lang/UnsupportedOperationException", "java/lang/IllegalStateException"] o w1) 10 300 := by
  obtain ⟨s, hI⟩ := hI
  by_cases hgc : ¬ fa_cnt (fun k => decide (((t.1 2).1) k = 103)) 12 = 0 ∧ anB (fun k => decide (((t.1 2).1) k = 99)) 108 = true
  · by_cases hn : nI (coN ((t.1 2).1)) ≤ gdN t
    · by_cases hs : u.1 0 < 10
      · have eT : tK_Ip_mould t u.1 = mdT t (u.1 0) := by
          unfold tK_Ip_mould
          rw [if_pos hgc, if_pos hn, if_pos hs]
        have eN : nK_Ip_mould t u.1 = z_upL u.1 0 (u.1 0 + 1) := by
          unfold nK_Ip_mould
          rw [if_pos hgc, if_pos hn, if_pos hs]
        rw [eT, eN]
        exact (Qx_Ip_mouldN hI hgc.1 hgc.2 hn hs u.1 rfl).mono (by decide) (by decide) (fun o w1 h => by obtain ⟨h1, u2, h2, h3⟩ := h; exact ⟨zri.vl h1, u2, h2, IVm.of h3 (fun i hi => zup_cg (P := fun i => ¬ tx i) (fun i hi => zup_cg (P := fun i => ¬ tx i) (fun i hi => if_neg hi) _ i hi) _ i hi) rfl⟩)
      · have eT : tK_Ip_mould t u.1 = t := by
          unfold tK_Ip_mould
          rw [if_pos hgc, if_pos hn, if_neg hs]
        have eN : nK_Ip_mould t u.1 = u.1 := by
          unfold nK_Ip_mould
          rw [if_pos hgc, if_pos hn, if_neg hs]
        rw [eT, eN]
        exact (Qx_Ip_mouldC hI hgc.1 hgc.2 hn hs).mono (by decide) (by decide) (fun o w1 h => ⟨zri.th h.1 (by simp), u, rfl, ⟨_, h.2⟩⟩)
    · have eT : tK_Ip_mould t u.1 = t := by
        unfold tK_Ip_mould
        rw [if_pos hgc, if_neg hn]
      have eN : nK_Ip_mould t u.1 = u.1 := by
        unfold nK_Ip_mould
        rw [if_pos hgc, if_neg hn]
      rw [eT, eN]
      exact (Qx_Ip_mouldB hI hgc.1 hgc.2 hn).mono (by decide) (by decide) (fun o w1 h => ⟨zri.th h.1 (by simp), u, rfl, ⟨_, h.2⟩⟩)
  · have eT : tK_Ip_mould t u.1 = t := by
      unfold tK_Ip_mould
      rw [if_neg hgc]
    have eN : nK_Ip_mould t u.1 = u.1 := by
      unfold nK_Ip_mould
      rw [if_neg hgc]
    rw [eT, eN]
    exact (Qx_Ip_mouldE hI ((Classical.not_and_iff_not_or_not.mp hgc).imp Classical.not_not.mp (fun e => Bool.eq_false_iff.mpr e))).mono (by decide) (by decide) (fun o w1 h => ⟨zri.th h.1 (by simp), u, rfl, ⟨_, h.2⟩⟩)
noncomputable def tK_Ip_pour (X9 : zTr) (t : zTT) (n : Nat → Nat) : zTT := (if ¬ n 0 = 0 then (if ¬ (t.1 43).1 0 = 0 ∧ 1250 ≤ (t.1 42).1 0 then (if n 1 < 30 then poT t X9 (n 1) else t) else t) else t)
noncomputable def nK_Ip_pour (t : zTT) (n : Nat → Nat) : Nat → Nat := (if ¬ n 0 = 0 then (if ¬ (t.1 43).1 0 = 0 ∧ 1250 ≤ (t.1 42).1 0 then (if n 1 < 30 then z_upL (z_upL n 0 (n 0 - 1)) 1 (n 1 + 1) else n) else n) else n)
theorem K_Ip_pour {g : zG} {ad : Nat → Nat} {t : zTT} {u : zNN} {w : zW} (hI : IVm g ad t u w) : zMB g M_Ip_pour [.ref (ad 0)] w (fun o w1 => ∃ (X9 : zTr), CKx g ad (tK_Ip_pour X9 t u.1) (nK_Ip_pour t u.1) ["java/util/NoSuchElementException", "java/lang/IllegalStateException", "java/lang/UnsupportedOperationException"] o w1) 10 300 := by
  obtain ⟨s, hI⟩ := hI
  by_cases h0 : ¬ u.1 0 = 0
  · by_cases h12 : ¬ (t.1 43).1 0 = 0 ∧ 1250 ≤ (t.1 42).1 0
    · by_cases h3 : u.1 1 < 30
      · refine (Qx_Ip_pourN hI h0 h12.1 h12.2 h3 u.1 rfl).mono (by decide) (by decide) (fun o w1 h => ?_)
        obtain ⟨X9, h1, u2, h2, h4⟩ := h
        have eT : tK_Ip_pour X9 t u.1 = poT t X9 (u.1 1) := by
          unfold tK_Ip_pour
          rw [if_pos h0, if_pos h12, if_pos h3]
        have eN : nK_Ip_pour t u.1 = z_upL (z_upL u.1 0 (u.1 0 - 1)) 1 (u.1 1 + 1) := by
          unfold nK_Ip_pour
          rw [if_pos h0, if_pos h12, if_pos h3]
        refine ⟨X9, ?_⟩
        rw [eT, eN]
        exact ⟨zri.vl h1, u2, h2, IVm.of h4 (fun i hi => zup_cg (P := fun i => ¬ tx i) (fun i hi => if_neg hi) _ i hi) rfl⟩
      · refine (Qx_Ip_pourG hI h0 h12.1 h12.2 h3).mono (by decide) (by decide) (fun o w1 h => ⟨zX0, ?_⟩)
        have eT : tK_Ip_pour zX0 t u.1 = t := by
          unfold tK_Ip_pour
          rw [if_pos h0, if_pos h12, if_neg h3]
        have eN : nK_Ip_pour t u.1 = u.1 := by
          unfold nK_Ip_pour
          rw [if_pos h0, if_pos h12, if_neg h3]
        rw [eT, eN]
        exact ⟨zri.th h.1 (by simp), u, rfl, ⟨_, h.2⟩⟩
    · refine (Qx_Ip_pourF hI h0 h12).mono (by decide) (by decide) (fun o w1 h => ⟨zX0, ?_⟩)
      have eT : tK_Ip_pour zX0 t u.1 = t := by
        unfold tK_Ip_pour
        rw [if_pos h0, if_neg h12]
      have eN : nK_Ip_pour t u.1 = u.1 := by
        unfold nK_Ip_pour
        rw [if_pos h0, if_neg h12]
      rw [eT, eN]
      exact ⟨zri.th h.1 (by simp), u, rfl, ⟨_, h.2⟩⟩
  · refine (Qx_Ip_pourE hI (Classical.not_not.mp h0)).mono (by decide) (by decide) (fun o w1 h => ⟨zX0, ?_⟩)
    have eT : tK_Ip_pour zX0 t u.1 = t := by
      unfold tK_Ip_pour
      rw [if_neg h0]
    have eN : nK_Ip_pour t u.1 = u.1 := by
      unfold nK_Ip_pour
      rw [if_neg h0]
    rw [eT, eN]
    exact ⟨zri.th h.1 (by simp), u, rfl, ⟨_, h.2⟩⟩
noncomputable def tK_Mm_hours (x : Int32) (t : zTT) (n : Nat → Nat) : zTT := if 1 ≤ x ∧ x ≤ 48 then tls (hrT t x) 2 (hrF t x (n 2)).2.1 else t
noncomputable def nK_Mm_hours (x : Int32) (t : zTT) (n : Nat → Nat) : Nat → Nat := if 1 ≤ x ∧ x ≤ 48 then z_upL n 2 (hrF t x (n 2)).1 else n
theorem K_Mm_hours {g : zG} {ad : Nat → Nat} {t : zTT} {u : zNN} {w : zW} (hI : IVm g ad t u w) (x : Int32) : zMB g M_Mm_hours [.ref (ad 52), .int x] w (fun o w1 => MKx g ad (tK_Mm_hours x t u.1) (nK_Mm_hours x t u.1) o w1) 10 300 := by
  obtain ⟨s, hI⟩ := hI
  by_cases hw : 1 ≤ x ∧ x ≤ 48
  · have eT : tK_Mm_hours x t u.1 = tls (hrT t x) 2 (hrF t x (u.1 2)).2.1 := by
      unfold tK_Mm_hours
      rw [if_pos hw]
    have eN : nK_Mm_hours x t u.1 = z_upL u.1 2 (hrF t x (u.1 2)).1 := by
      unfold nK_Mm_hours
      rw [if_pos hw]
    rw [eT, eN]
    exact (Qx_Mm_hoursN hI x hw u.1 rfl).mono (by decide) (by decide) (fun o w1 h => by obtain ⟨h1, u2, h2, h3⟩ := h; exact ⟨⟨_, h1⟩, u2, h2, IVm.of h3 (fun i hi => zup_cg (P := fun i => ¬ tx i) (fun i hi => if_neg hi) _ i hi) rfl⟩)
  · have eT : tK_Mm_hours x t u.1 = t := by
      unfold tK_Mm_hours
      rw [if_neg hw]
    have eN : nK_Mm_hours x t u.1 = u.1 := by
      unfold nK_Mm_hours
      rw [if_neg hw]
    rw [eT, eN]
    exact (Qx_Mm_hoursE hI x hw).mono (by decide) (by decide) (fun o w1 h => ⟨⟨_, h.1⟩, u, rfl, ⟨_, h.2⟩⟩)
noncomputable def tK_Mm_makeCores (c k : Int32) (t : zTT) (n : Nat → Nat) : zTT := (if (1 ≤ c ∧ c ≤ 10) ∧ (1 ≤ k ∧ k ≤ 24) then (if ¬ n 2 = 20 then tls t 2 (z_apV (t.2 2) (n 2) (mkV c ((t.1 52).1 5 + k))) else t) else t)
noncomputable def nK_Mm_makeCores (c k : Int32) (t : zTT) (n : Nat → Nat) : Nat → Nat := (if (1 ≤ c ∧ c ≤ 10) ∧ (1 ≤ k ∧ k ≤ 24) then (if ¬ n 2 = 20 then z_upL n 2 (n 2 + 1) else n) else n)
theorem K_Mm_makeCores {g : zG} {ad : Nat → Nat} {t : zTT} {u : zNN} {w : zW} (hI : IVm g ad t u w) (c k : Int32) : zMB g M_Mm_makeCores [.ref (ad 52), .int c, .int k] w (fun o w1 => MKx g ad (tK_Mm_makeCores c k t u.1) (nK_Mm_makeCores c k t u.1) o w1) 10 300 := by
  obtain ⟨s, hI⟩ := hI
  by_cases hw : (1 ≤ c ∧ c ≤ 10) ∧ (1 ≤ k ∧ k ≤ 24)
  · by_cases hf : ¬ u.1 2 = 20
    · have eT : tK_Mm_makeCores c k t u.1 = tls t 2 (z_apV (t.2 2) (u.1 2) (mkV c ((t.1 52).1 5 + k))) := by
        unfold tK_Mm_makeCores
        rw [if_pos hw, if_pos hf]
      have eN : nK_Mm_makeCores c k t u.1 = z_upL u.1 2 (u.1 2 + 1) := by
        unfold nK_Mm_makeCores
        rw [if_pos hw, if_pos hf]
      rw [eT, eN]
      exact (Qx_Mm_makeCoresN hI c k hw hf u.1 rfl).mono (by decide) (by decide) (fun o w1 h => by obtain ⟨h1, u2, h2, h3⟩ := h; exact ⟨h1, u2, h2, IVm.of h3 (fun i hi => if_neg hi) rfl⟩)
    · have eT : tK_Mm_makeCores c k t u.1 = t := by
        unfold tK_Mm_makeCores
        rw [if_pos hw, if_neg hf]
      have eN : nK_Mm_makeCores c k t u.1 = u.1 := by
        unfold nK_Mm_makeCores
        rw [if_pos hw, if_neg hf]
      rw [eT, eN]
      exact (Qx_Mm_makeCoresF hI c k hw (Classical.not_not.mp hf)).mono (by decide) (by decide) (fun o w1 h => ⟨⟨_, h.1⟩, u, rfl, ⟨_, h.2⟩⟩)
  · have eT : tK_Mm_makeCores c k t u.1 = t := by
      unfold tK_Mm_makeCores
      rw [if_neg hw]
    have eN : nK_Mm_makeCores c k t u.1 = u.1 := by
      unfold nK_Mm_makeCores
      rw [if_neg hw]
    rw [eT, eN]
    exact (Qx_Mm_makeCoresE hI c k hw).mono (by decide) (by decide) (fun o w1 h => ⟨⟨_, h.1⟩, u, rfl, ⟨_, h.2⟩⟩)
noncomputable def tK_Mm_mould (t : zTT) (n : Nat → Nat) : zTT := (if ¬ fa_cnt (fun k => decide (((t.1 53).1) k = 103)) 12 = 0 ∧ anB (fun k => decide (((t.1 53).1) k = 99)) 108 = true then (if nI (coN ((t.1 53).1)) ≤ gdS ((t.1 52).1 5) (t.2 2) (n 2) then (if ¬ n 3 = 10 then mmT t n else t) else t) else t)
noncomputable def nK_Mm_mould (t : zTT) (n : Nat → Nat) : Nat → Nat := (if ¬ fa_cnt (fun k => decide (((t.1 53).1) k = 103)) 12 = 0 ∧ anB (fun k => decide (((t.1 53).1) k = 99)) 108 = true then (if nI (coN ((t.1 53).1)) ≤ gdS ((t.1 52).1 5) (t.2 2) (n 2) then (if ¬ n 3 = 10 then z_upL (z_upL (z_upL n 3 (n 3 + 1)) 4 (n 4 + 1)) 2 (mmF t n).1 else n) else n) else n)
theorem K_Mm_mould {g : zG} {ad : Nat → Nat} {t : zTT} {u : zNN} {w : zW} (hI : IVm g ad t u w) : zMB g M_Mm_mould [.ref (ad 52)] w (fun o w1 => MKx g ad (tK_Mm_mould t u.1) (nK_Mm_mould t u.1) o w1) 10 300 := by
  obtain ⟨s, hI⟩ := hI
  by_cases hgc : ¬ fa_cnt (fun k => decide (((t.1 53).1) k = 103)) 12 = 0 ∧ anB (fun k => decide (((t.1 53).1) k = 99)) 108 = true
  · by_cases hn : nI (coN ((t.1 53).1)) ≤ gdS ((t.1 52).1 5) (t.2 2) (u.1 2)
    · by_cases hs : ¬ u.1 3 = 10
      · have eT : tK_Mm_mould t u.1 = mmT t u.1 := by
          unfold tK_Mm_mould
          rw [if_pos hgc, if_pos hn, if_pos hs]
        have eN : nK_Mm_mould t u.1 = z_upL (z_upL (z_upL u.1 3 (u.1 3 + 1)) 4 (u.1 4 + 1)) 2 (mmF t u.1).1 := by
          unfold nK_Mm_mould
          rw [if_pos hgc, if_pos hn, if_pos hs]
        rw [eT, eN]
        exact (Qx_Mm_mouldN hI hgc.1 hgc.2 hn hs u.1 rfl).mono (by decide) (by decide) (fun o w1 h => by obtain ⟨h1, u2, h2, h3⟩ := h; exact ⟨⟨_, h1⟩, u2, h2, IVm.of h3 (fun i hi => zup_cg (P := fun i => ¬ tx i) (fun i hi => if_neg hi) _ i hi) rfl⟩)
      · have eT : tK_Mm_mould t u.1 = t := by
          unfold tK_Mm_mould
          rw [if_pos hgc, if_pos hn, if_neg hs]
        have eN : nK_Mm_mould t u.1 = u.1 := by
          unfold nK_Mm_mould
          rw [if_pos hgc, if_pos hn, if_neg hs]
        rw [eT, eN]
        exact (Qx_Mm_mouldC hI hgc.1 hgc.2 hn (Classical.not_not.mp hs)).mono (by decide) (by decide) (fun o w1 h => ⟨⟨_, h.1⟩, u, rfl, ⟨_, h.2⟩⟩)
    · have eT : tK_Mm_mould t u.1 = t := by
        unfold tK_Mm_mould
        rw [if_pos hgc, if_neg hn]
      have eN : nK_Mm_mould t u.1 = u.1 := by
        unfold nK_Mm_mould
        rw [if_pos hgc, if_neg hn]
      rw [eT, eN]
      exact (Qx_Mm_mouldB hI hgc.1 hgc.2 hn).mono (by decide) (by decide) (fun o w1 h => ⟨⟨_, h.1⟩, u, rfl, ⟨_, h.2⟩⟩)
  · have eT : tK_Mm_mould t u.1 = t := by
      unfold tK_Mm_mould
      rw [if_neg hgc]
    have eN : nK_Mm_mould t u.1 = u.1 := by
      unfold nK_Mm_mould
      rw [if_neg hgc]
    rw [eT, eN]
    exact (Qx_Mm_mouldA hI hgc).mono (by decide) (by decide) (fun o w1 h => ⟨⟨_, h.1⟩, u, rfl, ⟨_, h.2⟩⟩)
noncomputable def tK_Mm_pour (S9 : zSC) (t : zTT) (n : Nat → Nat) : zTT := (if ¬ n 3 = 0 then (if ¬ (t.1 63).1 1 = 0 ∧ 1250 ≤ (t.1 52).1 6 then (if ¬ n 5 = 30 then pmT t (n 5) (n 6) (pShS t S9) (pFbS t S9) else t) else t) else t)
noncomputable def nK_Mm_pour (t : zTT) (n : Nat → Nat) : Nat → Nat := (if ¬ n 3 = 0 then (if ¬ (t.1 63).1 1 = 0 ∧ 1250 ≤ (t.1 52).1 6 then (if ¬ n 5 = 30 then z_upL (z_upL (z_upL (z_upL n 3 (n 3 - 1)) 4 (n 4 - 1)) 5 (n 5 + 1)) 6 (n 6 + 1) else n) else n) else n)
theorem K_Mm_pour {g : zG} {ad : Nat → Nat} {t : zTT} {u : zNN} {w : zW} (hI : IVm g ad t u w) : zMB g M_Mm_pour [.ref (ad 52)] w (fun o w1 => ∃ (S9 : zSC), MKx g ad (tK_Mm_pour S9 t u.1) (nK_Mm_pour t u.1) o w1) 10 300 := by
  obtain ⟨s, hI⟩ := hI
  by_cases h0 : ¬ u.1 3 = 0
  · by_cases h12 : ¬ (t.1 63).1 1 = 0 ∧ 1250 ≤ (t.1 52).1 6
    · by_cases h3 : ¬ u.1 5 = 30
      · refine (Qx_Mm_pourN hI h0 h12.1 h12.2 h3 u.1 rfl).mono (by decide) (by decide) (fun o w1 h => ?_)
        obtain ⟨a1, a2, a3, a4, a5, a6, a7, h1, u2, h2, h4⟩ := h
        have eT : tK_Mm_pour (a1, a2, a3, a4, a5, a6, a7) t u.1 = pmT t (u.1 5) (u.1 6) (pShS t (a1, a2, a3, a4, a5, a6, a7)) (pFbS t (a1, a2, a3, a4, a5, a6, a7)) := by
          unfold tK_Mm_pour
          rw [if_pos h0, if_pos h12, if_pos h3]
        have eN : nK_Mm_pour t u.1 = z_upL (z_upL (z_upL (z_upL u.1 3 (u.1 3 - 1)) 4 (u.1 4 - 1)) 5 (u.1 5 + 1)) 6 (u.1 6 + 1) := by
          unfold nK_Mm_pour
          rw [if_pos h0, if_pos h12, if_pos h3]
        refine ⟨(a1, a2, a3, a4, a5, a6, a7), ?_⟩
        rw [eT, eN]
        exact ⟨⟨_, h1⟩, u2, h2, IVm.of h4 (fun i hi => zup_cg (P := fun i => ¬ tx i) (fun i hi => if_neg hi) _ i hi) rfl⟩
      · refine (Qx_Mm_pourG hI h0 h12.1 h12.2 (Classical.not_not.mp h3)).mono (by decide) (by decide) (fun o w1 h => ⟨zS0, ?_⟩)
        have eT : tK_Mm_pour zS0 t u.1 = t := by
          unfold tK_Mm_pour
          rw [if_pos h0, if_pos h12, if_neg h3]
        have eN : nK_Mm_pour t u.1 = u.1 := by
          unfold nK_Mm_pour
          rw [if_pos h0, if_pos h12, if_neg h3]
        rw [eT, eN]
        exact ⟨⟨_, h.1⟩, u, rfl, ⟨_, h.2⟩⟩
    · refine (Qx_Mm_pourF hI h0 h12).mono (by decide) (by decide) (fun o w1 h => ⟨zS0, ?_⟩)
      have eT : tK_Mm_pour zS0 t u.1 = t := by
        unfold tK_Mm_pour
        rw [if_pos h0, if_neg h12]
      have eN : nK_Mm_pour t u.1 = u.1 := by
        unfold nK_Mm_pour
        rw [if_pos h0, if_neg h12]
      rw [eT, eN]
      exact ⟨⟨_, h.1⟩, u, rfl, ⟨_, h.2⟩⟩
  · refine (Qx_Mm_pourE hI (Classical.not_not.mp h0)).mono (by decide) (by decide) (fun o w1 h => ⟨zS0, ?_⟩)
    have eT : tK_Mm_pour zS0 t u.1 = t := by
      unfold tK_Mm_pour
      rw [if_neg h0]
    have eN : nK_Mm_pour t u.1 = u.1 := by
      unfold nK_Mm_pour
      rw [if_neg h0]
    rw [eT, eN]
    exact ⟨⟨_, h.1⟩, u, rfl, ⟨_, h.2⟩⟩
set_option maxHeartbeats 4000000 in
theorem Qx_Mm_delivered {g : zG} {ad : Nat → Nat} {t : zTT} {u : zNN} {w : zW} (hI : IV g ad t u w) : zMB g M_Mm_delivered [.ref (ad 52)] w (fun o w1 => o = .inl (some (.long ((t.1 52).2.1 1))) ∧ IV g ad t u w1) 0 0 := by
  obtain ⟨e_m, w_m, k_m⟩ := hI.1.2 52 (by decide)
  obtain ⟨v_m_th, rfl⟩ := kd_52.mp k_m
  refine ((C_Mm_delivered g (ad 52) (ad 53) (ad 54) (ad 55) (ad 56) (ad 57) (ad 58) (ad 59) (ad 60) (ad 61) (ad 62) (ad 63) (ad 64) (ad 65) (ad 66) (ad 67) (ad 68) v_m_th (nI ((t.1 52).2.2 0)) ((t.1 52).1 0) ((t.1 52).1 1) ((t.1 52).1 2) ((t.1 52).1 3) ((t.1 52).1 4) ((t.1 52).1 5) ((t.1 52).1 6) ((t.1 52).1 7) ((t.1 52).1 8) ((t.1 52).1 9) ((t.1 52).1 10) ((t.1 52).2.1 0) ((t.1 52).2.1 1)).at (hI.1.I [52] _ rfl (by decide) (by decide) (List.forall_mem_cons.mpr ⟨w_m, (fun _ h => nomatch h)⟩))).mono (Nat.le_of_ble_eq_true rfl) (Nat.le_of_ble_eq_true rfl) (fun o w1 hp => ?_)
  obtain ⟨cs1, hp, hi9⟩ := hp
  obtain ⟨e1, e2⟩ := hp
  subst e1; subst e2
  exact ⟨rfl, hI.fix (t2 := t) (is := [52]) hi9 rfl ⟨kd_52.mpr ⟨_, rfl⟩, trivial⟩ (by decide) (by decide) (fun _ _ _ => rfl) (fun h => h) rfl⟩
theorem K_Mm_delivered {g : zG} {ad : Nat → Nat} {t : zTT} {u : zNN} {w : zW} (hI : IVm g ad t u w) : zMB g M_Mm_delivered [.ref (ad 52)] w (fun o w1 => (∃ v : Int64, o = .inl (some (.long v))) ∧ IVm g ad t u w1) 10 300 := by
  obtain ⟨s, hI⟩ := hI
  exact (Qx_Mm_delivered hI).mono (by decide) (by decide) (fun o w1 h => ⟨⟨_, h.1⟩, ⟨_, h.2⟩⟩)
theorem K_Ip_delivered {g : zG} {ad : Nat → Nat} {t : zTT} {u : zNN} {w : zW} (hI : IVm g ad t u w) : zMB g M_Ip_delivered [.ref (ad 0)] w (fun o w1 => (∃ v : Int64, o = .inl (some (.long v))) ∧ IVm g ad t u w1) 10 300 := by
  obtain ⟨s, hI⟩ := hI
  exact (Q_delivered hI).mono (by decide) (by decide) (fun o w1 h => ⟨h.1, ⟨_, h.2 ▸ hI⟩⟩)
theorem K_Mm_goodShare {g : zG} {ad : Nat → Nat} {t : zTT} {u : zNN} {w : zW} (hI : IVm g ad t u w) : zMB g M_Mm_goodShare [.ref (ad 52)] w (fun o w1 => (∃ v : UInt32, o = .inl (some (.float v))) ∧ IVm g ad t u w1) 10 300 := by
  obtain ⟨s, hI⟩ := hI
  exact (Q_Mm_goodShare hI).mono (by decide) (by decide) (fun o w1 h => ⟨h.1, ⟨_, h.2⟩⟩)
theorem K_Mm_meanBar {g : zG} {ad : Nat → Nat} {t : zTT} {u : zNN} {w : zW} (hI : IVm g ad t u w) : zMB g M_Mm_meanBar [.ref (ad 52)] w (fun o w1 => (∃ v : UInt64, o = .inl (some (.double v))) ∧ IVm g ad t u w1) 10 300 := by
  obtain ⟨s, hI⟩ := hI
  by_cases h0 : u.1 5 = 0
  · exact (Q_Mm_meanBarE hI h0).mono (by decide) (by decide) (fun o w1 h => ⟨h.1, ⟨_, h.2⟩⟩)
  · exact (Q_Mm_meanBarN hI h0).mono (by decide) (by decide) (fun o w1 h => ⟨h.1, ⟨_, h.2⟩⟩)
