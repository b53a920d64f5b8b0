section
variable {args : Array Value} {s : State} {A : Nat → Prop}
def z_fl : List Cond := flatC (Jvm.Cond.and given_1 narrow_1)
theorem z_fm {c : Cond} (j : Nat) (h : (Jvm.Cond.and given_1 narrow_1).before args s = true) (hj : z_fl[j]? = some c) : c.before args s = true := flat_of_before _ h _ (List.mem_of_getElem? hj)
theorem z_tm {c : Cond} (j : Nat) (h : ∀ x ∈ lw_tbl, x.before args s = true) (hj : lw_tbl[j]? = some c) : c.before args s = true := h _ (List.mem_of_getElem? hj)
theorem z_tn1 {c : Cond} (j : Nat) (h : ∀ x ∈ lw_tbl, x.before args s = true) (hj : tables_1_1[j]? = some c) : c.before args s = true := h _ (z_tb1 hj)
theorem z_tn2 {c : Cond} (j : Nat) (h : ∀ x ∈ lw_tbl, x.before args s = true) (hj : tables_1_2[j]? = some c) : c.before args s = true := h _ (z_tb2 hj)
theorem z_tn3 {c : Cond} (j : Nat) (h : ∀ x ∈ lw_tbl, x.before args s = true) (hj : tables_1_3[j]? = some c) : c.before args s = true := h _ (z_tb3 hj)
theorem z_tn4 {c : Cond} (j : Nat) (h : ∀ x ∈ lw_tbl, x.before args s = true) (hj : tables_1_4[j]? = some c) : c.before args s = true := h _ (z_tb4 hj)
theorem z_tn5 {c : Cond} (j : Nat) (h : ∀ x ∈ lw_tbl, x.before args s = true) (hj : tables_1_5[j]? = some c) : c.before args s = true := h _ (z_tb5 hj)
theorem z_tn6 {c : Cond} (j : Nat) (h : ∀ x ∈ lw_tbl, x.before args s = true) (hj : tables_1_6[j]? = some c) : c.before args s = true := h _ (z_tb6 hj)
theorem z_tn7 {c : Cond} (j : Nat) (h : ∀ x ∈ lw_tbl, x.before args s = true) (hj : tables_1_7[j]? = some c) : c.before args s = true := h _ (z_tb7 hj)
theorem z_tn8 {c : Cond} (j : Nat) (h : ∀ x ∈ lw_tbl, x.before args s = true) (hj : tables_1_8[j]? = some c) : c.before args s = true := h _ (z_tb8 hj)
theorem z_tn9 {c : Cond} (j : Nat) (h : ∀ x ∈ lw_tbl, x.before args s = true) (hj : tables_1_9[j]? = some c) : c.before args s = true := h _ (z_tb9 hj)
theorem z_sta {C nn d : String} {ty : FieldType} {N : Nat} {fv : Nat → Int32} (hN : N < 2 ^ 31) (hl : (Cond.laysStatic C nn d).before args s = true) (hini : (Cond.initialized C).before args s = true) (harr : (Cond.arrayOf (.static C nn d) ty).before args s = true) (hlen : (Cond.eq (.length (.static C nn d)) (.int (Int32.ofNat N))).before args s = true) (hel : ∀ j, j < N → (Cond.eq (.elem (.static C nn d) (.int (Int32.ofNat j))) (.int (fv j))).before args s = true) (hA : ∀ a : Nat, a < s.heap.size → ¬ A a) : ∃ t : Nat, va_Z C nn d (.ref t) A s s.heap ∧ va_T ty t N (fun j => .int (fv j)) A s s.heap := by
  obtain ⟨t, ht, hT⟩ := va_Tof (f := fun j => .int (fv j)) hN harr (va_eqt hlen) (fun j hj => va_eqt (hel j hj)) hA
  exact ⟨t, va_Zof hl hini ht hA, hT⟩
theorem z_sta0 {C nn d : String} {ty : FieldType} (hl : (Cond.laysStatic C nn d).before args s = true) (hini : (Cond.initialized C).before args s = true) (harr : (Cond.arrayOf (.static C nn d) ty).before args s = true) (hlen : (Cond.eq (.length (.static C nn d)) (.int 0)).before args s = true) (hA : ∀ a : Nat, a < s.heap.size → ¬ A a) : ∃ t : Nat, va_Z C nn d (.ref t) A s s.heap ∧ va_T ty t 0 (fun _ => .null) A s s.heap := by
  obtain ⟨t, ht, hT⟩ := va_Tof (N := 0) (f := fun _ => .null) (by decide) harr (va_eqt hlen) (fun j hj => absurd hj (by omega)) hA
  exact ⟨t, va_Zof hl hini ht hA, hT⟩
theorem z_stc {own tx : String} {kk len : Nat} {byt : List Int32} (hN : len < 2 ^ 31) (hex : (Cond.exactly (.string own kk) "java/lang/String").before args s = true) (hco : (Cond.eq (.field (.string own kk) "java/lang/String" "coder" "B") (.int 0)).before args s = true) (har : (Cond.arrayOf (.field (.string own kk) "java/lang/String" "value" "[B") .byte).before args s = true) (hle : (Cond.eq (.length (.field (.string own kk) "java/lang/String" "value" "[B")) (.int (Int32.ofNat len))).before args s = true) (hel : ∀ j : Nat, j < len → (Cond.eq (.elem (.field (.string own kk) "java/lang/String" "value" "[B") (.int (Int32.ofNat j))) (.int (byt.getD j 0))).before args s = true) (hA : ∀ a : Nat, a < s.heap.size → ¬ A a) (hsr : (Cond.stringRef own kk tx).before args s = true) : ∃ a v : Nat, vk_S 1 [len] [byt] (fun _ => a) (fun _ => v) A s s.heap ∧ vk_R own kk tx a s ∧ (Term.string own kk).eval args s none [] s = some (.ref a) := by
  have h1 : ∀ i : Nat, i < 1 → i = 0 := fun i hi => by omega
  obtain ⟨adK, adV, hS, hE⟩ := vk_Sof (N := 1) (tm := fun _ => .string own kk) (len := [len]) (byt := [byt]) (A := A) (fun i hi => by rw [h1 i hi]; exact hN) (fun i hi => hex) (fun i hi => hco) (fun i hi => har) (fun i hi => by rw [h1 i hi]; exact hle) (fun i hi => by rw [h1 i hi]; exact hel) (fun i j hi hj hne => absurd ((h1 i hi).trans (h1 j hj).symm) hne) hA
  exact ⟨adK 0, adV 0, ⟨fun i hi => by rw [h1 i hi]; exact hS.1 0 (by omega), fun i j hi hj _ => (h1 i hi).trans (h1 j hj).symm⟩, vk_R.of hsr (hE 0 (by omega)), hE 0 (by omega)⟩
theorem z_srAll {own tx : String} {kk : Nat} (h : (Cond.stringRef own kk tx).before args s = true) : ∃ a, vk_R own kk tx a s := by
  have hcur : ∃ cur, s.vm.findClass own = some cur := by
    have h1 := h
    simp only [Cond.before, Cond.holds, Cond.value] at h1
    cases hc : s.vm.findClass own with
    | none => simp [hc] at h1
    | some cur => exact ⟨cur, rfl⟩
  obtain ⟨cur, hcur⟩ := hcur
  obtain ⟨k2, cf, j, a, -, -, -, -, -, hev⟩ := Cond.stringRef_spec hcur h
  exact ⟨a, vk_R.of h hev⟩
theorem z_sre {own own2 tx : String} {kk k2 a : Nat} (he : (Cond.eq (.string own kk) (.string own2 k2)).before args s = true) (hs : (Term.string own2 k2).eval args s none [] s = some (.ref a)) (hr : (Cond.stringRef own kk tx).before args s = true) : vk_R own kk tx a s := vk_R.of hr (va_eqI (eq_of_beq he) hs)
theorem z_arr1 {ty : FieldType} (hp : ∀ cA, s.vm.findClass ("[" ++ ty.toString) = some cA → va_RA s cA ty) (h : (Cond.arrayClass ty).before args s = true) : ∃ cA, ArrOfT s cA ty ∧ va_RA s cA ty := by
  obtain ⟨c, k, comp, h1, h2, h3⟩ := Cond.arrayClass_spec h
  exact ⟨c, fun _ _ => ⟨(fun _ h => by cases h), k, h2, comp, h3⟩, hp c h1⟩
theorem z_arr2 {C : String} (h : (Cond.arrayOver (.object C)).before args s = true) : ∃ cA, ArrOfT s cA (.object C) ∧ va_RA s cA (.object C) := by
  obtain ⟨comp, c, k, h1, -, h2, h3, h4⟩ := Cond.arrayOver_spec h
  exact ⟨c, fun _ _ => ⟨(fun _ h => by cases h), k, h2, comp, h3⟩, k, comp, h2, h3, h1, h4⟩
def z_ad (l : List Nat) (sc : Nat → Nat) (k : Nat) : Nat := if 100 ≤ k then sc (k - 100) else l.getD k 0
theorem z_ad_h {l : List Nat} {sc : Nat → Nat} (j : Nat) : z_ad l sc (100 + j) = sc j := by
  unfold z_ad
  rw [if_pos (by omega), Nat.add_sub_cancel_left]
theorem z_i32 (x : Int32) : Int32.ofNat x.toBitVec.toNat = x := by
  apply Int32.toBitVec_inj.mp
  show BitVec.ofNat 32 x.toBitVec.toNat = x.toBitVec
  rw [BitVec.ofNat_toNat, BitVec.setWidth_eq]
theorem z_eK (hts : ∀ x ∈ lw_tbl, x.before args s = true) : ∃ D : va_G, ∀ (c : Nat) (q : vw_C), vwCl[c]? = some q → u_Kn s q.1 q.2.1 q.2.2 (D.1 c) (D.2 c) := by
  have hgw : ∀ x ∈ z_gw, x.before args s = true := fun x hx => hts x (List.mem_filter.mp hx).1
  have hk : ∀ c : Nat, ∃ (cC : ClassId) (iS : Nat → Nat), ∀ q, vwCl[c]? = some q → u_Kn s q.1 q.2.1 q.2.2 cC iS := by
    intro c
    match c with
    | 0 => exact (u_known (C := R_Ca) (T := F_Ca) (N := 6) (n := 6) hgw u_Ca (z_tn6 133 hts rfl)).imp fun cC h => h.imp fun iS h q hq => by cases hq; exact h
    | 1 => exact (u_known (C := R_CS) (T := F_CS) (N := 4) (n := 4) hgw u_CS (z_tn1 167 hts rfl)).imp fun cC h => h.imp fun iS h q hq => by cases hq; exact h
    | 2 => exact (u_known (C := R_Fz) (T := F_Fz) (N := 7) (n := 7) hgw u_Fz (z_tn1 78 hts rfl)).imp fun cC h => h.imp fun iS h q hq => by cases hq; exact h
    | 3 => exact (u_known (C := R_Fu) (T := F_Fu) (N := 5) (n := 5) hgw u_Fu (z_tn1 186 hts rfl)).imp fun cC h => h.imp fun iS h q hq => by cases hq; exact h
    | 4 => exact (u_known (C := R_GS) (T := F_GS) (N := 5) (n := 5) hgw u_GS (z_tn1 139 hts rfl)).imp fun cC h => h.imp fun iS h q hq => by cases hq; exact h
    | 5 => exact (u_known (C := R_La) (T := F_La) (N := 4) (n := 4) hgw u_La (z_tn1 232 hts rfl)).imp fun cC h => h.imp fun iS h q hq => by cases hq; exact h
    | 6 => exact (u_known (C := R_Me) (T := F_Me) (N := 2) (n := 2) hgw u_Me (z_tn1 192 hts rfl)).imp fun cC h => h.imp fun iS h q hq => by cases hq; exact h
    | 7 => exact (u_known (C := R_Mo) (T := F_Mo) (N := 8) (n := 8) hgw u_Mo (z_tn5 231 hts rfl)).imp fun cC h => h.imp fun iS h q hq => by cases hq; exact h
    | 8 => exact (u_known (C := R_Pa) (T := F_Pa) (N := 4) (n := 4) hgw u_Pa (z_tn1 47 hts rfl)).imp fun cC h => h.imp fun iS h q hq => by cases hq; exact h
    | 9 => exact (u_known (C := R_Re) (T := F_Re) (N := 3) (n := 3) hgw u_Re (z_tn2 19 hts rfl)).imp fun cC h => h.imp fun iS h q hq => by cases hq; exact h
    | 10 => exact (u_known (C := R_Tr) (T := F_Tr) (N := 8) (n := 8) hgw u_Tr (z_tn1 72 hts rfl)).imp fun cC h => h.imp fun iS h q hq => by cases hq; exact h
    | 11 => exact (u_known (C := R_Ip) (T := F_Ip) (N := 12) (n := 12) hgw u_Ip (z_tn1 39 hts rfl)).imp fun cC h => h.imp fun iS h q hq => by cases hq; exact h
    | 12 => exact (u_known (C := R_Mm) (T := F_Mm) (N := 31) (n := 31) hgw u_Mm (z_tn7 76 hts rfl)).imp fun cC h => h.imp fun iS h q hq => by cases hq; exact h
    | 13 => exact (u_known (C := R_AL) (T := F_AL) (N := 3) (n := 3) hgw u_AL (z_tn2 38 hts rfl)).imp fun cC h => h.imp fun iS h q hq => by cases hq; exact h
    | c + 14 => exact ⟨default, fun _ => 0, fun q hq => by simp [vwCl] at hq⟩
  exact ⟨⟨fun c => (hk c).choose, fun c => (hk c).choose_spec.choose⟩, fun c q hq => (hk c).choose_spec.choose_spec q hq⟩
theorem z_eT (hts : ∀ x ∈ lw_tbl, x.before args s = true) : ∃ cA : Nat → ClassId, ∀ (k : Nat) (q : ClassId × FieldType), (z_ty cA)[k]? = some q → ArrOfT s q.1 q.2 ∧ va_RA s q.1 q.2 := by
  obtain ⟨c0, h0⟩ := z_arr1 (ty := .int) (fun _ h => h) (z_tn1 70 hts rfl)
  obtain ⟨c1, h1⟩ := z_arr1 (ty := .char) (fun _ h => h) (z_tn1 68 hts rfl)
  obtain ⟨c2, h2⟩ := z_arr1 (ty := .boolean) (fun _ h => h) (z_tn1 69 hts rfl)
  obtain ⟨c3, h3⟩ := z_arr1 (ty := .long) (fun _ h => h) (z_tn1 209 hts rfl)
  obtain ⟨c4, h4⟩ := z_arr1 (ty := .double) (fun _ h => h) (z_tn9 80 hts rfl)
  obtain ⟨c5, h5⟩ := z_arr2 (C := "java/lang/Object") (z_tn6 87 hts rfl)
  refine ⟨fun k => [c0, c1, c2, c3, c4, c5].getD k c0, fun k q hq => ?_⟩
  match k, hq with
  | 0, hq => cases hq; exact h0
  | 1, hq => cases hq; exact h1
  | 2, hq => cases hq; exact h2
  | 3, hq => cases hq; exact h3
  | 4, hq => cases hq; exact h4
  | 5, hq => cases hq; exact h5
  | k + 6, hq => simp [z_ty] at hq
set_option maxRecDepth 20000 in
theorem z_ePIG (hts : ∀ x ∈ lw_tbl, x.before args s = true) (hgv : (Jvm.Cond.and given_1 narrow_1).before args s = true) (hA : ∀ a : Nat, a < s.heap.size → ¬ A a) : ∃ t : Nat, va_Z "Ironpour" (z_sn 0) "[I" (.ref t) A s s.heap ∧ va_T .int t 4 (fun j => .int ((z_sv 0).getD j 0)) A s s.heap := z_sta (C := "Ironpour") (nn := "PIG") (fv := fun j => (z_sv 0).getD j 0) (by decide) (z_tn5 53 hts rfl) (z_tn1 1 hts rfl) (z_fm 16 hgv rfl) (z_fm 17 hgv rfl) (fun j hj => match j, hj with | 0, _ => (z_fm 18 hgv rfl) | 1, _ => (z_fm 19 hgv rfl) | 2, _ => (z_fm 20 hgv rfl) | 3, _ => (z_fm 21 hgv rfl) | j + 4, hj => absurd (show j + 4 < 4 from hj) (by omega)) hA
set_option maxRecDepth 20000 in
theorem z_eSCRAP (hts : ∀ x ∈ lw_tbl, x.before args s = true) (hgv : (Jvm.Cond.and given_1 narrow_1).before args s = true) (hA : ∀ a : Nat, a < s.heap.size → ¬ A a) : ∃ t : Nat, va_Z "Ironpour" (z_sn 1) "[I" (.ref t) A s s.heap ∧ va_T .int t 4 (fun j => .int ((z_sv 1).getD j 0)) A s s.heap := z_sta (C := "Ironpour") (nn := "SCRAP") (fv := fun j => (z_sv 1).getD j 0) (by decide) (z_tn5 55 hts rfl) (z_tn1 1 hts rfl) (z_fm 23 hgv rfl) (z_fm 24 hgv rfl) (fun j hj => match j, hj with | 0, _ => (z_fm 25 hgv rfl) | 1, _ => (z_fm 26 hgv rfl) | 2, _ => (z_fm 27 hgv rfl) | 3, _ => (z_fm 28 hgv rfl) | j + 4, hj => absurd (show j + 4 < 4 from hj) (by omega)) hA
set_option maxRecDepth 20000 in
theorem z_eFERROSILICON (hts : ∀ x ∈ lw_tbl, x.before args s = true) (hgv : (Jvm.Cond.and given_1 narrow_1).before args s = true) (hA : ∀ a : Nat, a < s.heap.size → ¬ A a) : ∃ t : Nat, va_Z "Ironpour" (z_sn 2) "[I" (.ref t) A s s.heap ∧ va_T .int t 4 (fun j => .int ((z_sv 2).getD j 0)) A s s.heap := z_sta (C := "Ironpour") (nn := "FERROSILICON") (fv := fun j => (z_sv 2).getD j 0) (by decide) (z_tn5 57 hts rfl) (z_tn1 1 hts rfl) (z_fm 30 hgv rfl) (z_fm 31 hgv rfl) (fun j hj => match j, hj with | 0, _ => (z_fm 32 hgv rfl) | 1, _ => (z_fm 33 hgv rfl) | 2, _ => (z_fm 34 hgv rfl) | 3, _ => (z_fm 35 hgv rfl) | j + 4, hj => absurd (show j + 4 < 4 from hj) (by omega)) hA
set_option maxRecDepth 20000 in
theorem z_eCOKE (hts : ∀ x ∈ lw_tbl, x.before args s = true) (hgv : (Jvm.Cond.and given_1 narrow_1).before args s = true) (hA : ∀ a : Nat, a < s.heap.size → ¬ A a) : ∃ t : Nat, va_Z "Ironpour" (z_sn 3) "[I" (.ref t) A s s.heap ∧ va_T .int t 4 (fun j => .int ((z_sv 3).getD j 0)) A s s.heap := z_sta (C := "Ironpour") (nn := "COKE") (fv := fun j => (z_sv 3).getD j 0) (by decide) (z_tn5 59 hts rfl) (z_tn1 1 hts rfl) (z_fm 37 hgv rfl) (z_fm 38 hgv rfl) (fun j hj => match j, hj with | 0, _ => (z_fm 39 hgv rfl) | 1, _ => (z_fm 40 hgv rfl) | 2, _ => (z_fm 41 hgv rfl) | 3, _ => (z_fm 42 hgv rfl) | j + 4, hj => absurd (show j + 4 < 4 from hj) (by omega)) hA
set_option maxRecDepth 20000 in
theorem z_eDC (hts : ∀ x ∈ lw_tbl, x.before args s = true) (hgv : (Jvm.Cond.and given_1 narrow_1).before args s = true) (hA : ∀ a : Nat, a < s.heap.size → ¬ A a) : ∃ t : Nat, va_Z "java/util/ArrayList" "DEFAULTCAPACITY_EMPTY_ELEMENTDATA" "[Ljava/lang/Object;" (.ref t) A s s.heap ∧ va_T (.object "java/lang/Object") t 0 (fun _ => .null) A s s.heap := z_sta0 (z_tn2 50 hts rfl) (z_tn1 13 hts rfl) (z_fm 5 hgv rfl) (z_fm 7 hgv rfl) hA
set_option maxRecDepth 20000 in
theorem z_eCS (hts : ∀ x ∈ lw_tbl, x.before args s = true) (hgv : (Jvm.Cond.and given_1 narrow_1).before args s = true) (hA : ∀ a : Nat, a < s.heap.size → ¬ A a) : va_Z "java/lang/String" "COMPACT_STRINGS" "Z" (.int 1) A s s.heap := va_Zof (z_tn3 68 hts rfl) (z_tn1 15 hts rfl) (va_eqt (z_fm 8 hgv rfl)) hA
set_option maxRecDepth 20000 in
theorem z_eUS (hts : ∀ x ∈ lw_tbl, x.before args s = true) (hgv : (Jvm.Cond.and given_1 narrow_1).before args s = true) (hA : ∀ a : Nat, a < s.heap.size → ¬ A a) : vx_Zq Bundle.tN "UNASSIGNED_STACK" Bundle.steD A s s.heap := vx_Zqof (z_tn3 168 hts rfl) (z_tn1 21 hts rfl) (z_fm 13 hgv rfl) hA
set_option maxRecDepth 20000 in
theorem z_eSS (hts : ∀ x ∈ lw_tbl, x.before args s = true) (hgv : (Jvm.Cond.and given_1 narrow_1).before args s = true) (hA : ∀ a : Nat, a < s.heap.size → ¬ A a) : vx_Zq Bundle.tN "SUPPRESSED_SENTINEL" Bundle.listD A s s.heap := vx_Zqof (z_tn3 170 hts rfl) (z_tn1 21 hts rfl) (z_fm 14 hgv rfl) hA
set_option maxRecDepth 20000 in
theorem z_eS0 (hts : ∀ x ∈ lw_tbl, x.before args s = true) (hgv : (Jvm.Cond.and given_1 narrow_1).before args s = true) (hA : ∀ a : Nat, a < s.heap.size → ¬ A a) : ∃ a v : Nat, vk_S 1 [(z_by 0).length] [z_by 0] (fun _ => a) (fun _ => v) A s s.heap ∧ vk_R "IronpourModel" 95 (z_tx 0) a s ∧ (Term.string "IronpourModel" 95).eval args s none [] s = some (.ref a) := z_stc (len := (z_by 0).length) (byt := z_by 0) (by decide) (z_fm 1615 hgv rfl) (z_fm 1616 hgv rfl) (z_fm 1617 hgv rfl) (z_fm 1618 hgv rfl) (fun j hj => match j, hj with | 0, _ => (z_fm 1619 hgv rfl) | 1, _ => (z_fm 1620 hgv rfl) | 2, _ => (z_fm 1621 hgv rfl) | 3, _ => (z_fm 1622 hgv rfl) | 4, _ => (z_fm 1623 hgv rfl) | 5, _ => (z_fm 1624 hgv rfl) | j + 6, hj => absurd (show j + 6 < 6 from hj) (by omega)) hA (z_tn7 191 hts rfl)
set_option maxRecDepth 20000 in
theorem z_eO0 (hts : ∀ x ∈ lw_tbl, x.before args s = true) (hgv : (Jvm.Cond.and given_1 narrow_1).before args s = true) (hA : ∀ a : Nat, a < s.heap.size → ¬ A a) {a : Nat} (h : (Term.string "IronpourModel" 95).eval args s none [] s = some (.ref a)) : vk_R "Ironpour" 81 (z_tx 0) a s := z_sre (z_fm 1625 hgv rfl) h (z_tn3 54 hts rfl)
set_option maxRecDepth 20000 in
theorem z_eS1 (hts : ∀ x ∈ lw_tbl, x.before args s = true) (hgv : (Jvm.Cond.and given_1 narrow_1).before args s = true) (hA : ∀ a : Nat, a < s.heap.size → ¬ A a) : ∃ a v : Nat, vk_S 1 [(z_by 1).length] [z_by 1] (fun _ => a) (fun _ => v) A s s.heap ∧ vk_R "IronpourModel" 234 (z_tx 1) a s ∧ (Term.string "IronpourModel" 234).eval args s none [] s = some (.ref a) := z_stc (len := (z_by 1).length) (byt := z_by 1) (by decide) (z_fm 1637 hgv rfl) (z_fm 1638 hgv rfl) (z_fm 1639 hgv rfl) (z_fm 1640 hgv rfl) (fun j hj => match j, hj with | 0, _ => (z_fm 1641 hgv rfl) | 1, _ => (z_fm 1642 hgv rfl) | 2, _ => (z_fm 1643 hgv rfl) | 3, _ => (z_fm 1644 hgv rfl) | 4, _ => (z_fm 1645 hgv rfl) | 5, _ => (z_fm 1646 hgv rfl) | j + 6, hj => absurd (show j + 6 < 6 from hj) (by omega)) hA (z_tn8 149 hts rfl)
set_option maxRecDepth 20000 in
theorem z_eO1 (hts : ∀ x ∈ lw_tbl, x.before args s = true) (hgv : (Jvm.Cond.and given_1 narrow_1).before args s = true) (hA : ∀ a : Nat, a < s.heap.size → ¬ A a) {a : Nat} (h : (Term.string "IronpourModel" 234).eval args s none [] s = some (.ref a)) : vk_R "Ironpour" 261 (z_tx 1) a s := z_sre (z_fm 1647 hgv rfl) h (z_tn5 22 hts rfl)
set_option maxRecDepth 20000 in
theorem z_eS2 (hts : ∀ x ∈ lw_tbl, x.before args s = true) (hgv : (Jvm.Cond.and given_1 narrow_1).before args s = true) (hA : ∀ a : Nat, a < s.heap.size → ¬ A a) : ∃ a v : Nat, vk_S 1 [(z_by 2).length] [z_by 2] (fun _ => a) (fun _ => v) A s s.heap ∧ vk_R "IronpourModel" 232 (z_tx 2) a s ∧ (Term.string "IronpourModel" 232).eval args s none [] s = some (.ref a) := z_stc (len := (z_by 2).length) (byt := z_by 2) (by decide) (z_fm 1648 hgv rfl) (z_fm 1649 hgv rfl) (z_fm 1650 hgv rfl) (z_fm 1651 hgv rfl) (fun j hj => match j, hj with | 0, _ => (z_fm 1652 hgv rfl) | 1, _ => (z_fm 1653 hgv rfl) | 2, _ => (z_fm 1654 hgv rfl) | 3, _ => (z_fm 1655 hgv rfl) | j + 4, hj => absurd (show j + 4 < 4 from hj) (by omega)) hA (z_tn8 165 hts rfl)
set_option maxRecDepth 20000 in
theorem z_eO2 (hts : ∀ x ∈ lw_tbl, x.before args s = true) (hgv : (Jvm.Cond.and given_1 narrow_1).before args s = true) (hA : ∀ a : Nat, a < s.heap.size → ¬ A a) {a : Nat} (h : (Term.string "IronpourModel" 232).eval args s none [] s = some (.ref a)) : vk_R "Ironpour" 519 (z_tx 2) a s := z_sre (z_fm 1656 hgv rfl) h (z_tn5 75 hts rfl)
set_option maxRecDepth 20000 in
theorem z_eS3 (hts : ∀ x ∈ lw_tbl, x.before args s = true) (hgv : (Jvm.Cond.and given_1 narrow_1).before args s = true) (hA : ∀ a : Nat, a < s.heap.size → ¬ A a) : ∃ a v : Nat, vk_S 1 [(z_by 3).length] [z_by 3] (fun _ => a) (fun _ => v) A s s.heap ∧ vk_R "IronpourModel" 267 (z_tx 3) a s ∧ (Term.string "IronpourModel" 267).eval args s none [] s = some (.ref a) := z_stc (len := (z_by 3).length) (byt := z_by 3) (by decide) (z_fm 1657 hgv rfl) (z_fm 1658 hgv rfl) (z_fm 1659 hgv rfl) (z_fm 1660 hgv rfl) (fun j hj => match j, hj with | 0, _ => (z_fm 1661 hgv rfl) | 1, _ => (z_fm 1662 hgv rfl) | 2, _ => (z_fm 1663 hgv rfl) | j + 3, hj => absurd (show j + 3 < 3 from hj) (by omega)) hA (z_tn8 192 hts rfl)
set_option maxRecDepth 20000 in
theorem z_eO3 (hts : ∀ x ∈ lw_tbl, x.before args s = true) (hgv : (Jvm.Cond.and given_1 narrow_1).before args s = true) (hA : ∀ a : Nat, a < s.heap.size → ¬ A a) {a : Nat} (h : (Term.string "IronpourModel" 267).eval args s none [] s = some (.ref a)) : vk_R "Ironpour" 355 (z_tx 3) a s := z_sre (z_fm 1664 hgv rfl) h (z_tn5 153 hts rfl)
set_option maxRecDepth 20000 in
theorem z_eS4 (hts : ∀ x ∈ lw_tbl, x.before args s = true) (hgv : (Jvm.Cond.and given_1 narrow_1).before args s = true) (hA : ∀ a : Nat, a < s.heap.size → ¬ A a) : ∃ a v : Nat, vk_S 1 [(z_by 4).length] [z_by 4] (fun _ => a) (fun _ => v) A s s.heap ∧ vk_R "IronpourModel" 279 (z_tx 4) a s ∧ (Term.string "IronpourModel" 279).eval args s none [] s = some (.ref a) := z_stc (len := (z_by 4).length) (byt := z_by 4) (by decide) (z_fm 1665 hgv rfl) (z_fm 1666 hgv rfl) (z_fm 1667 hgv rfl) (z_fm 1668 hgv rfl) (fun j hj => match j, hj with | 0, _ => (z_fm 1669 hgv rfl) | 1, _ => (z_fm 1670 hgv rfl) | 2, _ => (z_fm 1671 hgv rfl) | j + 3, hj => absurd (show j + 3 < 3 from hj) (by omega)) hA (z_tn8 219 hts rfl)
set_option maxRecDepth 20000 in
theorem z_eO4 (hts : ∀ x ∈ lw_tbl, x.before args s = true) (hgv : (Jvm.Cond.and given_1 narrow_1).before args s = true) (hA : ∀ a : Nat, a < s.heap.size → ¬ A a) {a : Nat} (h : (Term.string "IronpourModel" 279).eval args s none [] s = some (.ref a)) : vk_R "Ironpour" 380 (z_tx 4) a s := z_sre (z_fm 1672 hgv rfl) h (z_tn5 205 hts rfl)
set_option maxRecDepth 20000 in
theorem z_eS5 (hts : ∀ x ∈ lw_tbl, x.before args s = true) (hgv : (Jvm.Cond.and given_1 narrow_1).before args s = true) (hA : ∀ a : Nat, a < s.heap.size → ¬ A a) : ∃ a v : Nat, vk_S 1 [(z_by 5).length] [z_by 5] (fun _ => a) (fun _ => v) A s s.heap ∧ vk_R "IronpourModel" 203 (z_tx 5) a s ∧ (Term.string "IronpourModel" 203).eval args s none [] s = some (.ref a) := z_stc (len := (z_by 5).length) (byt := z_by 5) (by decide) (z_fm 1626 hgv rfl) (z_fm 1627 hgv rfl) (z_fm 1628 hgv rfl) (z_fm 1629 hgv rfl) (fun j hj => match j, hj with | 0, _ => (z_fm 1630 hgv rfl) | 1, _ => (z_fm 1631 hgv rfl) | 2, _ => (z_fm 1632 hgv rfl) | 3, _ => (z_fm 1633 hgv rfl) | 4, _ => (z_fm 1634 hgv rfl) | 5, _ => (z_fm 1635 hgv rfl) | 6, _ => (z_fm 1636 hgv rfl) | j + 7, hj => absurd (show j + 7 < 7 from hj) (by omega)) hA (z_tn8 115 hts rfl)
set_option maxRecDepth 20000 in
theorem z_eN (hts : ∀ x ∈ lw_tbl, x.before args s = true) (hgv : (Jvm.Cond.and given_1 narrow_1).before args s = true) (hA : ∀ a : Nat, a < s.heap.size → ¬ A a) : ∀ q ∈ z_ncL, va_Nc q.1 q.2 s := List.forall_mem_cons.mpr ⟨va_Nc.of (z_fm 55 hgv rfl), List.forall_mem_cons.mpr ⟨va_Nc.of (z_fm 56 hgv rfl), List.forall_mem_cons.mpr ⟨va_Nc.of (z_fm 57 hgv rfl), List.forall_mem_cons.mpr ⟨va_Nc.of (z_fm 58 hgv rfl), List.forall_mem_cons.mpr ⟨va_Nc.of (z_fm 59 hgv rfl), List.forall_mem_cons.mpr ⟨va_Nc.of (z_fm 62 hgv rfl), List.forall_mem_cons.mpr ⟨va_Nc.of (z_fm 75 hgv rfl), List.forall_mem_cons.mpr ⟨va_Nc.of (z_fm 76 hgv rfl), List.forall_mem_cons.mpr ⟨va_Nc.of (z_fm 77 hgv rfl), List.forall_mem_cons.mpr ⟨va_Nc.of (z_fm 78 hgv rfl), List.forall_mem_cons.mpr ⟨va_Nc.of (z_fm 81 hgv rfl), List.forall_mem_cons.mpr ⟨va_Nc.of (z_fm 94 hgv rfl), List.forall_mem_cons.mpr ⟨va_Nc.of (z_fm 95 hgv rfl), List.forall_mem_cons.mpr ⟨va_Nc.of (z_fm 96 hgv rfl), List.forall_mem_cons.mpr ⟨va_Nc.of (z_fm 97 hgv rfl), List.forall_mem_cons.mpr ⟨va_Nc.of (z_fm 98 hgv rfl), List.forall_mem_cons.mpr ⟨va_Nc.of (z_fm 101 hgv rfl), List.forall_mem_cons.mpr ⟨va_Nc.of (z_fm 114 hgv rfl), List.forall_mem_cons.mpr ⟨va_Nc.of (z_fm 115 hgv rfl), List.forall_mem_cons.mpr ⟨va_Nc.of (z_fm 116 hgv rfl), List.forall_mem_cons.mpr ⟨va_Nc.of (z_fm 117 hgv rfl), List.forall_mem_cons.mpr ⟨va_Nc.of (z_fm 118 hgv rfl), List.forall_mem_cons.mpr ⟨va_Nc.of (z_fm 121 hgv rfl), List.forall_mem_cons.mpr ⟨va_Nc.of (z_fm 134 hgv rfl), List.forall_mem_cons.mpr ⟨va_Nc.of (z_fm 135 hgv rfl), List.forall_mem_cons.mpr ⟨va_Nc.of (z_fm 136 hgv rfl), List.forall_mem_cons.mpr ⟨va_Nc.of (z_fm 137 hgv rfl), List.forall_mem_cons.mpr ⟨va_Nc.of (z_fm 138 hgv rfl), List.forall_mem_cons.mpr ⟨va_Nc.of (z_fm 141 hgv rfl), List.forall_mem_cons.mpr ⟨va_Nc.of (z_fm 154 hgv rfl), List.forall_mem_cons.mpr ⟨va_Nc.of (z_fm 155 hgv rfl), List.forall_mem_cons.mpr ⟨va_Nc.of (z_fm 156 hgv rfl), List.forall_mem_cons.mpr ⟨va_Nc.of (z_fm 157 hgv rfl), List.forall_mem_cons.mpr ⟨va_Nc.of (z_fm 158 hgv rfl), List.forall_mem_cons.mpr ⟨va_Nc.of (z_fm 159 hgv rfl), fun _ h => nomatch h⟩⟩⟩⟩⟩⟩⟩⟩⟩⟩⟩⟩⟩⟩⟩⟩⟩⟩⟩⟩⟩⟩⟩⟩⟩⟩⟩⟩⟩⟩⟩⟩⟩⟩⟩
theorem z_entry (hts : ∀ x ∈ lw_tbl, x.before args s = true) (hgv : (Jvm.Cond.and given_1 narrow_1).before args s = true) (hA : ∀ a : Nat, a < s.heap.size → ¬ A a) {b L : Nat} {xs : Nat → Int32} (hX : va_X b L xs s s.heap) (hb : b < s.heap.size) : ∃ g : zG, z_Env g A s s.heap ∧ g.2.2 40 = b ∧ g.2.2 41 = L := by
  obtain ⟨D, hK⟩ := z_eK hts
  obtain ⟨cA, hT⟩ := z_eT hts
  obtain ⟨p0, hp0⟩ := z_ePIG hts hgv hA
  obtain ⟨p1, hp1⟩ := z_eSCRAP hts hgv hA
  obtain ⟨p2, hp2⟩ := z_eFERROSILICON hts hgv hA
  obtain ⟨p3, hp3⟩ := z_eCOKE hts hgv hA
  obtain ⟨p4, hp4⟩ := z_eDC hts hgv hA
  obtain ⟨s0, v0, hS0, hR0, hV0⟩ := z_eS0 hts hgv hA
  obtain ⟨s1, v1, hS1, hR1, hV1⟩ := z_eS1 hts hgv hA
  obtain ⟨s2, v2, hS2, hR2, hV2⟩ := z_eS2 hts hgv hA
  obtain ⟨s3, v3, hS3, hR3, hV3⟩ := z_eS3 hts hgv hA
  obtain ⟨s4, v4, hS4, hR4, hV4⟩ := z_eS4 hts hgv hA
  obtain ⟨s5, v5, hS5, hR5, hV5⟩ := z_eS5 hts hgv hA
  obtain ⟨mi, hM⟩ := va_Mi.of (C := "[Ljava/lang/Object;") (z_fm 162 hgv rfl)
  refine ⟨(D, cA, z_ad [p0, p1, p2, p3, p4, s0, s1, s2, s3, s4, s5, 0, 0, 0, 0, 0, 0, 0, 0, 0, v0, v1, v2, v3, v4, v5, 0, 0, 0, 0, 0, 0, 0, 0, 0, 0, 0, 0, 0, 0, b, L, mi] (fun j => (xs j).toBitVec.toNat)), ⟨⟨hK, hT⟩, z_eUS hts hgv hA, z_eSS hts hgv hA, fun x hx => va_any (z_isN_t (List.mem_filter.mp hx).2) (hts x (List.mem_filter.mp hx).1), fun own k tx h => z_srAll (hts _ h), ?_⟩, rfl, rfl⟩
  refine ⟨fun i hi => match i, hi with | 0, _ => hp0 | 1, _ => hp1 | 2, _ => hp2 | 3, _ => hp3 | i + 4, hi => absurd hi (by omega), hp4, fun i hi => match i, hi with | 0, _ => hS0 | 1, _ => hS1 | 2, _ => hS2 | 3, _ => hS3 | 4, _ => hS4 | 5, _ => hS5 | i + 6, hi => absurd hi (by omega), List.forall_mem_cons.mpr ⟨z_eO1 hts hgv hA hV1, List.forall_mem_cons.mpr ⟨z_eO3 hts hgv hA hV3, List.forall_mem_cons.mpr ⟨z_eO4 hts hgv hA hV4, List.forall_mem_cons.mpr ⟨z_eO2 hts hgv hA hV2, List.forall_mem_cons.mpr ⟨z_eO0 hts hgv hA hV0, List.forall_mem_cons.mpr ⟨hR5, List.forall_mem_cons.mpr ⟨hR2, List.forall_mem_cons.mpr ⟨hR1, List.forall_mem_cons.mpr ⟨hR3, List.forall_mem_cons.mpr ⟨hR4, List.forall_mem_cons.mpr ⟨hR0, fun _ h => nomatch h⟩⟩⟩⟩⟩⟩⟩⟩⟩⟩⟩, z_eCS hts hgv hA, z_eN hts hgv hA, va_AO.of (z_tn6 87 hts rfl), hM, ?_, hb, hA b hb⟩
  have e : (fun j => Int32.ofNat (z_ad [p0, p1, p2, p3, p4, s0, s1, s2, s3, s4, s5, 0, 0, 0, 0, 0, 0, 0, 0, 0, v0, v1, v2, v3, v4, v5, 0, 0, 0, 0, 0, 0, 0, 0, 0, 0, 0, 0, 0, 0, b, L, mi] (fun j => (xs j).toBitVec.toNat) (100 + j))) = xs := funext fun j => by rw [z_ad_h]; exact z_i32 _
  show va_X b L (fun j => Int32.ofNat (z_ad [p0, p1, p2, p3, p4, s0, s1, s2, s3, s4, s5, 0, 0, 0, 0, 0, 0, 0, 0, 0, v0, v1, v2, v3, v4, v5, 0, 0, 0, 0, 0, 0, 0, 0, 0, 0, 0, 0, 0, 0, b, L, mi] (fun j => (xs j).toBitVec.toNat) (100 + j))) s s.heap
  rw [e]
  exact hX
end
