section
theorem y_ofM {g : zG} {M : zM} {args : List Value} {w : zW} {Ψ : zO → zW → Prop} {mc ms : Nat} (hp : plainName M.1.cls = true) (hh : M.2.2.2.2.2.2 = []) (hn : (lg_sl args).length ≤ M.2.2.1) (k : DW g M Ψ w 0 (lv_args 0 args) [] mc ms) : z_Met g M args w Ψ mc ms := by
  intro l ws sz hlt hR
  refine vx_ofW (cc := M.2.1) (maxL := M.2.2.1) (ret := M.2.2.2.1) (ws' := z_gw) hp (by rw [z_ws, z_cd, if_pos hh]) ?_
  intro p e s m a below meth c s₁ B hml hx hv
  obtain ⟨rfl, hsz, hP, hD0, hE⟩ := hv
  subst hsz
  have hts := atoms_spec (ws := z_ws M) B.pre
  have hA : ∀ q, s.heap.size ≤ q → va_A ws s.heap.size q := fun q h => Or.inr h
  have hl := lv_entry args hn
  rw [lg_entry_eq]
  refine k p l e (z_rm M mc ms) s m args.toArray below meth c (va_A ws s.heap.size) mc ms s.heap [] 0 0 _ ws ⟨⟨B.exec, B.bytes, hml, findClass_of_methodNamed B.named, fun w h => hts w (List.mem_cons_of_mem _ h)⟩, ⟨hlt, hE, hA⟩, ⟨Nat.le_refl _, Nat.le_refl _, Nat.le_refl _, Nat.le_refl _⟩, ⟨B.returns, B.notSynchronized, ?_, (name_of_methodNamed B.named B.method).1⟩⟩ ⟨hP, hD0.self, va_S.rf, hR, hl, by omega, by omega⟩
  rw [hh]
  cases h : c.exceptionTable.toList with
  | nil => rfl
  | cons z zs => exact (hx z (by rw [h]; exact List.mem_cons_self)).elim
def CP (g : zG) (M : zM) (args : List Value) (cs : zC) (P : zW → Prop) (Φ : zO → zC → Prop) (mc ms : Nat) : Prop := ∀ w, z_I w w cs.length cs → P w → z_Met g M args w (z_PF Φ w cs.length) mc ms
theorem CP.at {g : zG} {M : zM} {args : List Value} {cs : zC} {P : zW → Prop} {Φ : zO → zC → Prop} {mc ms : Nat} {w : zW} (h : CP g M args cs P Φ mc ms) (hI : z_I w w cs.length cs) (hP : P w) : zMB g M args w (z_PF Φ w cs.length) mc ms := ⟨mc, ms, Nat.le_refl _, Nat.le_refl _, h w hI hP⟩
theorem y_go {g : zG} {M : zM} {Ψ : zO → zW → Prop} {w0 w : zW} {n pc : Nat} {lv : List (Nat × Value)} {st : List Value} {cs : zC} {kc ks : Nat} (hI : z_I w0 w n cs) (k : DU g M Ψ w0 n pc lv st cs kc ks) : DW g M Ψ w pc lv st kc ks := fun p l e R s m args below meth c A mc ms H locs cells slots ls ws C T => k w p l e R s m args below meth c A mc ms H locs cells slots ls ws hI C T
theorem z_I.kd {w : zW} {cs : zC} (h : ∀ p ∈ cs, w p.1 = some p.2) (hn : (cs.map (fun p => z_kd p.2)).Nodup) : z_I w w cs.length cs := by
  refine ⟨h, fun _ _ => rfl, ?_, fun p hp => ?_, Nat.le_refl _⟩
  · refine List.pairwise_iff_getElem.mpr fun i j hi hj hij e => ?_
    rw [List.length_map] at hi hj
    rw [List.getElem_map, List.getElem_map] at e
    have h1 := h _ (List.getElem_mem hi)
    have h2 := h _ (List.getElem_mem hj)
    rw [e, h2] at h1
    have h3 := List.pairwise_iff_getElem.mp hn i j (by simpa using hi) (by simpa using hj) hij
    rw [List.getElem_map, List.getElem_map] at h3
    exact h3 (congrArg z_kd (Option.some.inj h1)).symm
  · rw [List.drop_of_length_le (Nat.le_refl _)] at hp
    cases hp
theorem z_I.mk {w : zW} {cs : zC} (h : ∀ p ∈ cs, w p.1 = some p.2) (hn : (cs.map Prod.fst).Nodup) : z_I w w cs.length cs := by
  refine ⟨h, fun _ _ => rfl, hn, fun p hp => ?_, Nat.le_refl _⟩
  rw [List.drop_of_length_le (Nat.le_refl _)] at hp
  cases hp
def z_obs (w : zW) (m : Nat) (f : Nat → Option Nat) (sp : Nat) : Prop := ∀ i, i < m → ∀ y, f (sp + i) = some y → ∃ ek, w y = some ek ∧ z_ob ek
theorem z_ob5 {ek : zE} (h : z_ob ek) : (z_kd ek).1 = 1 ∨ (z_kd ek).2.1 < 5 := by
  match ek, h with
  | .inl a, h => exact Or.inr h.1
  | .inr o, h => exact Or.inl rfl
section
variable {g : zG} {M : zM} {Ψ : zO → zW → Prop} {w0 : zW} {n pc : Nat} {lv lv' : List (Nat × Value)} {st : List Value} {cs cs' : zC} {kc ks : Nat}
set_option maxHeartbeats 1000000 in
theorem yp_callS {M2 : zM} {idx nA : Nat} {As rest st0 : List Value} {csC : zC} {is : List Nat} {Φ2 : zO → zC → Prop} {mc2 ms2 : Nat} (hl : Cond.methodLink M.1.cls idx M2.1 ∈ z_gw) (hm2 : Cond.static M2.1 ∈ z_gw) (ho : z_ok M M2 nA) (hd : decode M.2.1 pc = .ok (.invokestatic idx, 3)) (hM : ∀ w, z_I w0 w n cs → z_I w w csC.length csC → z_Met g M2 As w (z_PF Φ2 w csC.length) mc2 ms2) (hA : As.length = nA) (hst : As.reverse ++ rest = st0) (hr : (rest.map fun v => v.category).sum ≤ 8) (hs : is.map (fun i => cs[i]?) = csC.map some) (hn : is.Nodup) (h1 : mc2 ≤ kc) (h2 : ms2 ≤ ks) (kx : ∀ (E : String) (cs1 : zC), Φ2 (.inr E) cs1 → (cs1.map Prod.fst).take csC.length = csC.map Prod.fst ∧ ∀ w : zW, z_I w0 w n (z_rep cs is cs1 ++ cs1.drop is.length) → Ψ (.inr E) w) (kk : ∀ (v : Option Value) (cs1 : zC), Φ2 (.inl v) cs1 → (cs1.map Prod.fst).take csC.length = csC.map Prod.fst ∧ DU g M Ψ w0 n (pc + 3) lv (v.toList ++ rest) (z_rep cs is cs1 ++ cs1.drop is.length) (kc - mc2) (ks - ms2)) : DU g M Ψ w0 n pc lv st0 cs kc ks := by
  intro w p l e R s m args below meth c A mc ms H locs cells slots ls ws I C T
  subst hst
  obtain ⟨o1, o2, o3, o4, o5, o6⟩ := ho
  have b1 := C.2.2.1.1
  have b2 := C.2.2.1.2.1
  have b3 := C.2.2.1.2.2.1
  have b4 := C.2.2.1.2.2.2
  have b5 := T.2.2.2.2.2.1
  have b6 := T.2.2.2.2.2.2
  have hI : z_I w w csC.length csC := I.sub hs hn
  have hm := hM w I hI l ws H.size C.2.1.1 T.2.2.2.1
  refine y_aft (As := As) I C T o6 hs hn h1 h2 (vx_runS (As := As) ⟨C.1.1, C.1.2.1, C.1.2.2.1, C.1.2.2.2.1, C.1.2.2.2.2⟩ hm (va_cwS nA C.1.2.2.2.2 (z_good (ws := va_wsS M.1.cls idx M2.1 (z_ws M2)) (fun x hx => (List.mem_append.mp hx).elim (fun hx => by simp only [List.mem_cons, List.not_mem_nil, or_false] at hx; rcases hx with rfl | rfl | rfl <;> assumption) (fun hx => z_wsg o1 x hx))) (z_hw o2) rfl rfl o3 ⟨Nat.le_trans o4.1 b1, Nat.le_trans o4.2 b2⟩) ⟨z_blind, fun U hU hW => z_pre C.2.1.2.1 C.2.1.2.2 T.1 T.2.1 T.2.2.1 hU hW⟩ rfl hA T.2.2.2.2.1.1 rfl (lv_room hr) hd ⟨by omega, by omega⟩) rfl kx kk
set_option maxHeartbeats 1000000 in
theorem yp_callV {M2 : zM} {idx nA : Nat} {As rest st0 : List Value} {csC : zC} {is : List Nat} {Φ2 : zO → zC → Prop} {mc2 ms2 : Nat} {q0 a ci : Nat} {fs : List Value} {F : u_T} {N : Nat} (hcl : vwCl[ci]? = some (M2.1.cls, F, N)) (hq : cs[q0]? = some (a, .inr (ci, fs))) (hl : Cond.methodLink M.1.cls idx M2.1 ∈ z_gw) (hm2 : Cond.instanceMethod M2.1 ∈ z_gw) (hm3 : Cond.selects M2.1.cls M2.1 M2.1 ∈ z_gw) (ho : z_ok M M2 nA) (hd : decode M.2.1 pc = .ok (.invokevirtual idx, 3)) (hM : ∀ w, z_I w0 w n cs → z_I w w csC.length csC → z_Met g M2 (.ref a :: As) w (z_PF Φ2 w csC.length) mc2 ms2) (hA : As.length = nA) (hst : As.reverse ++ .ref a :: rest = st0) (hr : (rest.map fun v => v.category).sum ≤ 8) (hs : is.map (fun i => cs[i]?) = csC.map some) (hn : is.Nodup) (h1 : mc2 ≤ kc) (h2 : ms2 ≤ ks) (kx : ∀ (E : String) (cs1 : zC), Φ2 (.inr E) cs1 → (cs1.map Prod.fst).take csC.length = csC.map Prod.fst ∧ ∀ w : zW, z_I w0 w n (z_rep cs is cs1 ++ cs1.drop is.length) → Ψ (.inr E) w) (kk : ∀ (v : Option Value) (cs1 : zC), Φ2 (.inl v) cs1 → (cs1.map Prod.fst).take csC.length = csC.map Prod.fst ∧ DU g M Ψ w0 n (pc + 3) lv (v.toList ++ rest) (z_rep cs is cs1 ++ cs1.drop is.length) (kc - mc2) (ks - ms2)) : DU g M Ψ w0 n pc lv st0 cs kc ks := by
  intro w p l e R s m args below meth c A mc ms H locs cells slots ls ws I C T
  subst hst
  obtain ⟨o1, o2, o3, o4, o5, o6⟩ := ho
  have b1 := C.2.2.1.1
  have b2 := C.2.2.1.2.1
  have b3 := C.2.2.1.2.2.1
  have b4 := C.2.2.1.2.2.2
  have b5 := T.2.2.2.2.2.1
  have b6 := T.2.2.2.2.2.2
  have hI : z_I w w csC.length csC := I.sub hs hn
  have hm := hM w I hI l ws H.size C.2.1.1 T.2.2.2.1
  obtain ⟨q9, hq9⟩ := T.2.2.2.1 a _ (I.at hq)
  refine y_aft (As := As) I C T o6 hs hn h1 h2 (vx_runV (As := As) ⟨C.1.1, C.1.2.1, C.1.2.2.1, C.1.2.2.2.1, C.1.2.2.2.2⟩ hm (cwV (C := M2.1.cls) nA C.1.2.2.2.2 (z_good (ws := wsV M.1.cls idx M2.1.cls M2.1 (z_ws M2)) (fun x hx => (List.mem_append.mp hx).elim (fun hx => by simp only [List.mem_cons, List.not_mem_nil, or_false] at hx; rcases hx with rfl | rfl | rfl | rfl <;> assumption) (fun hx => z_wsg o1 x hx))) (z_hw o2) rfl rfl ⟨rfl, o3⟩ ⟨Nat.le_trans o4.1 b1, Nat.le_trans o4.2 b2⟩) ⟨z_blind, va_recv C.2.1.2.1.1 T.1 hcl hq9, fun U hU hW => z_pre C.2.1.2.1 C.2.1.2.2 T.1 T.2.1 T.2.2.1 hU hW⟩ rfl hA T.2.2.2.2.1.1 rfl (lv_room hr) hd ⟨by omega, by omega⟩) rfl kx kk
set_option maxHeartbeats 1000000 in
theorem yw_callVL {M2 : zM} {idx nA : Nat} {As rest st0 : List Value} {Ψ2 : zW → zO → zW → Prop} {mc2 ms2 : Nat} {a ci : Nat} {F : u_T} {N : Nat} (hcl : vwCl[ci]? = some (M2.1.cls, F, N)) (hq : ∀ w, z_I w0 w n cs → ∃ fs : List Value, w a = some (.inr (ci, fs))) (hl : Cond.methodLink M.1.cls idx M2.1 ∈ z_gw) (hm2 : Cond.instanceMethod M2.1 ∈ z_gw) (hm3 : Cond.selects M2.1.cls M2.1 M2.1 ∈ z_gw) (ho : z_ok M M2 nA) (hd : decode M.2.1 pc = .ok (.invokevirtual idx, 3)) (hM : ∀ w, z_I w0 w n cs → zMB g M2 (.ref a :: As) w (Ψ2 w) mc2 ms2) (hA : As.length = nA) (hst : As.reverse ++ .ref a :: rest = st0) (hr : (rest.map fun v => v.category).sum ≤ 8) (h1 : mc2 ≤ kc) (h2 : ms2 ≤ ks) (kx : ∀ w, z_I w0 w n cs → ∀ (E : String) (w1 : zW), Ψ2 w (.inr E) w1 → Ψ (.inr E) w1) (kk : ∀ w, z_I w0 w n cs → ∀ (v : Option Value) (w1 : zW), Ψ2 w (.inl v) w1 → DW g M Ψ w1 (pc + 3) lv (v.toList ++ rest) (kc - mc2) (ks - ms2)) : DU g M Ψ w0 n pc lv st0 cs kc ks := by
  intro w p l e R s m args below meth c A mc ms H locs cells slots ls ws I C T
  subst hst
  obtain ⟨o1, o2, o3, o4, o5, o6⟩ := ho
  have b1 := C.2.2.1.1
  have b2 := C.2.2.1.2.1
  have b3 := C.2.2.1.2.2.1
  have b4 := C.2.2.1.2.2.2
  have b5 := T.2.2.2.2.2.1
  have b6 := T.2.2.2.2.2.2
  obtain ⟨mc3, ms3, d1, d2, d3⟩ := hM w I
  have hm := d3 l ws H.size C.2.1.1 T.2.2.2.1
  obtain ⟨fs, hfs⟩ := hq w I
  obtain ⟨q9, hq9⟩ := T.2.2.2.1 a _ hfs
  refine yw_aft (As := As) C T o6 d1 d2 h1 h2 (vx_runV (As := As) ⟨C.1.1, C.1.2.1, C.1.2.2.1, C.1.2.2.2.1, C.1.2.2.2.2⟩ hm (cwV (C := M2.1.cls) nA C.1.2.2.2.2 (z_good (ws := wsV M.1.cls idx M2.1.cls M2.1 (z_ws M2)) (fun x hx => (List.mem_append.mp hx).elim (fun hx => by simp only [List.mem_cons, List.not_mem_nil, or_false] at hx; rcases hx with rfl | rfl | rfl | rfl <;> assumption) (fun hx => z_wsg o1 x hx))) (z_hw o2) rfl rfl ⟨rfl, o3⟩ ⟨Nat.le_trans o4.1 b1, Nat.le_trans o4.2 b2⟩) ⟨z_blind, va_recv C.2.1.2.1.1 T.1 hcl hq9, fun U hU hW => z_pre C.2.1.2.1 C.2.1.2.2 T.1 T.2.1 T.2.2.1 hU hW⟩ rfl hA T.2.2.2.2.1.1 rfl (lv_room hr) hd ⟨by omega, by omega⟩) rfl (kx w I) (kk w I)
theorem y_acmp_ne {x y : Nat} {off : Int} {tgt : Nat} (hd : decode M.2.1 pc = .ok (.if_acmp .ne off, 3)) (ht : (pc : Int) + off = (tgt : Int)) (kt : ¬ x = y → DU g M Ψ w0 n tgt lv st cs kc ks) (kf : x = y → DU g M Ψ w0 n (pc + 3) lv st cs kc ks) : DU g M Ψ w0 n pc lv (.ref y :: .ref x :: st) cs kc ks :=
  fun w p l e R s m args below meth c A mc ms H locs cells slots ls ws I C T => lv_acmp_ne (rx := some x) (ry := some y) C.1.1 C.1.2.1 hd ht (fun h => kt (fun e9 => h (congrArg some e9)) w p l e R s m args below meth c A mc ms H locs cells slots ls ws I C T) (fun h => kf (Option.some.inj h) w p l e R s m args below meth c A mc ms H locs cells slots ls ws I C T)
theorem y_ldcM {idx : Nat} (hl : Cond.classLink M.1.cls idx "[Ljava/lang/Object;" ∈ z_gw) (hd : decode M.2.1 pc = .ok (.ldc idx, 2)) (k : DU g M Ψ w0 n (pc + 2) lv (.ref (g.2.2 42) :: st) cs kc ks) : DU g M Ψ w0 n pc lv st cs kc ks := by
  intro w p l e R s m args below meth c A mc ms H locs cells slots ls ws I C T
  exact va_ldcM C.1.1 C.1.2.1 C.1.2.2.2.1 (C.1.2.2.2.2 _ hl) C.2.1.2.1.2.2.2.2.2.2.2.2.2.2.2.2.1 hd (k w p l e R s m args below meth c A mc ms H locs cells slots ls ws I C T)
theorem y_getC {q0 a N idx : Nat} {f : Nat → Option Nat} (hl : Cond.methodLink M.1.cls idx ⟨"java/lang/Object", "getClass", "()Ljava/lang/Class;"⟩ ∈ z_gw) (h2 : Cond.declares ⟨"java/lang/Object", "getClass", "()Ljava/lang/Class;"⟩ ∈ z_nw) (h3 : Cond.selects "[Ljava/lang/Object;" ⟨"java/lang/Object", "getClass", "()Ljava/lang/Class;"⟩ ⟨"java/lang/Object", "getClass", "()Ljava/lang/Class;"⟩ ∈ z_gw) (h4 : Cond.instanceMethod ⟨"java/lang/Object", "getClass", "()Ljava/lang/Class;"⟩ ∈ z_gw) (h5 : Cond.native ⟨"java/lang/Object", "getClass", "()Ljava/lang/Class;"⟩ ∈ z_gw) (hd : decode M.2.1 pc = .ok (.invokevirtual idx, 3)) (hc : cs[q0]? = some (a, .inl (5, N, .inr (.inr (.inr (.inr f)))))) (hF : 1 ≤ M.2.2.2.2.1) (hL : 40 ≤ M.2.2.2.2.2.1) (hr : (st.map fun v => v.category).sum ≤ 8) (k : DU g M Ψ w0 n (pc + 3) lv (.ref (g.2.2 42) :: st) cs kc ks) : DU g M Ψ w0 n pc lv (.ref a :: st) cs kc ks := by
  intro w p l e R s m args below meth c A mc ms H locs cells slots ls ws I C T
  have b1 := C.2.2.1.1
  have b2 := C.2.2.1.2.1
  obtain ⟨q, hq⟩ := T.2.2.2.1 a _ (I.at hc)
  exact va_getC C.1.1 C.1.2.1 (C.1.2.2.1.trans T.2.2.2.2.1.1.symm) C.1.2.2.2.1 (C.1.2.2.2.2 _ hl) ((C.2.1.2.1.2.2.2.1 _ h2).use rfl) (C.1.2.2.2.2 _ h3) (C.1.2.2.2.2 _ h4) (C.1.2.2.2.2 _ h5) C.2.1.2.1.2.2.2.2.2.2.2.2.2.2.2.2.1 ⟨_, T.1 q _ hq, rfl, va_nmO (C.2.1.2.1.1.2 5 (g.2.1 5, .object "java/lang/Object") rfl).2 rfl⟩ (by omega) (by omega) hd (k w p l e R s m args below meth c A mc ms H locs cells slots ls ws I C T)
theorem y_aastN {q0 a N : Nat} {f f' : Nat → Option Nat} {i : Int32} (hd : decode M.2.1 pc = .ok (.aastore, 1)) (hc : cs[q0]? = some (a, .inl (5, N, .inr (.inr (.inr (.inr f)))))) (hin : vp_in i N) (hf : va_up f i.toNatClampNeg none = f') (hcs : cs.set q0 (a, .inl (5, N, .inr (.inr (.inr (.inr f'))))) = cs') (k : DU g M Ψ w0 n (pc + 1) lv st cs' kc ks) : DU g M Ψ w0 n pc lv (.null :: .int i :: .ref a :: st) cs kc ks := by
  intro w p l e R s m args below meth c A mc ms H locs cells slots ls ws I C T
  subst hcs
  subst hf
  obtain ⟨q, hq⟩ := T.2.2.2.1 a _ (I.at hc)
  exact va_astqN C.1.1 C.1.2.1 C.2.1.2.1.1 T.1 T.2.1 T.2.2.1 q 5 hq rfl hin hd (fun H1 locs1 a1 a2 a3 => k _ p l e R s m args below meth c A mc ms H1 locs1 cells slots ls _ (I.set hc) C ⟨a1, a2, a3, T.2.2.2.1.set (e := .inl (5, N, .inr (.inr (.inr (.inr (va_up f i.toNatClampNeg none)))))) T.2.1 hq, T.2.2.2.2⟩)
theorem y_copyq {q0 q1 a0 a N0 N1 j : Nat} {f g' f' : Nat → Option Nat} {sp dp x : Int32} (hl : Cond.methodLink M.1.cls j arraycopyName ∈ z_gw) (w1 : Cond.native arraycopyName ∈ z_gw) (w2 : Cond.static arraycopyName ∈ z_gw) (w3 : Cond.initialized "java/lang/System" ∈ z_gw) (hd : decode M.2.1 pc = .ok (.invokestatic j, 3)) (hc0 : cs[q0]? = some (a0, .inl (5, N0, .inr (.inr (.inr (.inr f)))))) (hc1 : cs[q1]? = some (a, .inl (5, N1, .inr (.inr (.inr (.inr g')))))) (h1 : ¬ sp < 0) (h2 : ¬ dp < 0) (h3 : ¬ x < 0) (h4 : sp.toNatClampNeg + x.toNatClampNeg ≤ N0) (h5 : dp.toNatClampNeg + x.toNatClampNeg ≤ N1) (hel : ∀ w, z_I w0 w n cs → z_obs w x.toNatClampNeg f sp.toNatClampNeg) (hf : va_cpy f g' sp.toNatClampNeg dp.toNatClampNeg x.toNatClampNeg = f') (hcs : cs.set q1 (a, .inl (5, N1, .inr (.inr (.inr (.inr f'))))) = cs') (hF : 1 ≤ M.2.2.2.2.1) (hL : 8 + (nativeFrameWords "java/lang/System" "arraycopy" 5 + 11) ≤ M.2.2.2.2.2.1) (hr : (st.map fun v => v.category).sum ≤ 8) (k : DU g M Ψ w0 n (pc + 3) lv st cs' kc ks) : DU g M Ψ w0 n pc lv (.int x :: .int dp :: .ref a :: .int sp :: .ref a0 :: st) cs kc ks := by
  intro w p l e R s m9 args below meth c A mc ms H locs cells slots ls ws I C T
  subst hcs
  subst hf
  obtain ⟨q, hq⟩ := T.2.2.2.1 a0 _ (I.at hc0)
  obtain ⟨q2, hq2⟩ := T.2.2.2.1 a _ (I.at hc1)
  have b1 := C.2.2.1.1
  have b2 := C.2.2.1.2.1
  refine va_copyM C.1.1 C.1.2.1 (C.1.2.2.1.trans T.2.2.2.2.1.1.symm) C.1.2.2.2.1 (C.1.2.2.2.2 _ hl) (C.1.2.2.2.2 _ w1) (C.1.2.2.2.2 _ w2) (C.1.2.2.2.2 _ w3) C.2.1.2.1.1 T.1 T.2.1 T.2.2.1 q q2 5 5 hq hq2 rfl rfl h1 h2 h3 h4 h5 (fun i hi y hy => ?_) (by omega) (by omega) hd (fun H1 locs1 a1 a2 a3 => ?_)
  · obtain ⟨ek, e1, e2⟩ := hel w I i hi y hy
    exact zy_any C.2.1.2.1.1 C.2.1.2.1.2.2.2.1 T.1 T.2.2.2.1 e1 e2
  · exact k _ p l e R s m9 args below meth c A mc ms H1 locs1 cells slots ls _ (I.set hc1) C ⟨a1, a2, a3, T.2.2.2.1.set (e := .inl (5, N1, .inr (.inr (.inr (.inr (va_cpy f g' sp.toNatClampNeg dp.toNatClampNeg x.toNatClampNeg)))))) T.2.1 hq2, T.2.2.2.2⟩
end
theorem IVf.st2 {ad : Nat → Nat} {t t2 : zTT} {w w1 : zW} (h : IVf ad t w) {is L2 : List Nat} {cs1 : zC} {m : Nat} (h1 : z_I w w1 m cs1) (ha : (cs1.map Prod.fst).take m = is.map ad ++ L2) (hk : KDs ad t2 is cs1) (hb : ∀ i ∈ is, i < 71) (hn : ∀ q ∈ L2, z_nf ad q) (hs : ∀ i, i < 71 → i ∉ is → t2.1 i = t.1 i) : IVf ad t2 w1 := by
  refine ⟨h.1, fun i hi => ?_⟩
  by_cases hm : i ∈ is
  · obtain ⟨j, hj⟩ := List.getElem?_of_mem hm
    have e1 : ((cs1.map Prod.fst).take m)[j]? = some (ad i) := by
      rw [ha, List.getElem?_append_left (by rw [List.length_map]; exact (List.getElem?_eq_some_iff.mp hj).1), List.getElem?_map, hj]; rfl
    have hjm : j < m := by
      have := (List.getElem?_eq_some_iff.mp e1).1
      rw [List.length_take] at this
      omega
    rw [List.getElem?_take_of_lt hjm, List.getElem?_map] at e1
    cases hx : cs1[j]? with
    | none => rw [hx] at e1; cases e1
    | some x =>
      rw [hx] at e1
      have e2 : x.1 = ad i := Option.some.inj e1
      exact ⟨x.2, by rw [← e2]; exact h1.at hx, KDs.at is cs1 j i x hk hj hx⟩
  · obtain ⟨e, he, hd⟩ := h.2 i hi
    refine ⟨e, h1.ke ha (ad i) e (fun hq => ?_) he, hd.cg i _ hi (hs i hi hm)⟩
    rcases List.mem_append.mp hq with hq | hq
    · obtain ⟨j, hj, e9⟩ := List.mem_map.mp hq
      exact hm (h.1 j i (hb j hj) hi e9 ▸ hj)
    · exact hn _ hq i hi rfl
theorem IV.gen0 {g : zG} {ad : Nat → Nat} {t t2 : zTT} {u : zNN} {w w1 : zW} (h : IV g ad t u w) {is L2 : List Nat} {cs1 : zC} {m : Nat} (h1 : z_I w w1 m cs1) (ha : (cs1.map Prod.fst).take m = is.map ad ++ L2) (hk : KDs ad t2 is cs1) (hb : ∀ i ∈ is, i < 71) (hl : ∀ i ∈ is, i ∉ z_lx) (hn : ∀ q ∈ L2, z_nf ad q) (hs : ∀ i, i < 71 → i ∉ is → t2.1 i = t.1 i) (ht : tOK t → tOK t2) (hE : ∀ L, L < 7 → ∀ k, k < u.1 L → EL ad L w1 (u.2.2 L k) (t2.2 L k)) (hB : ∀ (q N : Nat) (f : Nat → Option Nat), z_nf ad q → w q = some (.inl (5, N, .inr (.inr (.inr (.inr f))))) → w1 q = some (.inl (5, N, .inr (.inr (.inr (.inr f)))))) : IV g ad t2 u w1 := by
  have hke := h1.ke ha
  refine ⟨h.1.st2 h1 ha hk hb hn hs, ⟨fun L hL => ?_, hE, h.2.1.2.2⟩, ht h.2.2⟩
  have hx : z_lx.getD L 0 < 71 ∧ z_lx.getD L 0 ∈ z_lx := (show ∀ L, L < 7 → z_lx.getD L 0 < 71 ∧ z_lx.getD L 0 ∈ z_lx by decide) L hL
  obtain ⟨md, dd, e1, e2⟩ := h.2.1.1 L hL
  have e1' : w1 (ad (z_lx.getD L 0)) = some (.inr (13, [.int md, .ref dd, .int (nI (u.1 L))])) := hke _ _ (fun h9 => by
    rcases List.mem_append.mp h9 with h9 | h9
    · obtain ⟨j, hj, e9⟩ := List.mem_map.mp h9
      have := h.1.1 j _ (hb j hj) hx.1 e9
      exact hl j hj (this ▸ hx.2)
    · exact hn _ h9 _ hx.1 rfl) e1
  refine ⟨md, dd, e1', ?_⟩
  rcases e2 with e2 | ⟨e2, N, f, e3, e4, e5, e6⟩
  · exact Or.inl e2
  · exact Or.inr ⟨e2, N, f, e3, e4, hB dd N f (h.1.n5 e5) e5, e6⟩
theorem z_smI {ad : Nat → Nat} {is L2 : List Nat} {w w1 : zW} {a : Nat} (hke : z_ke (fun q => q ∈ is.map ad ++ L2) w w1) (hb : ∀ i ∈ is, i < 71) (he : ∀ q ∈ L2, q = a ∨ ∃ e, w q = some e ∧ w1 q = some e) : ∀ q e, z_nf ad q → ¬ q = a → w q = some e → w1 q = some e := fun q e hq hqa hw => by
  by_cases hm : q ∈ L2
  · rcases he q hm with e9 | ⟨e1, a1, a2⟩
    · exact absurd e9 hqa
    · rw [hw] at a1
      cases a1
      exact a2
  · refine hke q e (fun h9 => ?_) hw
    rcases List.mem_append.mp h9 with h9 | h9
    · obtain ⟨j, hj, e9⟩ := List.mem_map.mp h9
      exact hq j (hb j hj) e9
    · exact hm h9
theorem IV.gen {g : zG} {ad : Nat → Nat} {t t2 : zTT} {u : zNN} {w w1 : zW} (h : IV g ad t u w) {is L2 : List Nat} {cs1 : zC} {m : Nat} (h1 : z_I w w1 m cs1) (ha : (cs1.map Prod.fst).take m = is.map ad ++ L2) (hk : KDs ad t2 is cs1) (hb : ∀ i ∈ is, i < 71) (hl : ∀ i ∈ is, i ∉ z_lx) (hn : ∀ q ∈ L2, z_nf ad q) (he : ∀ q ∈ L2, ∃ e, w q = some e ∧ w1 q = some e) (hs : ∀ i, i < 71 → i ∉ is → t2.1 i = t.1 i) (ht : tOK t → tOK t2) (ht2 : t2.2 = t.2) : IV g ad t2 u w1 := by
  have hke := h1.ke ha
  have hsim : ∀ q e, z_nf ad q → w q = some e → w1 q = some e := fun q e hq hw => by
    by_cases hm : q ∈ L2
    · obtain ⟨e1, a1, a2⟩ := he q hm
      rw [hw] at a1
      cases a1
      exact a2
    · refine hke q e (fun h9 => ?_) hw
      rcases List.mem_append.mp h9 with h9 | h9
      · obtain ⟨j, hj, e9⟩ := List.mem_map.mp h9
        exact hq j (hb j hj) e9
      · exact hm h9
  exact h.gen0 h1 ha hk hb hl hn hs ht (fun L hL k hk9 => by rw [ht2]; exact (h.2.1.2.1 L hL k hk9).ke3 (fun q e h0 h2 _ => hsim q e h0 h2)) (fun q N f h0 h2 => hsim q _ h0 h2)
def vup (V : Nat → Nat → zV) (M j : Nat) (v : zV) : Nat → Nat → zV := fun L k => if L = M ∧ k = j then v else V L k
theorem elk_inj : ∀ L, L < 7 → ∀ M, M < 7 → elk L = elk M → L = M := by decide
theorem IV.gen1 {g : zG} {ad : Nat → Nat} {t t2 : zTT} {u : zNN} {w w1 : zW} (h : IV g ad t u w) {M j : Nat} {v2 : zV} (hM : M < 7) (hj : j < u.1 M) (hT : M = 0 ∨ M = 1 ∨ M = 2 ∨ M = 4 ∨ M = 5) {is L2 : List Nat} {cs1 : zC} {m : Nat} (h1 : z_I w w1 m cs1) (ha : (cs1.map Prod.fst).take m = is.map ad ++ L2) (hk : KDs ad t2 is cs1) (hb : ∀ i ∈ is, i < 71) (hl : ∀ i ∈ is, i ∉ z_lx) (hn : ∀ q ∈ L2, z_nf ad q) (he : ∀ q ∈ L2, q = u.2.2 M j ∨ ∃ e, w q = some e ∧ w1 q = some e) (hs : ∀ i, i < 71 → i ∉ is → t2.1 i = t.1 i) (ht : tOK t → tOK t2) (hnew : EL ad M w1 (u.2.2 M j) v2) (ht2 : t2.2 = vup t.2 M j v2) : IV g ad t2 u w1 := by
  have hsim := z_smI (h1.ke ha) hb he
  obtain ⟨ea, hea, hta⟩ := (h.2.1.2.1 M hM j hj).tag
  have nt : ∀ e, w (u.2.2 M j) = some e → z_kd e = elk M := fun e q => by
    rw [hea] at q
    cases q
    exact hta
  refine h.gen0 h1 ha hk hb hl hn hs ht (fun L hL k hk9 => ?_) (fun q N f h0 h2 => hsim q _ h0 (fun e => ?_) h2)
  · rw [ht2]
    by_cases q : L = M ∧ k = j
    · obtain ⟨rfl, rfl⟩ := q
      rw [show vup t.2 L k v2 L k = v2 from if_pos ⟨rfl, rfl⟩]
      exact hnew
    · rw [show vup t.2 M j v2 L k = t.2 L k from if_neg q]
      refine (h.2.1.2.1 L hL k hk9).ke3 (fun q2 e h0 h2 h3 => hsim q2 e h0 (fun e9 => ?_) h2)
      have hkd := nt e (by rw [← e9]; exact h2)
      rcases h3 with h3 | h3 | h3 | h3
      · obtain ⟨eb, heb, htb⟩ := (h.2.1.2.1 L hL k hk9).tag
        rw [← h3, h2] at heb
        cases heb
        have hLM : L = M := elk_inj L hL M hM (htb.symm.trans hkd)
        subst hLM
        exact q ⟨rfl, h.2.1.2.2.1.2 L hL k j hk9 hj (h3.symm.trans e9)⟩
      all_goals
        rw [h3] at hkd
        rcases hT with rfl | rfl | rfl | rfl | rfl <;> exact absurd hkd (by decide)
  · have hkd := nt _ (by rw [← e]; exact h2)
    rcases hT with rfl | rfl | rfl | rfl | rfl
    · exact absurd (show (5 : Nat) = 7 from congrArg (fun p => p.2.1) hkd) (by decide)
    · exact absurd (show (5 : Nat) = 0 from congrArg (fun p => p.2.1) hkd) (by decide)
    · exact absurd (show (5 : Nat) = 0 from congrArg (fun p => p.2.1) hkd) (by decide)
    · exact absurd (show (5 : Nat) = 0 from congrArg (fun p => p.2.1) hkd) (by decide)
    · exact absurd (show (5 : Nat) = 0 from congrArg (fun p => p.2.1) hkd) (by decide)
end
section
def z_obE (w : zW) (m : Nat) (f : Nat → Option Nat) (sp : Nat) : Prop := ∀ i, i < m → ∀ y, f (sp + i) = some y → ∃ ek, w y = some ek ∧ z_ob ek ∧ ¬ z_kd ek = (1, 13, 0)
theorem z_obE.ob {w w1 : zW} {m : Nat} {f : Nat → Option Nat} {sp : Nat} {L : List Nat} (h : z_obE w m f sp) (hk : z_ke (fun q => q ∈ L) w w1) (hL : ∀ q ∈ L, ∃ e, w q = some e ∧ ((z_kd e).1 = 0 ∧ (z_kd e).2.1 = 5 ∨ z_kd e = (1, 13, 0) ∨ w1 q = some e)) : z_obs w1 m f sp := fun i hi y hy => by
  obtain ⟨ek, h1, h2, h3⟩ := h i hi y hy
  refine ⟨ek, ?_, h2⟩
  by_cases hm : y ∈ L
  · obtain ⟨e, a1, a2⟩ := hL y hm
    rw [h1] at a1
    cases a1
    rcases a2 with ⟨b1, b2⟩ | b | b
    · rcases z_ob5 h2 with c | c
      · rw [b1] at c; cases c
      · rw [b2] at c; exact absurd c (by decide)
    · exact absurd b h3
    · exact b
  · exact hk y ek hm h1
theorem nI_prd (k : Nat) : nI (k + 1) - 1 = nI k := by
  rw [← nI_add k 1]
  exact Int32.add_sub_cancel _ _
theorem va_cpy0 {f g : Nat → Option Nat} {a b : Nat} : va_cpy f g a b 0 = g := by
  funext k
  unfold va_cpy
  rw [if_neg (by omega)]
def rmv (f : Nat → Option Nat) (i k : Nat) : Nat → Option Nat := va_up (va_cpy f f (i + 1) i (k - i)) k none
theorem nI_sub {a b : Nat} (h : b ≤ a) : nI a - nI b = nI (a - b) := by
  have e : nI a = nI (a - b) + nI b := by rw [nI_add]; congr 1; omega
  rw [e]
  exact Int32.add_sub_cancel _ _
theorem z_obE.obK {w w1 : zW} {m : Nat} {f : Nat → Option Nat} {sp : Nat} {L : List Nat} (h : z_obE w m f sp) (hk : z_ke (fun q => q ∈ L) w w1) (hL : ∀ q ∈ L, ∃ e, w q = some e ∧ ((z_kd e).1 = 0 ∧ (z_kd e).2.1 = 5 ∨ z_kd e = (1, 13, 0) ∨ w1 q = some e)) : z_obE w1 m f sp := fun i hi y hy => by
  obtain ⟨ek, h1, h2, h3⟩ := h i hi y hy
  refine ⟨ek, ?_, h2, h3⟩
  by_cases hm : y ∈ L
  · obtain ⟨e, a1, a2⟩ := hL y hm
    rw [h1] at a1
    cases a1
    rcases a2 with ⟨b1, b2⟩ | b | b
    · rcases z_ob5 h2 with c | c
      · rw [b1] at c; cases c
      · rw [b2] at c; exact absurd c (by decide)
    · exact absurd b h3
    · exact b
  · exact hk y ek hm h1
abbrev M_ArraysSupport_newLength : zM := (⟨"jdk/internal/util/ArraysSupport", "newLength", "(III)I"⟩, prog_48_method_27_code, 4, (Option.some FieldType.int), 2, 42, [])
theorem d_ArraysSupport_newLength_0 : decode prog_48_method_27_code 0 = .ok (.iload_n 0, 1) := zo_26 (zd_b zq_prog_48_method_27_code_0 0 rfl rfl rfl)
theorem d_ArraysSupport_newLength_1 : decode prog_48_method_27_code 1 = .ok (.iload_n 1, 1) := zo_27 (zd_b zq_prog_48_method_27_code_0 1 rfl rfl rfl)
theorem d_ArraysSupport_newLength_2 : decode prog_48_method_27_code 2 = .ok (.iload_n 2, 1) := zo_28 (zd_b zq_prog_48_method_27_code_0 2 rfl rfl rfl)
theorem d_ArraysSupport_newLength_3 : decode prog_48_method_27_code 3 = .ok (.invokestatic 194, 3) := zo_184 (d := 0) (e := 194) (zd_b zq_prog_48_method_27_code_0 3 rfl rfl rfl) (zd_b zq_prog_48_method_27_code_0 4 rfl rfl rfl) (zd_b zq_prog_48_method_27_code_0 5 rfl rfl rfl)
theorem ln_ArraysSupport_194 : Cond.methodLink "jdk/internal/util/ArraysSupport" 194 Lib.Math.max.name ∈ z_gw := z_mj6 (i := 50) rfl (by decide +kernel)
theorem d_ArraysSupport_newLength_6 : decode prog_48_method_27_code 6 = .ok (.iadd, 1) := zo_96 (zd_b zq_prog_48_method_27_code_0 6 rfl rfl rfl)
theorem d_ArraysSupport_newLength_7 : decode prog_48_method_27_code 7 = .ok (.istore_n 3, 1) := zo_62 (zd_b zq_prog_48_method_27_code_0 7 rfl rfl rfl)
theorem d_ArraysSupport_newLength_8 : decode prog_48_method_27_code 8 = .ok (.iconst 0, 1) := zo_3 (zd_b zq_prog_48_method_27_code_0 8 rfl rfl rfl)
theorem d_ArraysSupport_newLength_9 : decode prog_48_method_27_code 9 = .ok (.iload_n 3, 1) := zo_29 (zd_b zq_prog_48_method_27_code_0 9 rfl rfl rfl)
theorem d_ArraysSupport_newLength_10 : decode prog_48_method_27_code 10 = .ok (.if_icmp .ge 11, 3) := zo_162 (d := 0) (e := 11) (zd_b zq_prog_48_method_27_code_0 10 rfl rfl rfl) (zd_b zq_prog_48_method_27_code_0 11 rfl rfl rfl) (zd_b zq_prog_48_method_27_code_0 12 rfl rfl rfl) (by decide +kernel)
theorem d_ArraysSupport_newLength_13 : decode prog_48_method_27_code 13 = .ok (.iload_n 3, 1) := zo_29 (zd_b zq_prog_48_method_27_code_0 13 rfl rfl rfl)
theorem d_ArraysSupport_newLength_14 : decode prog_48_method_27_code 14 = .ok (.ldc 200, 2) := zo_18 (d := 200) (zd_b zq_prog_48_method_27_code_0 14 rfl rfl rfl) (zd_b zq_prog_48_method_27_code_0 15 rfl rfl rfl)
theorem ct_ArraysSupport_200 : Cond.constant "jdk/internal/util/ArraysSupport" 200 2147483639 ∈ z_gw := z_mj6 (i := 51) rfl (by decide +kernel)
theorem d_ArraysSupport_newLength_16 : decode prog_48_method_27_code 16 = .ok (.if_icmp .gt 5, 3) := zo_163 (d := 0) (e := 5) (zd_b zq_prog_48_method_27_code_0 16 rfl rfl rfl) (zd_b zq_prog_48_method_27_code_0 17 rfl rfl rfl) (zd_b zq_prog_48_method_27_code_0 18 rfl rfl rfl) (by decide +kernel)
theorem d_ArraysSupport_newLength_19 : decode prog_48_method_27_code 19 = .ok (.iload_n 3, 1) := zo_29 (zd_b zq_prog_48_method_27_code_0 19 rfl rfl rfl)
theorem d_ArraysSupport_newLength_20 : decode prog_48_method_27_code 20 = .ok (.ireturn, 1) := zo_172 (zd_b zq_prog_48_method_27_code_0 20 rfl rfl rfl)
set_option maxHeartbeats 4000000 in
set_option maxRecDepth 100000 in
theorem C_As_newLength10 (g : zG)  : CP g M_ArraysSupport_newLength [.int 10, .int 1, .int 5] [] (fun _ => True) (fun o cs1 => o = .inl (some (.int 15)) ∧ cs1 = []) 0 0 := by
  intro w hI hP
  refine y_ofM (by decide) rfl (Nat.le_of_ble_eq_true rfl) (y_base hI ?_)
  refine y_lvE (lv2 := [(0, .int 10), (1, .int 1), (2, .int 5)]) rfl ?_
  refine y_iload_n d_ArraysSupport_newLength_0 rfl 0 rfl ?_
  refine y_iload_n d_ArraysSupport_newLength_1 rfl 1 rfl ?_
  refine y_iload_n d_ArraysSupport_newLength_2 rfl 2 rfl ?_
  refine y_max (v := 5) ln_ArraysSupport_194 w_mmax w_mi w_cmax d_ArraysSupport_newLength_3 (by decide) (by decide) (Nat.le_of_ble_eq_true rfl) (by decide) ?_
  refine y_iadd d_ArraysSupport_newLength_6 (v := 15) (by decide) ?_
  refine y_istore_n (lv' := [(3, .int 15), (0, .int 10), (1, .int 1), (2, .int 5)]) d_ArraysSupport_newLength_7 rfl (by decide) rfl ?_
  refine y_iconst d_ArraysSupport_newLength_8 (v := 0) (by decide) ?_
  refine y_iload_n d_ArraysSupport_newLength_9 rfl 0 rfl ?_
  refine y_icmp_ge (tgt := 21) d_ArraysSupport_newLength_10 (by decide) (fun c_10 => ?_) (fun c_10 => ?_)
  · exact absurd c_10 (by decide)
  · refine y_iload_n d_ArraysSupport_newLength_13 rfl 0 rfl ?_
    refine y_ldc ct_ArraysSupport_200 d_ArraysSupport_newLength_14 ?_
    refine y_icmp_gt (tgt := 21) d_ArraysSupport_newLength_16 (by decide) (fun c_16 => ?_) (fun c_16 => ?_)
    · exact absurd c_16 (by decide)
    · refine y_iload_n d_ArraysSupport_newLength_19 rfl 0 rfl ?_
      refine y_iret d_ArraysSupport_newLength_20 rfl rfl ?_
      exact fun w1 h1 => ⟨_, ⟨rfl, rfl⟩, h1⟩
abbrev M_Arrays_copyOf_1 : zM := (⟨"java/util/Arrays", "copyOf", "([Ljava/lang/Object;ILjava/lang/Class;)[Ljava/lang/Object;"⟩, prog_41_method_120_code, 4, (Option.some (FieldType.array (FieldType.object "java/lang/Object"))), 2, 100, [])
theorem d_Arrays_copyOf_1_0 : decode prog_41_method_120_code 0 = .ok (.aload_n 2, 1) := zo_44 (zd_b zq_prog_41_method_120_code_0 0 rfl rfl rfl)
theorem d_Arrays_copyOf_1_1 : decode prog_41_method_120_code 1 = .ok (.ldc 110, 2) := zo_18 (d := 110) (zd_b zq_prog_41_method_120_code_0 1 rfl rfl rfl) (zd_b zq_prog_41_method_120_code_0 2 rfl rfl rfl)
theorem lk_Arrays_110 : Cond.classLink "java/util/Arrays" 110 "[Ljava/lang/Object;" ∈ z_gw := z_mj6 (i := 86) rfl (by decide +kernel)
theorem d_Arrays_copyOf_1_3 : decode prog_41_method_120_code 3 = .ok (.if_acmp .ne 10, 3) := zo_166 (d := 0) (e := 10) (zd_b zq_prog_41_method_120_code_0 3 rfl rfl rfl) (zd_b zq_prog_41_method_120_code_0 4 rfl rfl rfl) (zd_b zq_prog_41_method_120_code_0 5 rfl rfl rfl) (by decide +kernel)
theorem d_Arrays_copyOf_1_6 : decode prog_41_method_120_code 6 = .ok (.iload_n 1, 1) := zo_27 (zd_b zq_prog_41_method_120_code_0 6 rfl rfl rfl)
theorem d_Arrays_copyOf_1_7 : decode prog_41_method_120_code 7 = .ok (.anewarray 2, 3) := zo_189 (d := 0) (e := 2) (zd_b zq_prog_41_method_120_code_0 7 rfl rfl rfl) (zd_b zq_prog_41_method_120_code_0 8 rfl rfl rfl) (zd_b zq_prog_41_method_120_code_0 9 rfl rfl rfl)
theorem lo_Arrays_2 : Cond.classLink "java/util/Arrays" 2 "java/lang/Object" ∈ z_gw := z_mj6 (i := 88) rfl (by decide +kernel)
theorem d_Arrays_copyOf_1_10 : decode prog_41_method_120_code 10 = .ok (.goto 14, 3) := zo_167 (d := 0) (e := 14) (zd_b zq_prog_41_method_120_code_0 10 rfl rfl rfl) (zd_b zq_prog_41_method_120_code_0 11 rfl rfl rfl) (zd_b zq_prog_41_method_120_code_0 12 rfl rfl rfl) (by decide +kernel)
theorem d_Arrays_copyOf_1_24 : decode prog_41_method_120_code 24 = .ok (.astore_n 3, 1) := zo_78 (zd_b zq_prog_41_method_120_code_0 24 rfl rfl rfl)
theorem d_Arrays_copyOf_1_25 : decode prog_41_method_120_code 25 = .ok (.aload_n 0, 1) := zo_42 (zd_b zq_prog_41_method_120_code_0 25 rfl rfl rfl)
theorem d_Arrays_copyOf_1_26 : decode prog_41_method_120_code 26 = .ok (.iconst 0, 1) := zo_3 (zd_b zq_prog_41_method_120_code_0 26 rfl rfl rfl)
theorem d_Arrays_copyOf_1_27 : decode prog_41_method_120_code 27 = .ok (.aload_n 3, 1) := zo_45 (zd_b zq_prog_41_method_120_code_0 27 rfl rfl rfl)
theorem d_Arrays_copyOf_1_28 : decode prog_41_method_120_code 28 = .ok (.iconst 0, 1) := zo_3 (zd_b zq_prog_41_method_120_code_0 28 rfl rfl rfl)
theorem d_Arrays_copyOf_1_29 : decode prog_41_method_120_code 29 = .ok (.aload_n 0, 1) := zo_42 (zd_b zq_prog_41_method_120_code_0 29 rfl rfl rfl)
theorem d_Arrays_copyOf_1_30 : decode prog_41_method_120_code 30 = .ok (.arraylength, 1) := zo_190 (zd_b zq_prog_41_method_120_code_0 30 rfl rfl rfl)
theorem d_Arrays_copyOf_1_31 : decode prog_41_method_120_code 31 = .ok (.iload_n 1, 1) := zo_27 (zd_b zq_prog_41_method_120_code_0 31 rfl rfl rfl)
theorem d_Arrays_copyOf_1_32 : decode prog_41_method_120_code 32 = .ok (.invokestatic 304, 3) := zo_184 (d := 1) (e := 48) (zd_b zq_prog_41_method_120_code_1 0 rfl rfl rfl) (zd_b zq_prog_41_method_120_code_1 1 rfl rfl rfl) (zd_b zq_prog_41_method_120_code_1 2 rfl rfl rfl)
theorem ln_Arrays_304 : Cond.methodLink "java/util/Arrays" 304 Lib.Math.min.name ∈ z_gw := z_mj6 (i := 89) rfl (by decide +kernel)
theorem d_Arrays_copyOf_1_35 : decode prog_41_method_120_code 35 = .ok (.invokestatic 150, 3) := zo_184 (d := 0) (e := 150) (zd_b zq_prog_41_method_120_code_1 3 rfl rfl rfl) (zd_b zq_prog_41_method_120_code_1 4 rfl rfl rfl) (zd_b zq_prog_41_method_120_code_1 5 rfl rfl rfl)
theorem ln_Arrays_150 : Cond.methodLink "java/util/Arrays" 150 arraycopyName ∈ z_gw := z_mj6 (i := 90) rfl (by decide +kernel)
theorem d_Arrays_copyOf_1_38 : decode prog_41_method_120_code 38 = .ok (.aload_n 3, 1) := zo_45 (zd_b zq_prog_41_method_120_code_1 6 rfl rfl rfl)
theorem d_Arrays_copyOf_1_39 : decode prog_41_method_120_code 39 = .ok (.areturn, 1) := zo_176 (zd_b zq_prog_41_method_120_code_1 7 rfl rfl rfl)
set_option maxHeartbeats 4000000 in
set_option maxRecDepth 100000 in
theorem C_Ar_copyOf3_10 (g : zG) (dd : Nat) (f : Nat → Option Nat) : CP g M_Arrays_copyOf_1 [.ref dd, .int 15, .ref (g.2.2 42)] [(dd, .inl (5, 10, .inr (.inr (.inr (.inr f)))))] (fun w => z_obE w 10 f 0) (fun o cs1 => ∃ q, o = .inl (some (.ref q)) ∧ cs1 = [(dd, .inl (5, 10, .inr (.inr (.inr (.inr f))))), (q, .inl (5, 15, .inr (.inr (.inr (.inr (va_cpy f (fun _ => none) 0 0 10))))))]) 1 15 := by
  intro w hI hP
  refine y_ofM (by decide) rfl (Nat.le_of_ble_eq_true rfl) (y_base hI ?_)
  refine y_lvE (lv2 := [(0, .ref dd), (1, .int 15), (2, .ref (g.2.2 42))]) rfl ?_
  refine y_aload_n d_Arrays_copyOf_1_0 rfl 2 rfl ?_
  refine y_ldcM lk_Arrays_110 d_Arrays_copyOf_1_1 ?_
  refine y_acmp_ne (tgt := 13) d_Arrays_copyOf_1_3 (by decide) (fun c_3 => ?_) (fun c_3 => ?_)
  · exact absurd rfl c_3
  · refine y_iload_n d_Arrays_copyOf_1_6 rfl 1 rfl ?_
    refine y_anewa (N := 15) lo_Arrays_2 d_Arrays_copyOf_1_7 (by decide) (by decide) (by decide) (by omega) (by omega) (fun q => ?_)
    refine y_cs (cs2 := [(dd, .inl (5, 10, .inr (.inr (.inr (.inr f))))), (q, .inl (5, 15, .inr (.inr (.inr (.inr (fun _ => none))))))]) rfl ?_
    refine y_goto (tgt := 24) d_Arrays_copyOf_1_10 (by decide) ?_
    refine y_astore_n (lv' := [(3, .ref q), (0, .ref dd), (1, .int 15), (2, .ref (g.2.2 42))]) d_Arrays_copyOf_1_24 rfl (by decide) rfl ?_
    refine y_aload_n d_Arrays_copyOf_1_25 rfl 1 rfl ?_
    refine y_iconst d_Arrays_copyOf_1_26 (v := 0) (by decide) ?_
    refine y_aload_n d_Arrays_copyOf_1_27 rfl 0 rfl ?_
    refine y_iconst d_Arrays_copyOf_1_28 (v := 0) (by decide) ?_
    refine y_aload_n d_Arrays_copyOf_1_29 rfl 1 rfl ?_
    refine y_alen d_Arrays_copyOf_1_30 (q0 := 0) rfl rfl (v := 10) rfl ?_
    refine y_iload_n d_Arrays_copyOf_1_31 rfl 2 rfl ?_
    refine y_min (v := 10) ln_Arrays_304 w_mmin w_mi w_cmin d_Arrays_copyOf_1_32 (by decide) (by decide) (Nat.le_of_ble_eq_true rfl) (by decide) ?_
    refine y_copyq (f' := va_cpy f (fun _ => none) 0 0 10) (q0 := 0) (q1 := 1) (cs' := [(dd, .inl (5, 10, .inr (.inr (.inr (.inr f))))), (q, .inl (5, 15, .inr (.inr (.inr (.inr (va_cpy f (fun _ => none) 0 0 10))))))]) ln_Arrays_150 w_ac1 w_ac2 w_ac3 d_Arrays_copyOf_1_35 rfl rfl (by decide) (by decide) (by decide) (by decide) (by decide) (fun w9 hC => hP.ob (hC.ke (L := [dd]) rfl) (fun q8 hq8 => by rw [List.mem_singleton.mp hq8]; exact ⟨_, hI.1 _ List.mem_cons_self, Or.inl ⟨rfl, rfl⟩⟩)) rfl rfl (by decide) (by decide +kernel) (Nat.le_of_ble_eq_true rfl) ?_
    refine y_aload_n d_Arrays_copyOf_1_38 rfl 0 rfl ?_
    refine y_aret d_Arrays_copyOf_1_39 rfl (Or.inr ⟨_, rfl⟩) (Or.inr ⟨_, rfl⟩) ?_
    exact fun w1 h1 => ⟨_, ⟨q, rfl, rfl⟩, h1⟩
abbrev M_Arrays_copyOf_0 : zM := (⟨"java/util/Arrays", "copyOf", "([Ljava/lang/Object;I)[Ljava/lang/Object;"⟩, prog_41_method_119_code, 2, (Option.some (FieldType.array (FieldType.object "java/lang/Object"))), 3, 123, [])
theorem d_Arrays_copyOf_0_0 : decode prog_41_method_119_code 0 = .ok (.aload_n 0, 1) := zo_42 (zd_b zq_prog_41_method_119_code_0 0 rfl rfl rfl)
theorem d_Arrays_copyOf_0_1 : decode prog_41_method_119_code 1 = .ok (.iload_n 1, 1) := zo_27 (zd_b zq_prog_41_method_119_code_0 1 rfl rfl rfl)
theorem d_Arrays_copyOf_0_2 : decode prog_41_method_119_code 2 = .ok (.aload_n 0, 1) := zo_42 (zd_b zq_prog_41_method_119_code_0 2 rfl rfl rfl)
theorem d_Arrays_copyOf_0_3 : decode prog_41_method_119_code 3 = .ok (.invokevirtual 86, 3) := zo_182 (d := 0) (e := 86) (zd_b zq_prog_41_method_119_code_0 3 rfl rfl rfl) (zd_b zq_prog_41_method_119_code_0 4 rfl rfl rfl) (zd_b zq_prog_41_method_119_code_0 5 rfl rfl rfl)
theorem ln_Arrays_86 : Cond.methodLink "java/util/Arrays" 86 ⟨"java/lang/Object", "getClass", "()Ljava/lang/Class;"⟩ ∈ z_gw := z_mj6 (i := 58) rfl (by decide +kernel)
theorem w_gc1 : Cond.declares ⟨"java/lang/Object", "getClass", "()Ljava/lang/Class;"⟩ ∈ z_nw := z_mk9 (i := 108) rfl (by decide +kernel)
theorem w_gc2 : Cond.selects "[Ljava/lang/Object;" ⟨"java/lang/Object", "getClass", "()Ljava/lang/Class;"⟩ ⟨"java/lang/Object", "getClass", "()Ljava/lang/Class;"⟩ ∈ z_gw := z_mj9 (i := 107) rfl (by decide +kernel)
theorem w_gc3 : Cond.instanceMethod ⟨"java/lang/Object", "getClass", "()Ljava/lang/Class;"⟩ ∈ z_gw := z_mj6 (i := 59) rfl (by decide +kernel)
theorem w_gc4 : Cond.native ⟨"java/lang/Object", "getClass", "()Ljava/lang/Class;"⟩ ∈ z_gw := z_mj6 (i := 82) rfl (by decide +kernel)
theorem d_Arrays_copyOf_0_6 : decode prog_41_method_119_code 6 = .ok (.invokestatic 300, 3) := zo_184 (d := 1) (e := 44) (zd_b zq_prog_41_method_119_code_0 6 rfl rfl rfl) (zd_b zq_prog_41_method_119_code_0 7 rfl rfl rfl) (zd_b zq_prog_41_method_119_code_0 8 rfl rfl rfl)
theorem ok_Arrays_copyOf_0_Arrays_copyOf_1 : z_ok M_Arrays_copyOf_0 M_Arrays_copyOf_1 3 := ⟨z_mj6 (i := 85) rfl (by decide +kernel), rfl, ⟨by decide +kernel, by decide +kernel, by decide +kernel⟩, ⟨by decide, by decide⟩, z_mj1 (i := 28) rfl (by decide +kernel), rfl⟩
theorem ln_Arrays_300 : Cond.methodLink "java/util/Arrays" 300 M_Arrays_copyOf_1.1 ∈ z_gw := z_mj6 (i := 83) rfl (by decide +kernel)
theorem w_st_Arrays_copyOf_1 : Cond.static M_Arrays_copyOf_1.1 ∈ z_gw := z_mj6 (i := 84) rfl (by decide +kernel)
theorem d_Arrays_copyOf_0_9 : decode prog_41_method_119_code 9 = .ok (.areturn, 1) := zo_176 (zd_b zq_prog_41_method_119_code_0 9 rfl rfl rfl)
set_option maxHeartbeats 4000000 in
set_option maxRecDepth 100000 in
theorem C_Ar_copyOf2_10 (g : zG) (dd : Nat) (f : Nat → Option Nat) : CP g M_Arrays_copyOf_0 [.ref dd, .int 15] [(dd, .inl (5, 10, .inr (.inr (.inr (.inr f)))))] (fun w => z_obE w 10 f 0) (fun o cs1 => ∃ q, o = .inl (some (.ref q)) ∧ cs1 = [(dd, .inl (5, 10, .inr (.inr (.inr (.inr f))))), (q, .inl (5, 15, .inr (.inr (.inr (.inr (va_cpy f (fun _ => none) 0 0 10))))))]) 1 15 := by
  intro w hI hP
  refine y_ofM (by decide) rfl (Nat.le_of_ble_eq_true rfl) (y_base hI ?_)
  refine y_lvE (lv2 := [(0, .ref dd), (1, .int 15)]) rfl ?_
  refine y_aload_n d_Arrays_copyOf_0_0 rfl 0 rfl ?_
  refine y_iload_n d_Arrays_copyOf_0_1 rfl 1 rfl ?_
  refine y_aload_n d_Arrays_copyOf_0_2 rfl 0 rfl ?_
  refine y_getC ln_Arrays_86 w_gc1 w_gc2 w_gc3 w_gc4 d_Arrays_copyOf_0_3 (q0 := 0) rfl (by decide) (by decide) (Nat.le_of_ble_eq_true rfl) ?_
  refine yp_callS (As := [.ref dd, .int 15, .ref (g.2.2 42)]) (rest := []) (csC := [(dd, .inl (5, 10, .inr (.inr (.inr (.inr f)))))]) (is := [0]) ln_Arrays_300 w_st_Arrays_copyOf_1 ok_Arrays_copyOf_0_Arrays_copyOf_1 d_Arrays_copyOf_0_6 ((fun w9 hI9 hC9 => C_Ar_copyOf3_10 g dd f w9 hC9 (by rw [z_I.same hI hI9]; exact hP))) rfl rfl (Nat.le_of_ble_eq_true rfl) rfl (by decide) (by omega) (by omega) (fun E cs1 hx => ?_) (fun v cs1 hx => ?_)
  · obtain ⟨q, e1, -⟩ := hx
    cases e1
  · obtain ⟨q, e1, rfl⟩ := hx
    cases e1
    refine ⟨rfl, ?_⟩
    refine y_st (st2 := [.ref q]) rfl ?_
    refine y_cs (cs2 := [(dd, .inl (5, 10, .inr (.inr (.inr (.inr f))))), (q, .inl (5, 15, .inr (.inr (.inr (.inr (va_cpy f (fun _ => none) 0 0 10))))))]) rfl ?_
    refine y_aret d_Arrays_copyOf_0_9 rfl (Or.inr ⟨_, rfl⟩) (Or.inr ⟨_, rfl⟩) ?_
    exact fun w1 h1 => ⟨_, ⟨q, rfl, rfl⟩, h1⟩
theorem d_AL_grow_1_20 : decode prog_40_method_6_code 20 = .ok (.iload_n 2, 1) := zo_28 (zd_b zq_prog_40_method_6_code_0 20 rfl rfl rfl)
theorem d_AL_grow_1_21 : decode prog_40_method_6_code 21 = .ok (.iload_n 1, 1) := zo_27 (zd_b zq_prog_40_method_6_code_0 21 rfl rfl rfl)
theorem d_AL_grow_1_22 : decode prog_40_method_6_code 22 = .ok (.iload_n 2, 1) := zo_28 (zd_b zq_prog_40_method_6_code_0 22 rfl rfl rfl)
theorem d_AL_grow_1_23 : decode prog_40_method_6_code 23 = .ok (.isub, 1) := zo_100 (zd_b zq_prog_40_method_6_code_0 23 rfl rfl rfl)
theorem d_AL_grow_1_24 : decode prog_40_method_6_code 24 = .ok (.iload_n 2, 1) := zo_28 (zd_b zq_prog_40_method_6_code_0 24 rfl rfl rfl)
theorem d_AL_grow_1_25 : decode prog_40_method_6_code 25 = .ok (.iconst 1, 1) := zo_4 (zd_b zq_prog_40_method_6_code_0 25 rfl rfl rfl)
theorem d_AL_grow_1_26 : decode prog_40_method_6_code 26 = .ok (.ishr, 1) := zo_122 (zd_b zq_prog_40_method_6_code_0 26 rfl rfl rfl)
theorem d_AL_grow_1_27 : decode prog_40_method_6_code 27 = .ok (.invokestatic 73, 3) := zo_184 (d := 0) (e := 73) (zd_b zq_prog_40_method_6_code_0 27 rfl rfl rfl) (zd_b zq_prog_40_method_6_code_0 28 rfl rfl rfl) (zd_b zq_prog_40_method_6_code_0 29 rfl rfl rfl)
theorem ok_AL_grow_1_ArraysSupport_newLength : z_ok M_AL_grow_1 M_ArraysSupport_newLength 3 := ⟨z_mj6 (i := 49) rfl (by decide +kernel), rfl, ⟨by decide +kernel, by decide +kernel, by decide +kernel⟩, ⟨by decide, by decide⟩, z_mj1 (i := 31) rfl (by decide +kernel), rfl⟩
theorem ln_AL_73 : Cond.methodLink "java/util/ArrayList" 73 M_ArraysSupport_newLength.1 ∈ z_gw := z_mj6 (i := 47) rfl (by decide +kernel)
theorem w_st_ArraysSupport_newLength : Cond.static M_ArraysSupport_newLength.1 ∈ z_gw := z_mj6 (i := 48) rfl (by decide +kernel)
theorem d_AL_grow_1_30 : decode prog_40_method_6_code 30 = .ok (.istore_n 3, 1) := zo_62 (zd_b zq_prog_40_method_6_code_0 30 rfl rfl rfl)
theorem d_AL_grow_1_31 : decode prog_40_method_6_code 31 = .ok (.aload_n 0, 1) := zo_42 (zd_b zq_prog_40_method_6_code_0 31 rfl rfl rfl)
theorem d_AL_grow_1_32 : decode prog_40_method_6_code 32 = .ok (.aload_n 0, 1) := zo_42 (zd_b zq_prog_40_method_6_code_1 0 rfl rfl rfl)
theorem d_AL_grow_1_33 : decode prog_40_method_6_code 33 = .ok (.getfield 9, 3) := zo_180 (d := 0) (e := 9) (zd_b zq_prog_40_method_6_code_1 1 rfl rfl rfl) (zd_b zq_prog_40_method_6_code_1 2 rfl rfl rfl) (zd_b zq_prog_40_method_6_code_1 3 rfl rfl rfl)
theorem d_AL_grow_1_36 : decode prog_40_method_6_code 36 = .ok (.iload_n 3, 1) := zo_29 (zd_b zq_prog_40_method_6_code_1 4 rfl rfl rfl)
theorem d_AL_grow_1_37 : decode prog_40_method_6_code 37 = .ok (.invokestatic 66, 3) := zo_184 (d := 0) (e := 66) (zd_b zq_prog_40_method_6_code_1 5 rfl rfl rfl) (zd_b zq_prog_40_method_6_code_1 6 rfl rfl rfl) (zd_b zq_prog_40_method_6_code_1 7 rfl rfl rfl)
theorem ok_AL_grow_1_Arrays_copyOf_0 : z_ok M_AL_grow_1 M_Arrays_copyOf_0 2 := ⟨z_mj6 (i := 57) rfl (by decide +kernel), rfl, ⟨by decide +kernel, by decide +kernel, by decide +kernel⟩, ⟨by decide, by decide⟩, z_mj1 (i := 28) rfl (by decide +kernel), rfl⟩
theorem ln_AL_66 : Cond.methodLink "java/util/ArrayList" 66 M_Arrays_copyOf_0.1 ∈ z_gw := z_mj6 (i := 55) rfl (by decide +kernel)
theorem w_st_Arrays_copyOf_0 : Cond.static M_Arrays_copyOf_0.1 ∈ z_gw := z_mj6 (i := 56) rfl (by decide +kernel)
theorem d_AL_grow_1_40 : decode prog_40_method_6_code 40 = .ok (.dup_x1, 1) := zo_90 (zd_b zq_prog_40_method_6_code_1 8 rfl rfl rfl)
theorem d_AL_grow_1_41 : decode prog_40_method_6_code 41 = .ok (.putfield 9, 3) := zo_181 (d := 0) (e := 9) (zd_b zq_prog_40_method_6_code_1 9 rfl rfl rfl) (zd_b zq_prog_40_method_6_code_1 10 rfl rfl rfl) (zd_b zq_prog_40_method_6_code_1 11 rfl rfl rfl)
theorem d_AL_grow_1_44 : decode prog_40_method_6_code 44 = .ok (.areturn, 1) := zo_176 (zd_b zq_prog_40_method_6_code_1 12 rfl rfl rfl)
set_option maxHeartbeats 4000000 in
set_option maxRecDepth 100000 in
theorem C_AL_growI10 (g : zG) (a dd : Nat) (md : Int32) (f : Nat → Option Nat) : CP g M_AL_grow_1 [.ref a, .int 11] [(a, .inr (13, [.int md, .ref dd, .int 10])), (dd, .inl (5, 10, .inr (.inr (.inr (.inr f)))))] (fun w => z_obE w 10 f 0) (fun o cs1 => ∃ q, o = .inl (some (.ref q)) ∧ cs1 = [(a, .inr (13, [.int md, .ref q, .int 10])), (dd, .inl (5, 10, .inr (.inr (.inr (.inr f))))), (q, .inl (5, 15, .inr (.inr (.inr (.inr (va_cpy f (fun _ => none) 0 0 10))))))]) 1 15 := by
  intro w hI hP
  refine y_ofM (by decide) rfl (Nat.le_of_ble_eq_true rfl) (y_base hI ?_)
  refine y_lvE (lv2 := [(0, .ref a), (1, .int 11)]) rfl ?_
  refine y_aload_n d_AL_grow_1_0 rfl 0 rfl ?_
  refine y_get fs_AL_9 d_AL_grow_1_1 (q0 := 0) rfl rfl ?_
  refine y_alen d_AL_grow_1_4 (q0 := 1) rfl rfl (v := 10) rfl ?_
  refine y_istore_n (lv' := [(2, .int 10), (0, .ref a), (1, .int 11)]) d_AL_grow_1_5 rfl (by decide) rfl ?_
  refine y_iload_n d_AL_grow_1_6 rfl 0 rfl ?_
  refine y_if_gt (tgt := 20) d_AL_grow_1_7 (by decide) (fun c_7 => ?_) (fun c_7 => ?_)
  · refine y_iload_n d_AL_grow_1_20 rfl 0 rfl ?_
    refine y_iload_n d_AL_grow_1_21 rfl 2 rfl ?_
    refine y_iload_n d_AL_grow_1_22 rfl 0 rfl ?_
    refine y_isub d_AL_grow_1_23 (v := 1) rfl ?_
    refine y_iload_n d_AL_grow_1_24 rfl 0 rfl ?_
    refine y_iconst d_AL_grow_1_25 (v := 1) (by decide) ?_
    refine y_ishr d_AL_grow_1_26 (v := 5) (by decide) ?_
    refine yp_callS (As := [.int 10, .int 1, .int 5]) (rest := []) (csC := []) (is := []) ln_AL_73 w_st_ArraysSupport_newLength ok_AL_grow_1_ArraysSupport_newLength d_AL_grow_1_27 ((fun w9 hI9 hC9 => C_As_newLength10 g w9 hC9 trivial)) rfl rfl (Nat.le_of_ble_eq_true rfl) rfl (by decide) (by omega) (by omega) (fun E cs1 hx => ?_) (fun v cs1 hx => ?_)
    · exact absurd hx.1 (by simp)
    · obtain ⟨e1, rfl⟩ := hx
      cases e1
      refine ⟨rfl, ?_⟩
      refine y_st (st2 := [.int 15]) rfl ?_
      refine y_cs (cs2 := [(a, .inr (13, [.int md, .ref dd, .int 10])), (dd, .inl (5, 10, .inr (.inr (.inr (.inr f)))))]) rfl ?_
      refine y_istore_n (lv' := [(3, .int 15), (2, .int 10), (0, .ref a), (1, .int 11)]) d_AL_grow_1_30 rfl (by decide) rfl ?_
      refine y_aload_n d_AL_grow_1_31 rfl 2 rfl ?_
      refine y_aload_n d_AL_grow_1_32 rfl 2 rfl ?_
      refine y_get fs_AL_9 d_AL_grow_1_33 (q0 := 0) rfl rfl ?_
      refine y_iload_n d_AL_grow_1_36 rfl 0 rfl ?_
      refine yp_callS (As := [.ref dd, .int 15]) (rest := [.ref a]) (csC := [(dd, .inl (5, 10, .inr (.inr (.inr (.inr f)))))]) (is := [1]) ln_AL_66 w_st_Arrays_copyOf_0 ok_AL_grow_1_Arrays_copyOf_0 d_AL_grow_1_37 ((fun w9 hI9 hC9 => C_Ar_copyOf2_10 g dd f w9 hC9 (by rw [z_I.same hI hI9]; exact hP))) rfl rfl (Nat.le_of_ble_eq_true rfl) rfl (by decide) (by omega) (by omega) (fun E cs1 hx => ?_) (fun v cs1 hx => ?_)
      · obtain ⟨q, e1, -⟩ := hx
        cases e1
      · obtain ⟨q, e1, rfl⟩ := hx
        cases e1
        refine ⟨rfl, ?_⟩
        refine y_st (st2 := [.ref q, .ref a]) rfl ?_
        refine y_cs (cs2 := [(a, .inr (13, [.int md, .ref dd, .int 10])), (dd, .inl (5, 10, .inr (.inr (.inr (.inr f))))), (q, .inl (5, 15, .inr (.inr (.inr (.inr (va_cpy f (fun _ => none) 0 0 10))))))]) rfl ?_
        refine y_dupx1 d_AL_grow_1_40 rfl rfl ?_
        refine y_put fp_AL_9 d_AL_grow_1_41 (fun h => nomatch h) rfl rfl (q0 := 0) rfl (Nat.le_of_ble_eq_true rfl) (cs' := [(a, .inr (13, [.int md, .ref q, .int 10])), (dd, .inl (5, 10, .inr (.inr (.inr (.inr f))))), (q, .inl (5, 15, .inr (.inr (.inr (.inr (va_cpy f (fun _ => none) 0 0 10))))))]) rfl ?_
        refine y_aret d_AL_grow_1_44 rfl (Or.inr ⟨_, rfl⟩) (Or.inr ⟨_, rfl⟩) ?_
        exact fun w1 h1 => ⟨_, ⟨q, rfl, rfl⟩, h1⟩
  · exact absurd c_7 (by decide)
set_option maxHeartbeats 4000000 in
set_option maxRecDepth 100000 in
theorem C_AL_grow10 (g : zG) (a dd : Nat) (md : Int32) (f : Nat → Option Nat) : CP g M_AL_grow_0 [.ref a] [(a, .inr (13, [.int md, .ref dd, .int 10])), (dd, .inl (5, 10, .inr (.inr (.inr (.inr f)))))] (fun w => z_obE w 10 f 0) (fun o cs1 => ∃ q, o = .inl (some (.ref q)) ∧ cs1 = [(a, .inr (13, [.int md, .ref q, .int 10])), (dd, .inl (5, 10, .inr (.inr (.inr (.inr f))))), (q, .inl (5, 15, .inr (.inr (.inr (.inr (va_cpy f (fun _ => none) 0 0 10))))))]) 1 15 := by
  intro w hI hP
  refine y_ofM (by decide) rfl (Nat.le_of_ble_eq_true rfl) (y_base hI ?_)
  refine y_lvE (lv2 := [(0, .ref a)]) rfl ?_
  refine y_aload_n d_AL_grow_0_0 rfl 0 rfl ?_
  refine y_aload_n d_AL_grow_0_1 rfl 0 rfl ?_
  refine y_get fs_AL_48 d_AL_grow_0_2 (q0 := 0) rfl rfl ?_
  refine y_iconst d_AL_grow_0_5 (v := 1) (by decide) ?_
  refine y_iadd d_AL_grow_0_6 (v := 11) rfl ?_
  refine yp_callV (As := [.int 11]) (rest := []) (csC := [(a, .inr (13, [.int md, .ref dd, .int 10])), (dd, .inl (5, 10, .inr (.inr (.inr (.inr f)))))]) (is := [0, 1]) (q0 := 0) rfl rfl ln_AL_69 w_im_AL_grow_1 w_se_AL_grow_1 ok_AL_grow_0_AL_grow_1 d_AL_grow_0_7 ((fun w9 hI9 hC9 => C_AL_growI10 g a dd md f w9 hC9 (by rw [z_I.same hI hI9]; exact hP))) rfl rfl (Nat.le_of_ble_eq_true rfl) rfl (by decide) (by omega) (by omega) (fun E cs1 hx => ?_) (fun v cs1 hx => ?_)
  · obtain ⟨q, e1, -⟩ := hx
    cases e1
  · obtain ⟨q, e1, rfl⟩ := hx
    cases e1
    refine ⟨rfl, ?_⟩
    refine y_st (st2 := [.ref q]) rfl ?_
    refine y_cs (cs2 := [(a, .inr (13, [.int md, .ref q, .int 10])), (dd, .inl (5, 10, .inr (.inr (.inr (.inr f))))), (q, .inl (5, 15, .inr (.inr (.inr (.inr (va_cpy f (fun _ => none) 0 0 10))))))]) rfl ?_
    refine y_aret d_AL_grow_0_10 rfl (Or.inr ⟨_, rfl⟩) (Or.inr ⟨_, rfl⟩) ?_
    exact fun w1 h1 => ⟨_, ⟨q, rfl, rfl⟩, h1⟩
set_option maxHeartbeats 4000000 in
set_option maxRecDepth 100000 in
theorem C_AL_addAG10 (g : zG) (a v dd : Nat) (md : Int32) (f : Nat → Option Nat) (ek : zE) (ho : z_ob ek) : CP g M_AL_add_1 [.ref a, .ref v, .ref dd, .int 10] [(a, .inr (13, [.int md, .ref dd, .int 10])), (v, ek), (dd, .inl (5, 10, .inr (.inr (.inr (.inr f)))))] (fun w => z_obE w 10 f 0) (fun o cs1 => ∃ q, o = .inl none ∧ cs1 = [(a, .inr (13, [.int md, .ref q, .int 11])), (v, ek), (dd, .inl (5, 10, .inr (.inr (.inr (.inr f))))), (q, .inl (5, 15, .inr (.inr (.inr (.inr (va_up (va_cpy f (fun _ => none) 0 0 10) 10 (some v)))))))]) 1 15 := by
  intro w hI hP
  refine y_ofM (by decide) rfl (Nat.le_of_ble_eq_true rfl) (y_base hI ?_)
  refine y_lvE (lv2 := [(0, .ref a), (1, .ref v), (2, .ref dd), (3, .int 10)]) rfl ?_
  refine y_iload_n d_AL_add_1_0 rfl 3 rfl ?_
  refine y_aload_n d_AL_add_1_1 rfl 2 rfl ?_
  refine y_alen d_AL_add_1_2 (q0 := 2) rfl rfl (v := 10) rfl ?_
  refine y_icmp_ne (tgt := 11) d_AL_add_1_3 (by decide) (fun c_3 => ?_) (fun c_3 => ?_)
  · exact absurd c_3 (by decide)
  · refine y_aload_n d_AL_add_1_6 rfl 0 rfl ?_
    refine yp_callV (As := []) (rest := []) (csC := [(a, .inr (13, [.int md, .ref dd, .int 10])), (dd, .inl (5, 10, .inr (.inr (.inr (.inr f)))))]) (is := [0, 2]) (q0 := 0) rfl rfl ln_AL_129 w_im_AL_grow_0 w_se_AL_grow_0 ok_AL_add_1_AL_grow_0 d_AL_add_1_7 ((fun w9 hI9 hC9 => C_AL_grow10 g a dd md f w9 hC9 (by rw [z_I.same hI hI9]; exact hP))) rfl rfl (Nat.le_of_ble_eq_true rfl) rfl (by decide) (by omega) (by omega) (fun E cs1 hx => ?_) (fun v cs1 hx => ?_)
    · obtain ⟨q, e1, -⟩ := hx
      cases e1
    · obtain ⟨q, e1, rfl⟩ := hx
      cases e1
      refine ⟨rfl, ?_⟩
      refine y_st (st2 := [.ref q]) rfl ?_
      refine y_cs (cs2 := [(a, .inr (13, [.int md, .ref q, .int 10])), (v, ek), (dd, .inl (5, 10, .inr (.inr (.inr (.inr f))))), (q, .inl (5, 15, .inr (.inr (.inr (.inr (va_cpy f (fun _ => none) 0 0 10))))))]) rfl ?_
      refine y_astore_n (lv' := [(2, .ref q), (0, .ref a), (1, .ref v), (3, .int 10)]) d_AL_add_1_10 rfl (by decide) rfl ?_
      refine y_aload_n d_AL_add_1_11 rfl 0 rfl ?_
      refine y_iload_n d_AL_add_1_12 rfl 3 rfl ?_
      refine y_aload_n d_AL_add_1_13 rfl 2 rfl ?_
      refine y_aast d_AL_add_1_14 (q0 := 3) (qk := 1) rfl rfl ho (fun q => q.elim (by decide) (by decide)) (f' := va_up (va_cpy f (fun _ => none) 0 0 10) 10 (some v)) rfl (cs' := [(a, .inr (13, [.int md, .ref q, .int 10])), (v, ek), (dd, .inl (5, 10, .inr (.inr (.inr (.inr f))))), (q, .inl (5, 15, .inr (.inr (.inr (.inr (va_up (va_cpy f (fun _ => none) 0 0 10) 10 (some v)))))))]) rfl ?_
      refine y_aload_n d_AL_add_1_15 rfl 1 rfl ?_
      refine y_iload_n d_AL_add_1_16 rfl 3 rfl ?_
      refine y_iconst d_AL_add_1_17 (v := 1) (by decide) ?_
      refine y_iadd d_AL_add_1_18 (v := 11) rfl ?_
      refine y_put fp_AL_48 d_AL_add_1_19 (fun h => nomatch h) rfl rfl (q0 := 0) rfl (Nat.le_of_ble_eq_true rfl) (cs' := [(a, .inr (13, [.int md, .ref q, .int 11])), (v, ek), (dd, .inl (5, 10, .inr (.inr (.inr (.inr f))))), (q, .inl (5, 15, .inr (.inr (.inr (.inr (va_up (va_cpy f (fun _ => none) 0 0 10) 10 (some v)))))))]) rfl ?_
      refine y_vret d_AL_add_1_22 rfl ?_
      exact fun w1 h1 => ⟨_, ⟨q, rfl, rfl⟩, h1⟩
set_option maxHeartbeats 4000000 in
set_option maxRecDepth 100000 in
theorem C_AL_addG10 (g : zG) (a v dd : Nat) (md : Int32) (f : Nat → Option Nat) (ek : zE) (ho : z_ob ek) : CP g M_AL_add_0 [.ref a, .ref v] [(a, .inr (13, [.int md, .ref dd, .int 10])), (v, ek), (dd, .inl (5, 10, .inr (.inr (.inr (.inr f)))))] (fun w => z_obE w 10 f 0) (fun o cs1 => ∃ q, o = .inl (some (.int 1)) ∧ cs1 = [(a, .inr (13, [.int (md + 1), .ref q, .int 11])), (v, ek), (dd, .inl (5, 10, .inr (.inr (.inr (.inr f))))), (q, .inl (5, 15, .inr (.inr (.inr (.inr (va_up (va_cpy f (fun _ => none) 0 0 10) 10 (some v)))))))]) 1 15 := by
  intro w hI hP
  refine y_ofM (by decide) rfl (Nat.le_of_ble_eq_true rfl) (y_base hI ?_)
  refine y_lvE (lv2 := [(0, .ref a), (1, .ref v)]) rfl ?_
  refine y_aload_n d_AL_add_0_0 rfl 0 rfl ?_
  refine y_dup d_AL_add_0_1 rfl ?_
  refine y_get fs_AL_63 d_AL_add_0_2 (q0 := 0) rfl rfl ?_
  refine y_iconst d_AL_add_0_5 (v := 1) (by decide) ?_
  refine y_iadd d_AL_add_0_6 (v := md + 1) rfl ?_
  refine y_put fp_AL_63 d_AL_add_0_7 (fun h => nomatch h) rfl rfl (q0 := 0) rfl (Nat.le_of_ble_eq_true rfl) (cs' := [(a, .inr (13, [.int (md + 1), .ref dd, .int 10])), (v, ek), (dd, .inl (5, 10, .inr (.inr (.inr (.inr f)))))]) rfl ?_
  refine y_aload_n d_AL_add_0_10 rfl 0 rfl ?_
  refine y_aload_n d_AL_add_0_11 rfl 1 rfl ?_
  refine y_aload_n d_AL_add_0_12 rfl 0 rfl ?_
  refine y_get fs_AL_9 d_AL_add_0_13 (q0 := 0) rfl rfl ?_
  refine y_aload_n d_AL_add_0_16 rfl 0 rfl ?_
  refine y_get fs_AL_48 d_AL_add_0_17 (q0 := 0) rfl rfl ?_
  refine yp_callV (As := [.ref v, .ref dd, .int 10]) (rest := []) (csC := [(a, .inr (13, [.int (md + 1), .ref dd, .int 10])), (v, ek), (dd, .inl (5, 10, .inr (.inr (.inr (.inr f)))))]) (is := [0, 1, 2]) (q0 := 0) rfl rfl ln_AL_131 w_im_AL_add_1 w_se_AL_add_1 ok_AL_add_0_AL_add_1 d_AL_add_0_20 ((fun w9 hI9 hC9 => C_AL_addAG10 g a v dd (md + 1) f ek ho w9 hC9 (hP.obK (hI9.ke (L := [a, v, dd]) rfl) (fun q8 hq8 => by simp only [List.mem_cons, List.not_mem_nil, or_false] at hq8; rcases hq8 with rfl | rfl | rfl; exact ⟨_, hI.1 _ List.mem_cons_self, Or.inr (Or.inl rfl)⟩; exact ⟨_, hI.1 _ (List.mem_cons_of_mem _ List.mem_cons_self), Or.inr (Or.inr (hI9.1 _ (List.mem_cons_of_mem _ List.mem_cons_self)))⟩; exact ⟨_, hI.1 _ (List.mem_cons_of_mem _ (List.mem_cons_of_mem _ List.mem_cons_self)), Or.inl ⟨rfl, rfl⟩⟩)))) rfl rfl (Nat.le_of_ble_eq_true rfl) rfl (by decide) (by omega) (by omega) (fun E cs1 hx => ?_) (fun v cs1 hx => ?_)
  · obtain ⟨q, e1, -⟩ := hx
    cases e1
  · obtain ⟨q, e1, rfl⟩ := hx
    cases e1
    refine ⟨rfl, ?_⟩
    refine y_st (st2 := []) rfl ?_
    refine y_cs (cs2 := [(a, .inr (13, [.int (md + 1), .ref q, .int 11])), (v, ek), (dd, .inl (5, 10, .inr (.inr (.inr (.inr f))))), (q, .inl (5, 15, .inr (.inr (.inr (.inr (va_up (va_cpy f (fun _ => none) 0 0 10) 10 (some v)))))))]) rfl ?_
    refine y_iconst d_AL_add_0_23 (v := 1) (by decide) ?_
    refine y_iret d_AL_add_0_24 rfl rfl ?_
    exact fun w1 h1 => ⟨_, ⟨q, rfl, rfl⟩, h1⟩
set_option maxHeartbeats 4000000 in
set_option maxRecDepth 100000 in
theorem C_As_newLength15 (g : zG)  : CP g M_ArraysSupport_newLength [.int 15, .int 1, .int 7] [] (fun _ => True) (fun o cs1 => o = .inl (some (.int 22)) ∧ cs1 = []) 0 0 := by
  intro w hI hP
  refine y_ofM (by decide) rfl (Nat.le_of_ble_eq_true rfl) (y_base hI ?_)
  refine y_lvE (lv2 := [(0, .int 15), (1, .int 1), (2, .int 7)]) rfl ?_
  refine y_iload_n d_ArraysSupport_newLength_0 rfl 0 rfl ?_
  refine y_iload_n d_ArraysSupport_newLength_1 rfl 1 rfl ?_
  refine y_iload_n d_ArraysSupport_newLength_2 rfl 2 rfl ?_
  refine y_max (v := 7) ln_ArraysSupport_194 w_mmax w_mi w_cmax d_ArraysSupport_newLength_3 (by decide) (by decide) (Nat.le_of_ble_eq_true rfl) (by decide) ?_
  refine y_iadd d_ArraysSupport_newLength_6 (v := 22) (by decide) ?_
  refine y_istore_n (lv' := [(3, .int 22), (0, .int 15), (1, .int 1), (2, .int 7)]) d_ArraysSupport_newLength_7 rfl (by decide) rfl ?_
  refine y_iconst d_ArraysSupport_newLength_8 (v := 0) (by decide) ?_
  refine y_iload_n d_ArraysSupport_newLength_9 rfl 0 rfl ?_
  refine y_icmp_ge (tgt := 21) d_ArraysSupport_newLength_10 (by decide) (fun c_10 => ?_) (fun c_10 => ?_)
  · exact absurd c_10 (by decide)
  · refine y_iload_n d_ArraysSupport_newLength_13 rfl 0 rfl ?_
    refine y_ldc ct_ArraysSupport_200 d_ArraysSupport_newLength_14 ?_
    refine y_icmp_gt (tgt := 21) d_ArraysSupport_newLength_16 (by decide) (fun c_16 => ?_) (fun c_16 => ?_)
    · exact absurd c_16 (by decide)
    · refine y_iload_n d_ArraysSupport_newLength_19 rfl 0 rfl ?_
      refine y_iret d_ArraysSupport_newLength_20 rfl rfl ?_
      exact fun w1 h1 => ⟨_, ⟨rfl, rfl⟩, h1⟩
set_option maxHeartbeats 4000000 in
set_option maxRecDepth 100000 in
theorem C_Ar_copyOf3_15 (g : zG) (dd : Nat) (f : Nat → Option Nat) : CP g M_Arrays_copyOf_1 [.ref dd, .int 22, .ref (g.2.2 42)] [(dd, .inl (5, 15, .inr (.inr (.inr (.inr f)))))] (fun w => z_obE w 15 f 0) (fun o cs1 => ∃ q, o = .inl (some (.ref q)) ∧ cs1 = [(dd, .inl (5, 15, .inr (.inr (.inr (.inr f))))), (q, .inl (5, 22, .inr (.inr (.inr (.inr (va_cpy f (fun _ => none) 0 0 15))))))]) 1 22 := by
  intro w hI hP
  refine y_ofM (by decide) rfl (Nat.le_of_ble_eq_true rfl) (y_base hI ?_)
  refine y_lvE (lv2 := [(0, .ref dd), (1, .int 22), (2, .ref (g.2.2 42))]) rfl ?_
  refine y_aload_n d_Arrays_copyOf_1_0 rfl 2 rfl ?_
  refine y_ldcM lk_Arrays_110 d_Arrays_copyOf_1_1 ?_
  refine y_acmp_ne (tgt := 13) d_Arrays_copyOf_1_3 (by decide) (fun c_3 => ?_) (fun c_3 => ?_)
  · exact absurd rfl c_3
  · refine y_iload_n d_Arrays_copyOf_1_6 rfl 1 rfl ?_
    refine y_anewa (N := 22) lo_Arrays_2 d_Arrays_copyOf_1_7 (by decide) (by decide) (by decide) (by omega) (by omega) (fun q => ?_)
    refine y_cs (cs2 := [(dd, .inl (5, 15, .inr (.inr (.inr (.inr f))))), (q, .inl (5, 22, .inr (.inr (.inr (.inr (fun _ => none))))))]) rfl ?_
    refine y_goto (tgt := 24) d_Arrays_copyOf_1_10 (by decide) ?_
    refine y_astore_n (lv' := [(3, .ref q), (0, .ref dd), (1, .int 22), (2, .ref (g.2.2 42))]) d_Arrays_copyOf_1_24 rfl (by decide) rfl ?_
    refine y_aload_n d_Arrays_copyOf_1_25 rfl 1 rfl ?_
    refine y_iconst d_Arrays_copyOf_1_26 (v := 0) (by decide) ?_
    refine y_aload_n d_Arrays_copyOf_1_27 rfl 0 rfl ?_
    refine y_iconst d_Arrays_copyOf_1_28 (v := 0) (by decide) ?_
    refine y_aload_n d_Arrays_copyOf_1_29 rfl 1 rfl ?_
    refine y_alen d_Arrays_copyOf_1_30 (q0 := 0) rfl rfl (v := 15) rfl ?_
    refine y_iload_n d_Arrays_copyOf_1_31 rfl 2 rfl ?_
    refine y_min (v := 15) ln_Arrays_304 w_mmin w_mi w_cmin d_Arrays_copyOf_1_32 (by decide) (by decide) (Nat.le_of_ble_eq_true rfl) (by decide) ?_
    refine y_copyq (f' := va_cpy f (fun _ => none) 0 0 15) (q0 := 0) (q1 := 1) (cs' := [(dd, .inl (5, 15, .inr (.inr (.inr (.inr f))))), (q, .inl (5, 22, .inr (.inr (.inr (.inr (va_cpy f (fun _ => none) 0 0 15))))))]) ln_Arrays_150 w_ac1 w_ac2 w_ac3 d_Arrays_copyOf_1_35 rfl rfl (by decide) (by decide) (by decide) (by decide) (by decide) (fun w9 hC => hP.ob (hC.ke (L := [dd]) rfl) (fun q8 hq8 => by rw [List.mem_singleton.mp hq8]; exact ⟨_, hI.1 _ List.mem_cons_self, Or.inl ⟨rfl, rfl⟩⟩)) rfl rfl (by decide) (by decide +kernel) (Nat.le_of_ble_eq_true rfl) ?_
    refine y_aload_n d_Arrays_copyOf_1_38 rfl 0 rfl ?_
    refine y_aret d_Arrays_copyOf_1_39 rfl (Or.inr ⟨_, rfl⟩) (Or.inr ⟨_, rfl⟩) ?_
    exact fun w1 h1 => ⟨_, ⟨q, rfl, rfl⟩, h1⟩
set_option maxHeartbeats 4000000 in
set_option maxRecDepth 100000 in
theorem C_Ar_copyOf2_15 (g : zG) (dd : Nat) (f : Nat → Option Nat) : CP g M_Arrays_copyOf_0 [.ref dd, .int 22] [(dd, .inl (5, 15, .inr (.inr (.inr (.inr f)))))] (fun w => z_obE w 15 f 0) (fun o cs1 => ∃ q, o = .inl (some (.ref q)) ∧ cs1 = [(dd, .inl (5, 15, .inr (.inr (.inr (.inr f))))), (q, .inl (5, 22, .inr (.inr (.inr (.inr (va_cpy f (fun _ => none) 0 0 15))))))]) 1 22 := by
  intro w hI hP
  refine y_ofM (by decide) rfl (Nat.le_of_ble_eq_true rfl) (y_base hI ?_)
  refine y_lvE (lv2 := [(0, .ref dd), (1, .int 22)]) rfl ?_
  refine y_aload_n d_Arrays_copyOf_0_0 rfl 0 rfl ?_
  refine y_iload_n d_Arrays_copyOf_0_1 rfl 1 rfl ?_
  refine y_aload_n d_Arrays_copyOf_0_2 rfl 0 rfl ?_
  refine y_getC ln_Arrays_86 w_gc1 w_gc2 w_gc3 w_gc4 d_Arrays_copyOf_0_3 (q0 := 0) rfl (by decide) (by decide) (Nat.le_of_ble_eq_true rfl) ?_
  refine yp_callS (As := [.ref dd, .int 22, .ref (g.2.2 42)]) (rest := []) (csC := [(dd, .inl (5, 15, .inr (.inr (.inr (.inr f)))))]) (is := [0]) ln_Arrays_300 w_st_Arrays_copyOf_1 ok_Arrays_copyOf_0_Arrays_copyOf_1 d_Arrays_copyOf_0_6 ((fun w9 hI9 hC9 => C_Ar_copyOf3_15 g dd f w9 hC9 (by rw [z_I.same hI hI9]; exact hP))) rfl rfl (Nat.le_of_ble_eq_true rfl) rfl (by decide) (by omega) (by omega) (fun E cs1 hx => ?_) (fun v cs1 hx => ?_)
  · obtain ⟨q, e1, -⟩ := hx
    cases e1
  · obtain ⟨q, e1, rfl⟩ := hx
    cases e1
    refine ⟨rfl, ?_⟩
    refine y_st (st2 := [.ref q]) rfl ?_
    refine y_cs (cs2 := [(dd, .inl (5, 15, .inr (.inr (.inr (.inr f))))), (q, .inl (5, 22, .inr (.inr (.inr (.inr (va_cpy f (fun _ => none) 0 0 15))))))]) rfl ?_
    refine y_aret d_Arrays_copyOf_0_9 rfl (Or.inr ⟨_, rfl⟩) (Or.inr ⟨_, rfl⟩) ?_
    exact fun w1 h1 => ⟨_, ⟨q, rfl, rfl⟩, h1⟩
set_option maxHeartbeats 4000000 in
set_option maxRecDepth 100000 in
theorem C_AL_growI15 (g : zG) (a dd : Nat) (md : Int32) (f : Nat → Option Nat) : CP g M_AL_grow_1 [.ref a, .int 16] [(a, .inr (13, [.int md, .ref dd, .int 15])), (dd, .inl (5, 15, .inr (.inr (.inr (.inr f)))))] (fun w => z_obE w 15 f 0) (fun o cs1 => ∃ q, o = .inl (some (.ref q)) ∧ cs1 = [(a, .inr (13, [.int md, .ref q, .int 15])), (dd, .inl (5, 15, .inr (.inr (.inr (.inr f))))), (q, .inl (5, 22, .inr (.inr (.inr (.inr (va_cpy f (fun _ => none) 0 0 15))))))]) 1 22 := by
  intro w hI hP
  refine y_ofM (by decide) rfl (Nat.le_of_ble_eq_true rfl) (y_base hI ?_)
  refine y_lvE (lv2 := [(0, .ref a), (1, .int 16)]) rfl ?_
  refine y_aload_n d_AL_grow_1_0 rfl 0 rfl ?_
  refine y_get fs_AL_9 d_AL_grow_1_1 (q0 := 0) rfl rfl ?_
  refine y_alen d_AL_grow_1_4 (q0 := 1) rfl rfl (v := 15) rfl ?_
  refine y_istore_n (lv' := [(2, .int 15), (0, .ref a), (1, .int 16)]) d_AL_grow_1_5 rfl (by decide) rfl ?_
  refine y_iload_n d_AL_grow_1_6 rfl 0 rfl ?_
  refine y_if_gt (tgt := 20) d_AL_grow_1_7 (by decide) (fun c_7 => ?_) (fun c_7 => ?_)
  · refine y_iload_n d_AL_grow_1_20 rfl 0 rfl ?_
    refine y_iload_n d_AL_grow_1_21 rfl 2 rfl ?_
    refine y_iload_n d_AL_grow_1_22 rfl 0 rfl ?_
    refine y_isub d_AL_grow_1_23 (v := 1) rfl ?_
    refine y_iload_n d_AL_grow_1_24 rfl 0 rfl ?_
    refine y_iconst d_AL_grow_1_25 (v := 1) (by decide) ?_
    refine y_ishr d_AL_grow_1_26 (v := 7) (by decide) ?_
    refine yp_callS (As := [.int 15, .int 1, .int 7]) (rest := []) (csC := []) (is := []) ln_AL_73 w_st_ArraysSupport_newLength ok_AL_grow_1_ArraysSupport_newLength d_AL_grow_1_27 ((fun w9 hI9 hC9 => C_As_newLength15 g w9 hC9 trivial)) rfl rfl (Nat.le_of_ble_eq_true rfl) rfl (by decide) (by omega) (by omega) (fun E cs1 hx => ?_) (fun v cs1 hx => ?_)
    · exact absurd hx.1 (by simp)
    · obtain ⟨e1, rfl⟩ := hx
      cases e1
      refine ⟨rfl, ?_⟩
      refine y_st (st2 := [.int 22]) rfl ?_
      refine y_cs (cs2 := [(a, .inr (13, [.int md, .ref dd, .int 15])), (dd, .inl (5, 15, .inr (.inr (.inr (.inr f)))))]) rfl ?_
      refine y_istore_n (lv' := [(3, .int 22), (2, .int 15), (0, .ref a), (1, .int 16)]) d_AL_grow_1_30 rfl (by decide) rfl ?_
      refine y_aload_n d_AL_grow_1_31 rfl 2 rfl ?_
      refine y_aload_n d_AL_grow_1_32 rfl 2 rfl ?_
      refine y_get fs_AL_9 d_AL_grow_1_33 (q0 := 0) rfl rfl ?_
      refine y_iload_n d_AL_grow_1_36 rfl 0 rfl ?_
      refine yp_callS (As := [.ref dd, .int 22]) (rest := [.ref a]) (csC := [(dd, .inl (5, 15, .inr (.inr (.inr (.inr f)))))]) (is := [1]) ln_AL_66 w_st_Arrays_copyOf_0 ok_AL_grow_1_Arrays_copyOf_0 d_AL_grow_1_37 ((fun w9 hI9 hC9 => C_Ar_copyOf2_15 g dd f w9 hC9 (by rw [z_I.same hI hI9]; exact hP))) rfl rfl (Nat.le_of_ble_eq_true rfl) rfl (by decide) (by omega) (by omega) (fun E cs1 hx => ?_) (fun v cs1 hx => ?_)
      · obtain ⟨q, e1, -⟩ := hx
        cases e1
      · obtain ⟨q, e1, rfl⟩ := hx
        cases e1
        refine ⟨rfl, ?_⟩
        refine y_st (st2 := [.ref q, .ref a]) rfl ?_
        refine y_cs (cs2 := [(a, .inr (13, [.int md, .ref dd, .int 15])), (dd, .inl (5, 15, .inr (.inr (.inr (.inr f))))), (q, .inl (5, 22, .inr (.inr (.inr (.inr (va_cpy f (fun _ => none) 0 0 15))))))]) rfl ?_
        refine y_dupx1 d_AL_grow_1_40 rfl rfl ?_
        refine y_put fp_AL_9 d_AL_grow_1_41 (fun h => nomatch h) rfl rfl (q0 := 0) rfl (Nat.le_of_ble_eq_true rfl) (cs' := [(a, .inr (13, [.int md, .ref q, .int 15])), (dd, .inl (5, 15, .inr (.inr (.inr (.inr f))))), (q, .inl (5, 22, .inr (.inr (.inr (.inr (va_cpy f (fun _ => none) 0 0 15))))))]) rfl ?_
        refine y_aret d_AL_grow_1_44 rfl (Or.inr ⟨_, rfl⟩) (Or.inr ⟨_, rfl⟩) ?_
        exact fun w1 h1 => ⟨_, ⟨q, rfl, rfl⟩, h1⟩
  · exact absurd c_7 (by decide)
set_option maxHeartbeats 4000000 in
set_option maxRecDepth 100000 in
theorem C_AL_grow15 (g : zG) (a dd : Nat) (md : Int32) (f : Nat → Option Nat) : CP g M_AL_grow_0 [.ref a] [(a, .inr (13, [.int md, .ref dd, .int 15])), (dd, .inl (5, 15, .inr (.inr (.inr (.inr f)))))] (fun w => z_obE w 15 f 0) (fun o cs1 => ∃ q, o = .inl (some (.ref q)) ∧ cs1 = [(a, .inr (13, [.int md, .ref q, .int 15])), (dd, .inl (5, 15, .inr (.inr (.inr (.inr f))))), (q, .inl (5, 22, .inr (.inr (.inr (.inr (va_cpy f (fun _ => none) 0 0 15))))))]) 1 22 := by
  intro w hI hP
  refine y_ofM (by decide) rfl (Nat.le_of_ble_eq_true rfl) (y_base hI ?_)
  refine y_lvE (lv2 := [(0, .ref a)]) rfl ?_
  refine y_aload_n d_AL_grow_0_0 rfl 0 rfl ?_
  refine y_aload_n d_AL_grow_0_1 rfl 0 rfl ?_
  refine y_get fs_AL_48 d_AL_grow_0_2 (q0 := 0) rfl rfl ?_
  refine y_iconst d_AL_grow_0_5 (v := 1) (by decide) ?_
  refine y_iadd d_AL_grow_0_6 (v := 16) rfl ?_
  refine yp_callV (As := [.int 16]) (rest := []) (csC := [(a, .inr (13, [.int md, .ref dd, .int 15])), (dd, .inl (5, 15, .inr (.inr (.inr (.inr f)))))]) (is := [0, 1]) (q0 := 0) rfl rfl ln_AL_69 w_im_AL_grow_1 w_se_AL_grow_1 ok_AL_grow_0_AL_grow_1 d_AL_grow_0_7 ((fun w9 hI9 hC9 => C_AL_growI15 g a dd md f w9 hC9 (by rw [z_I.same hI hI9]; exact hP))) rfl rfl (Nat.le_of_ble_eq_true rfl) rfl (by decide) (by omega) (by omega) (fun E cs1 hx => ?_) (fun v cs1 hx => ?_)
  · obtain ⟨q, e1, -⟩ := hx
    cases e1
  · obtain ⟨q, e1, rfl⟩ := hx
    cases e1
    refine ⟨rfl, ?_⟩
    refine y_st (st2 := [.ref q]) rfl ?_
    refine y_cs (cs2 := [(a, .inr (13, [.int md, .ref q, .int 15])), (dd, .inl (5, 15, .inr (.inr (.inr (.inr f))))), (q, .inl (5, 22, .inr (.inr (.inr (.inr (va_cpy f (fun _ => none) 0 0 15))))))]) rfl ?_
    refine y_aret d_AL_grow_0_10 rfl (Or.inr ⟨_, rfl⟩) (Or.inr ⟨_, rfl⟩) ?_
    exact fun w1 h1 => ⟨_, ⟨q, rfl, rfl⟩, h1⟩
set_option maxHeartbeats 4000000 in
set_option maxRecDepth 100000 in
theorem C_AL_addAG15 (g : zG) (a v dd : Nat) (md : Int32) (f : Nat → Option Nat) (ek : zE) (ho : z_ob ek) : CP g M_AL_add_1 [.ref a, .ref v, .ref dd, .int 15] [(a, .inr (13, [.int md, .ref dd, .int 15])), (v, ek), (dd, .inl (5, 15, .inr (.inr (.inr (.inr f)))))] (fun w => z_obE w 15 f 0) (fun o cs1 => ∃ q, o = .inl none ∧ cs1 = [(a, .inr (13, [.int md, .ref q, .int 16])), (v, ek), (dd, .inl (5, 15, .inr (.inr (.inr (.inr f))))), (q, .inl (5, 22, .inr (.inr (.inr (.inr (va_up (va_cpy f (fun _ => none) 0 0 15) 15 (some v)))))))]) 1 22 := by
  intro w hI hP
  refine y_ofM (by decide) rfl (Nat.le_of_ble_eq_true rfl) (y_base hI ?_)
  refine y_lvE (lv2 := [(0, .ref a), (1, .ref v), (2, .ref dd), (3, .int 15)]) rfl ?_
  refine y_iload_n d_AL_add_1_0 rfl 3 rfl ?_
  refine y_aload_n d_AL_add_1_1 rfl 2 rfl ?_
  refine y_alen d_AL_add_1_2 (q0 := 2) rfl rfl (v := 15) rfl ?_
  refine y_icmp_ne (tgt := 11) d_AL_add_1_3 (by decide) (fun c_3 => ?_) (fun c_3 => ?_)
  · exact absurd c_3 (by decide)
  · refine y_aload_n d_AL_add_1_6 rfl 0 rfl ?_
    refine yp_callV (As := []) (rest := []) (csC := [(a, .inr (13, [.int md, .ref dd, .int 15])), (dd, .inl (5, 15, .inr (.inr (.inr (.inr f)))))]) (is := [0, 2]) (q0 := 0) rfl rfl ln_AL_129 w_im_AL_grow_0 w_se_AL_grow_0 ok_AL_add_1_AL_grow_0 d_AL_add_1_7 ((fun w9 hI9 hC9 => C_AL_grow15 g a dd md f w9 hC9 (by rw [z_I.same hI hI9]; exact hP))) rfl rfl (Nat.le_of_ble_eq_true rfl) rfl (by decide) (by omega) (by omega) (fun E cs1 hx => ?_) (fun v cs1 hx => ?_)
    · obtain ⟨q, e1, -⟩ := hx
      cases e1
    · obtain ⟨q, e1, rfl⟩ := hx
      cases e1
      refine ⟨rfl, ?_⟩
      refine y_st (st2 := [.ref q]) rfl ?_
      refine y_cs (cs2 := [(a, .inr (13, [.int md, .ref q, .int 15])), (v, ek), (dd, .inl (5, 15, .inr (.inr (.inr (.inr f))))), (q, .inl (5, 22, .inr (.inr (.inr (.inr (va_cpy f (fun _ => none) 0 0 15))))))]) rfl ?_
      refine y_astore_n (lv' := [(2, .ref q), (0, .ref a), (1, .ref v), (3, .int 15)]) d_AL_add_1_10 rfl (by decide) rfl ?_
      refine y_aload_n d_AL_add_1_11 rfl 0 rfl ?_
      refine y_iload_n d_AL_add_1_12 rfl 3 rfl ?_
      refine y_aload_n d_AL_add_1_13 rfl 2 rfl ?_
      refine y_aast d_AL_add_1_14 (q0 := 3) (qk := 1) rfl rfl ho (fun q => q.elim (by decide) (by decide)) (f' := va_up (va_cpy f (fun _ => none) 0 0 15) 15 (some v)) rfl (cs' := [(a, .inr (13, [.int md, .ref q, .int 15])), (v, ek), (dd, .inl (5, 15, .inr (.inr (.inr (.inr f))))), (q, .inl (5, 22, .inr (.inr (.inr (.inr (va_up (va_cpy f (fun _ => none) 0 0 15) 15 (some v)))))))]) rfl ?_
      refine y_aload_n d_AL_add_1_15 rfl 1 rfl ?_
      refine y_iload_n d_AL_add_1_16 rfl 3 rfl ?_
      refine y_iconst d_AL_add_1_17 (v := 1) (by decide) ?_
      refine y_iadd d_AL_add_1_18 (v := 16) rfl ?_
      refine y_put fp_AL_48 d_AL_add_1_19 (fun h => nomatch h) rfl rfl (q0 := 0) rfl (Nat.le_of_ble_eq_true rfl) (cs' := [(a, .inr (13, [.int md, .ref q, .int 16])), (v, ek), (dd, .inl (5, 15, .inr (.inr (.inr (.inr f))))), (q, .inl (5, 22, .inr (.inr (.inr (.inr (va_up (va_cpy f (fun _ => none) 0 0 15) 15 (some v)))))))]) rfl ?_
      refine y_vret d_AL_add_1_22 rfl ?_
      exact fun w1 h1 => ⟨_, ⟨q, rfl, rfl⟩, h1⟩
set_option maxHeartbeats 4000000 in
set_option maxRecDepth 100000 in
theorem C_AL_addG15 (g : zG) (a v dd : Nat) (md : Int32) (f : Nat → Option Nat) (ek : zE) (ho : z_ob ek) : CP g M_AL_add_0 [.ref a, .ref v] [(a, .inr (13, [.int md, .ref dd, .int 15])), (v, ek), (dd, .inl (5, 15, .inr (.inr (.inr (.inr f)))))] (fun w => z_obE w 15 f 0) (fun o cs1 => ∃ q, o = .inl (some (.int 1)) ∧ cs1 = [(a, .inr (13, [.int (md + 1), .ref q, .int 16])), (v, ek), (dd, .inl (5, 15, .inr (.inr (.inr (.inr f))))), (q, .inl (5, 22, .inr (.inr (.inr (.inr (va_up (va_cpy f (fun _ => none) 0 0 15) 15 (some v)))))))]) 1 22 := by
  intro w hI hP
  refine y_ofM (by decide) rfl (Nat.le_of_ble_eq_true rfl) (y_base hI ?_)
  refine y_lvE (lv2 := [(0, .ref a), (1, .ref v)]) rfl ?_
  refine y_aload_n d_AL_add_0_0 rfl 0 rfl ?_
  refine y_dup d_AL_add_0_1 rfl ?_
  refine y_get fs_AL_63 d_AL_add_0_2 (q0 := 0) rfl rfl ?_
  refine y_iconst d_AL_add_0_5 (v := 1) (by decide) ?_
  refine y_iadd d_AL_add_0_6 (v := md + 1) rfl ?_
  refine y_put fp_AL_63 d_AL_add_0_7 (fun h => nomatch h) rfl rfl (q0 := 0) rfl (Nat.le_of_ble_eq_true rfl) (cs' := [(a, .inr (13, [.int (md + 1), .ref dd, .int 15])), (v, ek), (dd, .inl (5, 15, .inr (.inr (.inr (.inr f)))))]) rfl ?_
  refine y_aload_n d_AL_add_0_10 rfl 0 rfl ?_
  refine y_aload_n d_AL_add_0_11 rfl 1 rfl ?_
  refine y_aload_n d_AL_add_0_12 rfl 0 rfl ?_
  refine y_get fs_AL_9 d_AL_add_0_13 (q0 := 0) rfl rfl ?_
  refine y_aload_n d_AL_add_0_16 rfl 0 rfl ?_
  refine y_get fs_AL_48 d_AL_add_0_17 (q0 := 0) rfl rfl ?_
  refine yp_callV (As := [.ref v, .ref dd, .int 15]) (rest := []) (csC := [(a, .inr (13, [.int (md + 1), .ref dd, .int 15])), (v, ek), (dd, .inl (5, 15, .inr (.inr (.inr (.inr f)))))]) (is := [0, 1, 2]) (q0 := 0) rfl rfl ln_AL_131 w_im_AL_add_1 w_se_AL_add_1 ok_AL_add_0_AL_add_1 d_AL_add_0_20 ((fun w9 hI9 hC9 => C_AL_addAG15 g a v dd (md + 1) f ek ho w9 hC9 (hP.obK (hI9.ke (L := [a, v, dd]) rfl) (fun q8 hq8 => by simp only [List.mem_cons, List.not_mem_nil, or_false] at hq8; rcases hq8 with rfl | rfl | rfl; exact ⟨_, hI.1 _ List.mem_cons_self, Or.inr (Or.inl rfl)⟩; exact ⟨_, hI.1 _ (List.mem_cons_of_mem _ List.mem_cons_self), Or.inr (Or.inr (hI9.1 _ (List.mem_cons_of_mem _ List.mem_cons_self)))⟩; exact ⟨_, hI.1 _ (List.mem_cons_of_mem _ (List.mem_cons_of_mem _ List.mem_cons_self)), Or.inl ⟨rfl, rfl⟩⟩)))) rfl rfl (Nat.le_of_ble_eq_true rfl) rfl (by decide) (by omega) (by omega) (fun E cs1 hx => ?_) (fun v cs1 hx => ?_)
  · obtain ⟨q, e1, -⟩ := hx
    cases e1
  · obtain ⟨q, e1, rfl⟩ := hx
    cases e1
    refine ⟨rfl, ?_⟩
    refine y_st (st2 := []) rfl ?_
    refine y_cs (cs2 := [(a, .inr (13, [.int (md + 1), .ref q, .int 16])), (v, ek), (dd, .inl (5, 15, .inr (.inr (.inr (.inr f))))), (q, .inl (5, 22, .inr (.inr (.inr (.inr (va_up (va_cpy f (fun _ => none) 0 0 15) 15 (some v)))))))]) rfl ?_
    refine y_iconst d_AL_add_0_23 (v := 1) (by decide) ?_
    refine y_iret d_AL_add_0_24 rfl rfl ?_
    exact fun w1 h1 => ⟨_, ⟨q, rfl, rfl⟩, h1⟩
set_option maxHeartbeats 4000000 in
set_option maxRecDepth 100000 in
theorem C_As_newLength22 (g : zG)  : CP g M_ArraysSupport_newLength [.int 22, .int 1, .int 11] [] (fun _ => True) (fun o cs1 => o = .inl (some (.int 33)) ∧ cs1 = []) 0 0 := by
  intro w hI hP
  refine y_ofM (by decide) rfl (Nat.le_of_ble_eq_true rfl) (y_base hI ?_)
  refine y_lvE (lv2 := [(0, .int 22), (1, .int 1), (2, .int 11)]) rfl ?_
  refine y_iload_n d_ArraysSupport_newLength_0 rfl 0 rfl ?_
  refine y_iload_n d_ArraysSupport_newLength_1 rfl 1 rfl ?_
  refine y_iload_n d_ArraysSupport_newLength_2 rfl 2 rfl ?_
  refine y_max (v := 11) ln_ArraysSupport_194 w_mmax w_mi w_cmax d_ArraysSupport_newLength_3 (by decide) (by decide) (Nat.le_of_ble_eq_true rfl) (by decide) ?_
  refine y_iadd d_ArraysSupport_newLength_6 (v := 33) (by decide) ?_
  refine y_istore_n (lv' := [(3, .int 33), (0, .int 22), (1, .int 1), (2, .int 11)]) d_ArraysSupport_newLength_7 rfl (by decide) rfl ?_
  refine y_iconst d_ArraysSupport_newLength_8 (v := 0) (by decide) ?_
  refine y_iload_n d_ArraysSupport_newLength_9 rfl 0 rfl ?_
  refine y_icmp_ge (tgt := 21) d_ArraysSupport_newLength_10 (by decide) (fun c_10 => ?_) (fun c_10 => ?_)
  · exact absurd c_10 (by decide)
  · refine y_iload_n d_ArraysSupport_newLength_13 rfl 0 rfl ?_
    refine y_ldc ct_ArraysSupport_200 d_ArraysSupport_newLength_14 ?_
    refine y_icmp_gt (tgt := 21) d_ArraysSupport_newLength_16 (by decide) (fun c_16 => ?_) (fun c_16 => ?_)
    · exact absurd c_16 (by decide)
    · refine y_iload_n d_ArraysSupport_newLength_19 rfl 0 rfl ?_
      refine y_iret d_ArraysSupport_newLength_20 rfl rfl ?_
      exact fun w1 h1 => ⟨_, ⟨rfl, rfl⟩, h1⟩
set_option maxHeartbeats 4000000 in
set_option maxRecDepth 100000 in
theorem C_Ar_copyOf3_22 (g : zG) (dd : Nat) (f : Nat → Option Nat) : CP g M_Arrays_copyOf_1 [.ref dd, .int 33, .ref (g.2.2 42)] [(dd, .inl (5, 22, .inr (.inr (.inr (.inr f)))))] (fun w => z_obE w 22 f 0) (fun o cs1 => ∃ q, o = .inl (some (.ref q)) ∧ cs1 = [(dd, .inl (5, 22, .inr (.inr (.inr (.inr f))))), (q, .inl (5, 33, .inr (.inr (.inr (.inr (va_cpy f (fun _ => none) 0 0 22))))))]) 1 33 := by
  intro w hI hP
  refine y_ofM (by decide) rfl (Nat.le_of_ble_eq_true rfl) (y_base hI ?_)
  refine y_lvE (lv2 := [(0, .ref dd), (1, .int 33), (2, .ref (g.2.2 42))]) rfl ?_
  refine y_aload_n d_Arrays_copyOf_1_0 rfl 2 rfl ?_
  refine y_ldcM lk_Arrays_110 d_Arrays_copyOf_1_1 ?_
  refine y_acmp_ne (tgt := 13) d_Arrays_copyOf_1_3 (by decide) (fun c_3 => ?_) (fun c_3 => ?_)
  · exact absurd rfl c_3
  · refine y_iload_n d_Arrays_copyOf_1_6 rfl 1 rfl ?_
    refine y_anewa (N := 33) lo_Arrays_2 d_Arrays_copyOf_1_7 (by decide) (by decide) (by decide) (by omega) (by omega) (fun q => ?_)
    refine y_cs (cs2 := [(dd, .inl (5, 22, .inr (.inr (.inr (.inr f))))), (q, .inl (5, 33, .inr (.inr (.inr (.inr (fun _ => none))))))]) rfl ?_
    refine y_goto (tgt := 24) d_Arrays_copyOf_1_10 (by decide) ?_
    refine y_astore_n (lv' := [(3, .ref q), (0, .ref dd), (1, .int 33), (2, .ref (g.2.2 42))]) d_Arrays_copyOf_1_24 rfl (by decide) rfl ?_
    refine y_aload_n d_Arrays_copyOf_1_25 rfl 1 rfl ?_
    refine y_iconst d_Arrays_copyOf_1_26 (v := 0) (by decide) ?_
    refine y_aload_n d_Arrays_copyOf_1_27 rfl 0 rfl ?_
    refine y_iconst d_Arrays_copyOf_1_28 (v := 0) (by decide) ?_
    refine y_aload_n d_Arrays_copyOf_1_29 rfl 1 rfl ?_
    refine y_alen d_Arrays_copyOf_1_30 (q0 := 0) rfl rfl (v := 22) rfl ?_
    refine y_iload_n d_Arrays_copyOf_1_31 rfl 2 rfl ?_
    refine y_min (v := 22) ln_Arrays_304 w_mmin w_mi w_cmin d_Arrays_copyOf_1_32 (by decide) (by decide) (Nat.le_of_ble_eq_true rfl) (by decide) ?_
    refine y_copyq (f' := va_cpy f (fun _ => none) 0 0 22) (q0 := 0) (q1 := 1) (cs' := [(dd, .inl (5, 22, .inr (.inr (.inr (.inr f))))), (q, .inl (5, 33, .inr (.inr (.inr (.inr (va_cpy f (fun _ => none) 0 0 22))))))]) ln_Arrays_150 w_ac1 w_ac2 w_ac3 d_Arrays_copyOf_1_35 rfl rfl (by decide) (by decide) (by decide) (by decide) (by decide) (fun w9 hC => hP.ob (hC.ke (L := [dd]) rfl) (fun q8 hq8 => by rw [List.mem_singleton.mp hq8]; exact ⟨_, hI.1 _ List.mem_cons_self, Or.inl ⟨rfl, rfl⟩⟩)) rfl rfl (by decide) (by decide +kernel) (Nat.le_of_ble_eq_true rfl) ?_
    refine y_aload_n d_Arrays_copyOf_1_38 rfl 0 rfl ?_
    refine y_aret d_Arrays_copyOf_1_39 rfl (Or.inr ⟨_, rfl⟩) (Or.inr ⟨_, rfl⟩) ?_
    exact fun w1 h1 => ⟨_, ⟨q, rfl, rfl⟩, h1⟩
set_option maxHeartbeats 4000000 in
set_option maxRecDepth 100000 in
theorem C_Ar_copyOf2_22 (g : zG) (dd : Nat) (f : Nat → Option Nat) : CP g M_Arrays_copyOf_0 [.ref dd, .int 33] [(dd, .inl (5, 22, .inr (.inr (.inr (.inr f)))))] (fun w => z_obE w 22 f 0) (fun o cs1 => ∃ q, o = .inl (some (.ref q)) ∧ cs1 = [(dd, .inl (5, 22, .inr (.inr (.inr (.inr f))))), (q, .inl (5, 33, .inr (.inr (.inr (.inr (va_cpy f (fun _ => none) 0 0 22))))))]) 1 33 := by
  intro w hI hP
  refine y_ofM (by decide) rfl (Nat.le_of_ble_eq_true rfl) (y_base hI ?_)
  refine y_lvE (lv2 := [(0, .ref dd), (1, .int 33)]) rfl ?_
  refine y_aload_n d_Arrays_copyOf_0_0 rfl 0 rfl ?_
  refine y_iload_n d_Arrays_copyOf_0_1 rfl 1 rfl ?_
  refine y_aload_n d_Arrays_copyOf_0_2 rfl 0 rfl ?_
  refine y_getC ln_Arrays_86 w_gc1 w_gc2 w_gc3 w_gc4 d_Arrays_copyOf_0_3 (q0 := 0) rfl (by decide) (by decide) (Nat.le_of_ble_eq_true rfl) ?_
  refine yp_callS (As := [.ref dd, .int 33, .ref (g.2.2 42)]) (rest := []) (csC := [(dd, .inl (5, 22, .inr (.inr (.inr (.inr f)))))]) (is := [0]) ln_Arrays_300 w_st_Arrays_copyOf_1 ok_Arrays_copyOf_0_Arrays_copyOf_1 d_Arrays_copyOf_0_6 ((fun w9 hI9 hC9 => C_Ar_copyOf3_22 g dd f w9 hC9 (by rw [z_I.same hI hI9]; exact hP))) rfl rfl (Nat.le_of_ble_eq_true rfl) rfl (by decide) (by omega) (by omega) (fun E cs1 hx => ?_) (fun v cs1 hx => ?_)
  · obtain ⟨q, e1, -⟩ := hx
    cases e1
  · obtain ⟨q, e1, rfl⟩ := hx
    cases e1
    refine ⟨rfl, ?_⟩
    refine y_st (st2 := [.ref q]) rfl ?_
    refine y_cs (cs2 := [(dd, .inl (5, 22, .inr (.inr (.inr (.inr f))))), (q, .inl (5, 33, .inr (.inr (.inr (.inr (va_cpy f (fun _ => none) 0 0 22))))))]) rfl ?_
    refine y_aret d_Arrays_copyOf_0_9 rfl (Or.inr ⟨_, rfl⟩) (Or.inr ⟨_, rfl⟩) ?_
    exact fun w1 h1 => ⟨_, ⟨q, rfl, rfl⟩, h1⟩
set_option maxHeartbeats 4000000 in
set_option maxRecDepth 100000 in
theorem C_AL_growI22 (g : zG) (a dd : Nat) (md : Int32) (f : Nat → Option Nat) : CP g M_AL_grow_1 [.ref a, .int 23] [(a, .inr (13, [.int md, .ref dd, .int 22])), (dd, .inl (5, 22, .inr (.inr (.inr (.inr f)))))] (fun w => z_obE w 22 f 0) (fun o cs1 => ∃ q, o = .inl (some (.ref q)) ∧ cs1 = [(a, .inr (13, [.int md, .ref q, .int 22])), (dd, .inl (5, 22, .inr (.inr (.inr (.inr f))))), (q, .inl (5, 33, .inr (.inr (.inr (.inr (va_cpy f (fun _ => none) 0 0 22))))))]) 1 33 := by
  intro w hI hP
  refine y_ofM (by decide) rfl (Nat.le_of_ble_eq_true rfl) (y_base hI ?_)
  refine y_lvE (lv2 := [(0, .ref a), (1, .int 23)]) rfl ?_
  refine y_aload_n d_AL_grow_1_0 rfl 0 rfl ?_
  refine y_get fs_AL_9 d_AL_grow_1_1 (q0 := 0) rfl rfl ?_
  refine y_alen d_AL_grow_1_4 (q0 := 1) rfl rfl (v := 22) rfl ?_
  refine y_istore_n (lv' := [(2, .int 22), (0, .ref a), (1, .int 23)]) d_AL_grow_1_5 rfl (by decide) rfl ?_
  refine y_iload_n d_AL_grow_1_6 rfl 0 rfl ?_
  refine y_if_gt (tgt := 20) d_AL_grow_1_7 (by decide) (fun c_7 => ?_) (fun c_7 => ?_)
  · refine y_iload_n d_AL_grow_1_20 rfl 0 rfl ?_
    refine y_iload_n d_AL_grow_1_21 rfl 2 rfl ?_
    refine y_iload_n d_AL_grow_1_22 rfl 0 rfl ?_
    refine y_isub d_AL_grow_1_23 (v := 1) rfl ?_
    refine y_iload_n d_AL_grow_1_24 rfl 0 rfl ?_
    refine y_iconst d_AL_grow_1_25 (v := 1) (by decide) ?_
    refine y_ishr d_AL_grow_1_26 (v := 11) (by decide) ?_
    refine yp_callS (As := [.int 22, .int 1, .int 11]) (rest := []) (csC := []) (is := []) ln_AL_73 w_st_ArraysSupport_newLength ok_AL_grow_1_ArraysSupport_newLength d_AL_grow_1_27 ((fun w9 hI9 hC9 => C_As_newLength22 g w9 hC9 trivial)) rfl rfl (Nat.le_of_ble_eq_true rfl) rfl (by decide) (by omega) (by omega) (fun E cs1 hx => ?_) (fun v cs1 hx => ?_)
    · exact absurd hx.1 (by simp)
    · obtain ⟨e1, rfl⟩ := hx
      cases e1
      refine ⟨rfl, ?_⟩
      refine y_st (st2 := [.int 33]) rfl ?_
      refine y_cs (cs2 := [(a, .inr (13, [.int md, .ref dd, .int 22])), (dd, .inl (5, 22, .inr (.inr (.inr (.inr f)))))]) rfl ?_
      refine y_istore_n (lv' := [(3, .int 33), (2, .int 22), (0, .ref a), (1, .int 23)]) d_AL_grow_1_30 rfl (by decide) rfl ?_
      refine y_aload_n d_AL_grow_1_31 rfl 2 rfl ?_
      refine y_aload_n d_AL_grow_1_32 rfl 2 rfl ?_
      refine y_get fs_AL_9 d_AL_grow_1_33 (q0 := 0) rfl rfl ?_
      refine y_iload_n d_AL_grow_1_36 rfl 0 rfl ?_
      refine yp_callS (As := [.ref dd, .int 33]) (rest := [.ref a]) (csC := [(dd, .inl (5, 22, .inr (.inr (.inr (.inr f)))))]) (is := [1]) ln_AL_66 w_st_Arrays_copyOf_0 ok_AL_grow_1_Arrays_copyOf_0 d_AL_grow_1_37 ((fun w9 hI9 hC9 => C_Ar_copyOf2_22 g dd f w9 hC9 (by rw [z_I.same hI hI9]; exact hP))) rfl rfl (Nat.le_of_ble_eq_true rfl) rfl (by decide) (by omega) (by omega) (fun E cs1 hx => ?_) (fun v cs1 hx => ?_)
      · obtain ⟨q, e1, -⟩ := hx
        cases e1
      · obtain ⟨q, e1, rfl⟩ := hx
        cases e1
        refine ⟨rfl, ?_⟩
        refine y_st (st2 := [.ref q, .ref a]) rfl ?_
        refine y_cs (cs2 := [(a, .inr (13, [.int md, .ref dd, .int 22])), (dd, .inl (5, 22, .inr (.inr (.inr (.inr f))))), (q, .inl (5, 33, .inr (.inr (.inr (.inr (va_cpy f (fun _ => none) 0 0 22))))))]) rfl ?_
        refine y_dupx1 d_AL_grow_1_40 rfl rfl ?_
        refine y_put fp_AL_9 d_AL_grow_1_41 (fun h => nomatch h) rfl rfl (q0 := 0) rfl (Nat.le_of_ble_eq_true rfl) (cs' := [(a, .inr (13, [.int md, .ref q, .int 22])), (dd, .inl (5, 22, .inr (.inr (.inr (.inr f))))), (q, .inl (5, 33, .inr (.inr (.inr (.inr (va_cpy f (fun _ => none) 0 0 22))))))]) rfl ?_
        refine y_aret d_AL_grow_1_44 rfl (Or.inr ⟨_, rfl⟩) (Or.inr ⟨_, rfl⟩) ?_
        exact fun w1 h1 => ⟨_, ⟨q, rfl, rfl⟩, h1⟩
  · exact absurd c_7 (by decide)
set_option maxHeartbeats 4000000 in
set_option maxRecDepth 100000 in
theorem C_AL_grow22 (g : zG) (a dd : Nat) (md : Int32) (f : Nat → Option Nat) : CP g M_AL_grow_0 [.ref a] [(a, .inr (13, [.int md, .ref dd, .int 22])), (dd, .inl (5, 22, .inr (.inr (.inr (.inr f)))))] (fun w => z_obE w 22 f 0) (fun o cs1 => ∃ q, o = .inl (some (.ref q)) ∧ cs1 = [(a, .inr (13, [.int md, .ref q, .int 22])), (dd, .inl (5, 22, .inr (.inr (.inr (.inr f))))), (q, .inl (5, 33, .inr (.inr (.inr (.inr (va_cpy f (fun _ => none) 0 0 22))))))]) 1 33 := by
  intro w hI hP
  refine y_ofM (by decide) rfl (Nat.le_of_ble_eq_true rfl) (y_base hI ?_)
  refine y_lvE (lv2 := [(0, .ref a)]) rfl ?_
  refine y_aload_n d_AL_grow_0_0 rfl 0 rfl ?_
  refine y_aload_n d_AL_grow_0_1 rfl 0 rfl ?_
  refine y_get fs_AL_48 d_AL_grow_0_2 (q0 := 0) rfl rfl ?_
  refine y_iconst d_AL_grow_0_5 (v := 1) (by decide) ?_
  refine y_iadd d_AL_grow_0_6 (v := 23) rfl ?_
  refine yp_callV (As := [.int 23]) (rest := []) (csC := [(a, .inr (13, [.int md, .ref dd, .int 22])), (dd, .inl (5, 22, .inr (.inr (.inr (.inr f)))))]) (is := [0, 1]) (q0 := 0) rfl rfl ln_AL_69 w_im_AL_grow_1 w_se_AL_grow_1 ok_AL_grow_0_AL_grow_1 d_AL_grow_0_7 ((fun w9 hI9 hC9 => C_AL_growI22 g a dd md f w9 hC9 (by rw [z_I.same hI hI9]; exact hP))) rfl rfl (Nat.le_of_ble_eq_true rfl) rfl (by decide) (by omega) (by omega) (fun E cs1 hx => ?_) (fun v cs1 hx => ?_)
  · obtain ⟨q, e1, -⟩ := hx
    cases e1
  · obtain ⟨q, e1, rfl⟩ := hx
    cases e1
    refine ⟨rfl, ?_⟩
    refine y_st (st2 := [.ref q]) rfl ?_
    refine y_cs (cs2 := [(a, .inr (13, [.int md, .ref q, .int 22])), (dd, .inl (5, 22, .inr (.inr (.inr (.inr f))))), (q, .inl (5, 33, .inr (.inr (.inr (.inr (va_cpy f (fun _ => none) 0 0 22))))))]) rfl ?_
    refine y_aret d_AL_grow_0_10 rfl (Or.inr ⟨_, rfl⟩) (Or.inr ⟨_, rfl⟩) ?_
    exact fun w1 h1 => ⟨_, ⟨q, rfl, rfl⟩, h1⟩
set_option maxHeartbeats 4000000 in
set_option maxRecDepth 100000 in
theorem C_AL_addAG22 (g : zG) (a v dd : Nat) (md : Int32) (f : Nat → Option Nat) (ek : zE) (ho : z_ob ek) : CP g M_AL_add_1 [.ref a, .ref v, .ref dd, .int 22] [(a, .inr (13, [.int md, .ref dd, .int 22])), (v, ek), (dd, .inl (5, 22, .inr (.inr (.inr (.inr f)))))] (fun w => z_obE w 22 f 0) (fun o cs1 => ∃ q, o = .inl none ∧ cs1 = [(a, .inr (13, [.int md, .ref q, .int 23])), (v, ek), (dd, .inl (5, 22, .inr (.inr (.inr (.inr f))))), (q, .inl (5, 33, .inr (.inr (.inr (.inr (va_up (va_cpy f (fun _ => none) 0 0 22) 22 (some v)))))))]) 1 33 := by
  intro w hI hP
  refine y_ofM (by decide) rfl (Nat.le_of_ble_eq_true rfl) (y_base hI ?_)
  refine y_lvE (lv2 := [(0, .ref a), (1, .ref v), (2, .ref dd), (3, .int 22)]) rfl ?_
  refine y_iload_n d_AL_add_1_0 rfl 3 rfl ?_
  refine y_aload_n d_AL_add_1_1 rfl 2 rfl ?_
  refine y_alen d_AL_add_1_2 (q0 := 2) rfl rfl (v := 22) rfl ?_
  refine y_icmp_ne (tgt := 11) d_AL_add_1_3 (by decide) (fun c_3 => ?_) (fun c_3 => ?_)
  · exact absurd c_3 (by decide)
  · refine y_aload_n d_AL_add_1_6 rfl 0 rfl ?_
    refine yp_callV (As := []) (rest := []) (csC := [(a, .inr (13, [.int md, .ref dd, .int 22])), (dd, .inl (5, 22, .inr (.inr (.inr (.inr f)))))]) (is := [0, 2]) (q0 := 0) rfl rfl ln_AL_129 w_im_AL_grow_0 w_se_AL_grow_0 ok_AL_add_1_AL_grow_0 d_AL_add_1_7 ((fun w9 hI9 hC9 => C_AL_grow22 g a dd md f w9 hC9 (by rw [z_I.same hI hI9]; exact hP))) rfl rfl (Nat.le_of_ble_eq_true rfl) rfl (by decide) (by omega) (by omega) (fun E cs1 hx => ?_) (fun v cs1 hx => ?_)
    · obtain ⟨q, e1, -⟩ := hx
      cases e1
    · obtain ⟨q, e1, rfl⟩ := hx
      cases e1
      refine ⟨rfl, ?_⟩
      refine y_st (st2 := [.ref q]) rfl ?_
      refine y_cs (cs2 := [(a, .inr (13, [.int md, .ref q, .int 22])), (v, ek), (dd, .inl (5, 22, .inr (.inr (.inr (.inr f))))), (q, .inl (5, 33, .inr (.inr (.inr (.inr (va_cpy f (fun _ => none) 0 0 22))))))]) rfl ?_
      refine y_astore_n (lv' := [(2, .ref q), (0, .ref a), (1, .ref v), (3, .int 22)]) d_AL_add_1_10 rfl (by decide) rfl ?_
      refine y_aload_n d_AL_add_1_11 rfl 0 rfl ?_
      refine y_iload_n d_AL_add_1_12 rfl 3 rfl ?_
      refine y_aload_n d_AL_add_1_13 rfl 2 rfl ?_
      refine y_aast d_AL_add_1_14 (q0 := 3) (qk := 1) rfl rfl ho (fun q => q.elim (by decide) (by decide)) (f' := va_up (va_cpy f (fun _ => none) 0 0 22) 22 (some v)) rfl (cs' := [(a, .inr (13, [.int md, .ref q, .int 22])), (v, ek), (dd, .inl (5, 22, .inr (.inr (.inr (.inr f))))), (q, .inl (5, 33, .inr (.inr (.inr (.inr (va_up (va_cpy f (fun _ => none) 0 0 22) 22 (some v)))))))]) rfl ?_
      refine y_aload_n d_AL_add_1_15 rfl 1 rfl ?_
      refine y_iload_n d_AL_add_1_16 rfl 3 rfl ?_
      refine y_iconst d_AL_add_1_17 (v := 1) (by decide) ?_
      refine y_iadd d_AL_add_1_18 (v := 23) rfl ?_
      refine y_put fp_AL_48 d_AL_add_1_19 (fun h => nomatch h) rfl rfl (q0 := 0) rfl (Nat.le_of_ble_eq_true rfl) (cs' := [(a, .inr (13, [.int md, .ref q, .int 23])), (v, ek), (dd, .inl (5, 22, .inr (.inr (.inr (.inr f))))), (q, .inl (5, 33, .inr (.inr (.inr (.inr (va_up (va_cpy f (fun _ => none) 0 0 22) 22 (some v)))))))]) rfl ?_
      refine y_vret d_AL_add_1_22 rfl ?_
      exact fun w1 h1 => ⟨_, ⟨q, rfl, rfl⟩, h1⟩
set_option maxHeartbeats 4000000 in
set_option maxRecDepth 100000 in
theorem C_AL_addG22 (g : zG) (a v dd : Nat) (md : Int32) (f : Nat → Option Nat) (ek : zE) (ho : z_ob ek) : CP g M_AL_add_0 [.ref a, .ref v] [(a, .inr (13, [.int md, .ref dd, .int 22])), (v, ek), (dd, .inl (5, 22, .inr (.inr (.inr (.inr f)))))] (fun w => z_obE w 22 f 0) (fun o cs1 => ∃ q, o = .inl (some (.int 1)) ∧ cs1 = [(a, .inr (13, [.int (md + 1), .ref q, .int 23])), (v, ek), (dd, .inl (5, 22, .inr (.inr (.inr (.inr f))))), (q, .inl (5, 33, .inr (.inr (.inr (.inr (va_up (va_cpy f (fun _ => none) 0 0 22) 22 (some v)))))))]) 1 33 := by
  intro w hI hP
  refine y_ofM (by decide) rfl (Nat.le_of_ble_eq_true rfl) (y_base hI ?_)
  refine y_lvE (lv2 := [(0, .ref a), (1, .ref v)]) rfl ?_
  refine y_aload_n d_AL_add_0_0 rfl 0 rfl ?_
  refine y_dup d_AL_add_0_1 rfl ?_
  refine y_get fs_AL_63 d_AL_add_0_2 (q0 := 0) rfl rfl ?_
  refine y_iconst d_AL_add_0_5 (v := 1) (by decide) ?_
  refine y_iadd d_AL_add_0_6 (v := md + 1) rfl ?_
  refine y_put fp_AL_63 d_AL_add_0_7 (fun h => nomatch h) rfl rfl (q0 := 0) rfl (Nat.le_of_ble_eq_true rfl) (cs' := [(a, .inr (13, [.int (md + 1), .ref dd, .int 22])), (v, ek), (dd, .inl (5, 22, .inr (.inr (.inr (.inr f)))))]) rfl ?_
  refine y_aload_n d_AL_add_0_10 rfl 0 rfl ?_
  refine y_aload_n d_AL_add_0_11 rfl 1 rfl ?_
  refine y_aload_n d_AL_add_0_12 rfl 0 rfl ?_
  refine y_get fs_AL_9 d_AL_add_0_13 (q0 := 0) rfl rfl ?_
  refine y_aload_n d_AL_add_0_16 rfl 0 rfl ?_
  refine y_get fs_AL_48 d_AL_add_0_17 (q0 := 0) rfl rfl ?_
  refine yp_callV (As := [.ref v, .ref dd, .int 22]) (rest := []) (csC := [(a, .inr (13, [.int (md + 1), .ref dd, .int 22])), (v, ek), (dd, .inl (5, 22, .inr (.inr (.inr (.inr f)))))]) (is := [0, 1, 2]) (q0 := 0) rfl rfl ln_AL_131 w_im_AL_add_1 w_se_AL_add_1 ok_AL_add_0_AL_add_1 d_AL_add_0_20 ((fun w9 hI9 hC9 => C_AL_addAG22 g a v dd (md + 1) f ek ho w9 hC9 (hP.obK (hI9.ke (L := [a, v, dd]) rfl) (fun q8 hq8 => by simp only [List.mem_cons, List.not_mem_nil, or_false] at hq8; rcases hq8 with rfl | rfl | rfl; exact ⟨_, hI.1 _ List.mem_cons_self, Or.inr (Or.inl rfl)⟩; exact ⟨_, hI.1 _ (List.mem_cons_of_mem _ List.mem_cons_self), Or.inr (Or.inr (hI9.1 _ (List.mem_cons_of_mem _ List.mem_cons_self)))⟩; exact ⟨_, hI.1 _ (List.mem_cons_of_mem _ (List.mem_cons_of_mem _ List.mem_cons_self)), Or.inl ⟨rfl, rfl⟩⟩)))) rfl rfl (Nat.le_of_ble_eq_true rfl) rfl (by decide) (by omega) (by omega) (fun E cs1 hx => ?_) (fun v cs1 hx => ?_)
  · obtain ⟨q, e1, -⟩ := hx
    cases e1
  · obtain ⟨q, e1, rfl⟩ := hx
    cases e1
    refine ⟨rfl, ?_⟩
    refine y_st (st2 := []) rfl ?_
    refine y_cs (cs2 := [(a, .inr (13, [.int (md + 1), .ref q, .int 23])), (v, ek), (dd, .inl (5, 22, .inr (.inr (.inr (.inr f))))), (q, .inl (5, 33, .inr (.inr (.inr (.inr (va_up (va_cpy f (fun _ => none) 0 0 22) 22 (some v)))))))]) rfl ?_
    refine y_iconst d_AL_add_0_23 (v := 1) (by decide) ?_
    refine y_iret d_AL_add_0_24 rfl rfl ?_
    exact fun w1 h1 => ⟨_, ⟨q, rfl, rfl⟩, h1⟩
abbrev M_AL_fastRemove : zM := (⟨"java/util/ArrayList", "fastRemove", "([Ljava/lang/Object;I)V"⟩, prog_40_method_39_code, 4, (Option.none : Option FieldType), 2, 100, [])
theorem d_AL_fastRemove_0 : decode prog_40_method_39_code 0 = .ok (.aload_n 0, 1) := zo_42 (zd_b zq_prog_40_method_39_code_0 0 rfl rfl rfl)
theorem d_AL_fastRemove_1 : decode prog_40_method_39_code 1 = .ok (.dup, 1) := zo_89 (zd_b zq_prog_40_method_39_code_0 1 rfl rfl rfl)
theorem d_AL_fastRemove_2 : decode prog_40_method_39_code 2 = .ok (.getfield 63, 3) := zo_180 (d := 0) (e := 63) (zd_b zq_prog_40_method_39_code_0 2 rfl rfl rfl) (zd_b zq_prog_40_method_39_code_0 3 rfl rfl rfl) (zd_b zq_prog_40_method_39_code_0 4 rfl rfl rfl)
theorem d_AL_fastRemove_5 : decode prog_40_method_39_code 5 = .ok (.iconst 1, 1) := zo_4 (zd_b zq_prog_40_method_39_code_0 5 rfl rfl rfl)
theorem d_AL_fastRemove_6 : decode prog_40_method_39_code 6 = .ok (.iadd, 1) := zo_96 (zd_b zq_prog_40_method_39_code_0 6 rfl rfl rfl)
theorem d_AL_fastRemove_7 : decode prog_40_method_39_code 7 = .ok (.putfield 63, 3) := zo_181 (d := 0) (e := 63) (zd_b zq_prog_40_method_39_code_0 7 rfl rfl rfl) (zd_b zq_prog_40_method_39_code_0 8 rfl rfl rfl) (zd_b zq_prog_40_method_39_code_0 9 rfl rfl rfl)
theorem d_AL_fastRemove_10 : decode prog_40_method_39_code 10 = .ok (.aload_n 0, 1) := zo_42 (zd_b zq_prog_40_method_39_code_0 10 rfl rfl rfl)
theorem d_AL_fastRemove_11 : decode prog_40_method_39_code 11 = .ok (.getfield 48, 3) := zo_180 (d := 0) (e := 48) (zd_b zq_prog_40_method_39_code_0 11 rfl rfl rfl) (zd_b zq_prog_40_method_39_code_0 12 rfl rfl rfl) (zd_b zq_prog_40_method_39_code_0 13 rfl rfl rfl)
theorem d_AL_fastRemove_14 : decode prog_40_method_39_code 14 = .ok (.iconst 1, 1) := zo_4 (zd_b zq_prog_40_method_39_code_0 14 rfl rfl rfl)
theorem d_AL_fastRemove_15 : decode prog_40_method_39_code 15 = .ok (.isub, 1) := zo_100 (zd_b zq_prog_40_method_39_code_0 15 rfl rfl rfl)
theorem d_AL_fastRemove_16 : decode prog_40_method_39_code 16 = .ok (.dup, 1) := zo_89 (zd_b zq_prog_40_method_39_code_0 16 rfl rfl rfl)
theorem d_AL_fastRemove_17 : decode prog_40_method_39_code 17 = .ok (.istore_n 3, 1) := zo_62 (zd_b zq_prog_40_method_39_code_0 17 rfl rfl rfl)
theorem d_AL_fastRemove_18 : decode prog_40_method_39_code 18 = .ok (.iload_n 2, 1) := zo_28 (zd_b zq_prog_40_method_39_code_0 18 rfl rfl rfl)
theorem d_AL_fastRemove_19 : decode prog_40_method_39_code 19 = .ok (.if_icmp .le 15, 3) := zo_164 (d := 0) (e := 15) (zd_b zq_prog_40_method_39_code_0 19 rfl rfl rfl) (zd_b zq_prog_40_method_39_code_0 20 rfl rfl rfl) (zd_b zq_prog_40_method_39_code_0 21 rfl rfl rfl) (by decide +kernel)
theorem d_AL_fastRemove_34 : decode prog_40_method_39_code 34 = .ok (.aload_n 1, 1) := zo_43 (zd_b zq_prog_40_method_39_code_1 2 rfl rfl rfl)
theorem d_AL_fastRemove_35 : decode prog_40_method_39_code 35 = .ok (.aload_n 0, 1) := zo_42 (zd_b zq_prog_40_method_39_code_1 3 rfl rfl rfl)
theorem d_AL_fastRemove_36 : decode prog_40_method_39_code 36 = .ok (.iload_n 3, 1) := zo_29 (zd_b zq_prog_40_method_39_code_1 4 rfl rfl rfl)
theorem d_AL_fastRemove_37 : decode prog_40_method_39_code 37 = .ok (.dup_x1, 1) := zo_90 (zd_b zq_prog_40_method_39_code_1 5 rfl rfl rfl)
theorem d_AL_fastRemove_38 : decode prog_40_method_39_code 38 = .ok (.putfield 48, 3) := zo_181 (d := 0) (e := 48) (zd_b zq_prog_40_method_39_code_1 6 rfl rfl rfl) (zd_b zq_prog_40_method_39_code_1 7 rfl rfl rfl) (zd_b zq_prog_40_method_39_code_1 8 rfl rfl rfl)
theorem d_AL_fastRemove_41 : decode prog_40_method_39_code 41 = .ok (.aconst_null, 1) := zo_1 (zd_b zq_prog_40_method_39_code_1 9 rfl rfl rfl)
theorem d_AL_fastRemove_42 : decode prog_40_method_39_code 42 = .ok (.aastore, 1) := zo_83 (zd_b zq_prog_40_method_39_code_1 10 rfl rfl rfl)
theorem d_AL_fastRemove_43 : decode prog_40_method_39_code 43 = .ok (.return_, 1) := zo_177 (zd_b zq_prog_40_method_39_code_1 11 rfl rfl rfl)
theorem d_AL_fastRemove_22 : decode prog_40_method_39_code 22 = .ok (.aload_n 1, 1) := zo_43 (zd_b zq_prog_40_method_39_code_0 22 rfl rfl rfl)
theorem d_AL_fastRemove_23 : decode prog_40_method_39_code 23 = .ok (.iload_n 2, 1) := zo_28 (zd_b zq_prog_40_method_39_code_0 23 rfl rfl rfl)
theorem d_AL_fastRemove_24 : decode prog_40_method_39_code 24 = .ok (.iconst 1, 1) := zo_4 (zd_b zq_prog_40_method_39_code_0 24 rfl rfl rfl)
theorem d_AL_fastRemove_25 : decode prog_40_method_39_code 25 = .ok (.iadd, 1) := zo_96 (zd_b zq_prog_40_method_39_code_0 25 rfl rfl rfl)
theorem d_AL_fastRemove_26 : decode prog_40_method_39_code 26 = .ok (.aload_n 1, 1) := zo_43 (zd_b zq_prog_40_method_39_code_0 26 rfl rfl rfl)
theorem d_AL_fastRemove_27 : decode prog_40_method_39_code 27 = .ok (.iload_n 2, 1) := zo_28 (zd_b zq_prog_40_method_39_code_0 27 rfl rfl rfl)
theorem d_AL_fastRemove_28 : decode prog_40_method_39_code 28 = .ok (.iload_n 3, 1) := zo_29 (zd_b zq_prog_40_method_39_code_0 28 rfl rfl rfl)
theorem d_AL_fastRemove_29 : decode prog_40_method_39_code 29 = .ok (.iload_n 2, 1) := zo_28 (zd_b zq_prog_40_method_39_code_0 29 rfl rfl rfl)
theorem d_AL_fastRemove_30 : decode prog_40_method_39_code 30 = .ok (.isub, 1) := zo_100 (zd_b zq_prog_40_method_39_code_0 30 rfl rfl rfl)
theorem d_AL_fastRemove_31 : decode prog_40_method_39_code 31 = .ok (.invokestatic 112, 3) := zo_184 (d := 0) (e := 112) (zd_b zq_prog_40_method_39_code_0 31 rfl rfl rfl) (zd_b zq_prog_40_method_39_code_1 0 rfl rfl rfl) (zd_b zq_prog_40_method_39_code_1 1 rfl rfl rfl)
theorem ln_AL_112 : Cond.methodLink "java/util/ArrayList" 112 arraycopyName ∈ z_gw := z_mj6 (i := 127) rfl (by decide +kernel)
set_option maxHeartbeats 4000000 in
set_option maxRecDepth 100000 in
theorem C_AL_fastRemove (g : zG) (a dd N : Nat) (md : Int32) (f : Nat → Option Nat) (i k : Nat) (hik : i ≤ k) (hkN : k < N) (hN : N < 1000) : CP g M_AL_fastRemove [.ref a, .ref dd, .int (nI i)] [(a, .inr (13, [.int md, .ref dd, .int (nI (k + 1))])), (dd, .inl (5, N, .inr (.inr (.inr (.inr f)))))] (fun w => z_obE w (k - i) f (i + 1)) (fun o cs1 => o = .inl none ∧ cs1 = [(a, .inr (13, [.int (md + 1), .ref dd, .int (nI k)])), (dd, .inl (5, N, .inr (.inr (.inr (.inr (rmv f i k))))))]) 0 0 := by
  intro w hI hP
  refine y_ofM (by decide) rfl (Nat.le_of_ble_eq_true rfl) (y_base hI ?_)
  refine y_lvE (lv2 := [(0, .ref a), (1, .ref dd), (2, .int (nI i))]) rfl ?_
  refine y_aload_n d_AL_fastRemove_0 rfl 0 rfl ?_
  refine y_dup d_AL_fastRemove_1 rfl ?_
  refine y_get fs_AL_63 d_AL_fastRemove_2 (q0 := 0) rfl rfl ?_
  refine y_iconst d_AL_fastRemove_5 (v := 1) (by decide) ?_
  refine y_iadd d_AL_fastRemove_6 (v := md + 1) rfl ?_
  refine y_put fp_AL_63 d_AL_fastRemove_7 (fun h => nomatch h) rfl rfl (q0 := 0) rfl (Nat.le_of_ble_eq_true rfl) (cs' := [(a, .inr (13, [.int (md + 1), .ref dd, .int (nI (k + 1))])), (dd, .inl (5, N, .inr (.inr (.inr (.inr f)))))]) rfl ?_
  refine y_aload_n d_AL_fastRemove_10 rfl 0 rfl ?_
  refine y_get fs_AL_48 d_AL_fastRemove_11 (q0 := 0) rfl rfl ?_
  refine y_iconst d_AL_fastRemove_14 (v := 1) (by decide) ?_
  refine y_isub d_AL_fastRemove_15 (v := nI k) (nI_prd k) ?_
  refine y_dup d_AL_fastRemove_16 rfl ?_
  refine y_istore_n (lv' := [(3, .int (nI k)), (0, .ref a), (1, .ref dd), (2, .int (nI i))]) d_AL_fastRemove_17 rfl (by decide) rfl ?_
  refine y_iload_n d_AL_fastRemove_18 rfl 3 rfl ?_
  refine y_icmp_le (tgt := 34) d_AL_fastRemove_19 (by decide) (fun c_19 => ?_) (fun c_19 => ?_)
  · have hik2 : k - i = 0 := by have := z_le (a := k) (b := i) (by omega) (by omega) c_19; omega
    refine y_aload_n d_AL_fastRemove_34 rfl 2 rfl ?_
    refine y_aload_n d_AL_fastRemove_35 rfl 1 rfl ?_
    refine y_iload_n d_AL_fastRemove_36 rfl 0 rfl ?_
    refine y_dupx1 d_AL_fastRemove_37 rfl rfl ?_
    refine y_put fp_AL_48 d_AL_fastRemove_38 (fun h => nomatch h) rfl rfl (q0 := 0) rfl (Nat.le_of_ble_eq_true rfl) (cs' := [(a, .inr (13, [.int (md + 1), .ref dd, .int (nI k)])), (dd, .inl (5, N, .inr (.inr (.inr (.inr f)))))]) rfl ?_
    refine y_null d_AL_fastRemove_41 ?_
    refine y_aastN d_AL_fastRemove_42 (q0 := 1) rfl (vp_in_nI (by omega) (by omega)) (f' := va_up f k none) (by rw [nI_clamp (by omega)]) (cs' := [(a, .inr (13, [.int (md + 1), .ref dd, .int (nI k)])), (dd, .inl (5, N, .inr (.inr (.inr (.inr (va_up f k none))))))]) rfl ?_
    refine y_vret d_AL_fastRemove_43 rfl ?_
    exact fun w1 h1 => ⟨_, ⟨rfl, by first | rfl | (unfold rmv; rw [hik2, va_cpy0])⟩, h1⟩
  · refine y_aload_n d_AL_fastRemove_22 rfl 2 rfl ?_
    refine y_iload_n d_AL_fastRemove_23 rfl 3 rfl ?_
    refine y_iconst d_AL_fastRemove_24 (v := 1) (by decide) ?_
    refine y_iadd d_AL_fastRemove_25 (v := nI (i + 1)) (nI_add _ _) ?_
    refine y_aload_n d_AL_fastRemove_26 rfl 2 rfl ?_
    refine y_iload_n d_AL_fastRemove_27 rfl 3 rfl ?_
    refine y_iload_n d_AL_fastRemove_28 rfl 0 rfl ?_
    refine y_iload_n d_AL_fastRemove_29 rfl 3 rfl ?_
    refine y_isub d_AL_fastRemove_30 (v := nI (k - i)) (nI_sub hik) ?_
    refine y_copyq (f' := va_cpy f f (i + 1) i (k - i)) (q0 := 1) (q1 := 1) (cs' := [(a, .inr (13, [.int (md + 1), .ref dd, .int (nI (k + 1))])), (dd, .inl (5, N, .inr (.inr (.inr (.inr (va_cpy f f (i + 1) i (k - i)))))))]) ln_AL_112 w_ac1 w_ac2 w_ac3 d_AL_fastRemove_31 rfl rfl (nI_nneg (by omega)) (nI_nneg (by omega)) (nI_nneg (by omega)) (by rw [nI_clamp (by omega), nI_clamp (by omega)]; omega) (by rw [nI_clamp (by omega), nI_clamp (by omega)]; omega) (fun w9 hC => by rw [nI_clamp (by omega), nI_clamp (by omega)]; exact (hP.ob (hC.ke (L := [a, dd]) rfl) (fun q8 hq8 => by simp only [List.mem_cons, List.not_mem_nil, or_false] at hq8; rcases hq8 with rfl | rfl; exact ⟨_, hI.1 _ List.mem_cons_self, Or.inr (Or.inl rfl)⟩; exact ⟨_, hI.1 _ (List.mem_cons_of_mem _ List.mem_cons_self), Or.inl ⟨rfl, rfl⟩⟩))) (by rw [nI_clamp (by omega), nI_clamp (by omega), nI_clamp (by omega)]) rfl (by decide) (by decide +kernel) (Nat.le_of_ble_eq_true rfl) ?_
    refine y_aload_n d_AL_fastRemove_34 rfl 2 rfl ?_
    refine y_aload_n d_AL_fastRemove_35 rfl 1 rfl ?_
    refine y_iload_n d_AL_fastRemove_36 rfl 0 rfl ?_
    refine y_dupx1 d_AL_fastRemove_37 rfl rfl ?_
    refine y_put fp_AL_48 d_AL_fastRemove_38 (fun h => nomatch h) rfl rfl (q0 := 0) rfl (Nat.le_of_ble_eq_true rfl) (cs' := [(a, .inr (13, [.int (md + 1), .ref dd, .int (nI k)])), (dd, .inl (5, N, .inr (.inr (.inr (.inr (va_cpy f f (i + 1) i (k - i)))))))]) rfl ?_
    refine y_null d_AL_fastRemove_41 ?_
    refine y_aastN d_AL_fastRemove_42 (q0 := 1) rfl (vp_in_nI (by omega) (by omega)) (f' := va_up (va_cpy f f (i + 1) i (k - i)) k none) (by rw [nI_clamp (by omega)]) (cs' := [(a, .inr (13, [.int (md + 1), .ref dd, .int (nI k)])), (dd, .inl (5, N, .inr (.inr (.inr (.inr (va_up (va_cpy f f (i + 1) i (k - i)) k none))))))]) rfl ?_
    refine y_vret d_AL_fastRemove_43 rfl ?_
    exact fun w1 h1 => ⟨_, ⟨rfl, by first | rfl | (unfold rmv; rw [hik2, va_cpy0])⟩, h1⟩
abbrev M_AL_remove : zM := (⟨"java/util/ArrayList", "remove", "(I)Ljava/lang/Object;"⟩, prog_40_method_29_code, 4, (Option.some (FieldType.object "java/lang/Object")), 3, 123, [])
theorem d_AL_remove_0 : decode prog_40_method_29_code 0 = .ok (.iload_n 1, 1) := zo_27 (zd_b zq_prog_40_method_29_code_0 0 rfl rfl rfl)
theorem d_AL_remove_1 : decode prog_40_method_29_code 1 = .ok (.aload_n 0, 1) := zo_42 (zd_b zq_prog_40_method_29_code_0 1 rfl rfl rfl)
theorem d_AL_remove_2 : decode prog_40_method_29_code 2 = .ok (.getfield 48, 3) := zo_180 (d := 0) (e := 48) (zd_b zq_prog_40_method_29_code_0 2 rfl rfl rfl) (zd_b zq_prog_40_method_29_code_0 3 rfl rfl rfl) (zd_b zq_prog_40_method_29_code_0 4 rfl rfl rfl)
theorem d_AL_remove_5 : decode prog_40_method_29_code 5 = .ok (.invokestatic 118, 3) := zo_184 (d := 0) (e := 118) (zd_b zq_prog_40_method_29_code_0 5 rfl rfl rfl) (zd_b zq_prog_40_method_29_code_0 6 rfl rfl rfl) (zd_b zq_prog_40_method_29_code_0 7 rfl rfl rfl)
theorem ok_AL_remove_Objects_checkIndex : z_ok M_AL_remove M_Objects_checkIndex 2 := ⟨z_mj2 (i := 183) rfl (by decide +kernel), rfl, ⟨by decide +kernel, by decide +kernel, by decide +kernel⟩, ⟨by decide, by decide⟩, z_mj1 (i := 32) rfl (by decide +kernel), rfl⟩
theorem d_AL_remove_8 : decode prog_40_method_29_code 8 = .ok (.pop, 1) := zo_87 (zd_b zq_prog_40_method_29_code_0 8 rfl rfl rfl)
theorem d_AL_remove_9 : decode prog_40_method_29_code 9 = .ok (.aload_n 0, 1) := zo_42 (zd_b zq_prog_40_method_29_code_0 9 rfl rfl rfl)
theorem d_AL_remove_10 : decode prog_40_method_29_code 10 = .ok (.getfield 9, 3) := zo_180 (d := 0) (e := 9) (zd_b zq_prog_40_method_29_code_0 10 rfl rfl rfl) (zd_b zq_prog_40_method_29_code_0 11 rfl rfl rfl) (zd_b zq_prog_40_method_29_code_0 12 rfl rfl rfl)
theorem d_AL_remove_13 : decode prog_40_method_29_code 13 = .ok (.astore_n 2, 1) := zo_77 (zd_b zq_prog_40_method_29_code_0 13 rfl rfl rfl)
theorem d_AL_remove_14 : decode prog_40_method_29_code 14 = .ok (.aload_n 2, 1) := zo_44 (zd_b zq_prog_40_method_29_code_0 14 rfl rfl rfl)
theorem d_AL_remove_15 : decode prog_40_method_29_code 15 = .ok (.iload_n 1, 1) := zo_27 (zd_b zq_prog_40_method_29_code_0 15 rfl rfl rfl)
theorem d_AL_remove_16 : decode prog_40_method_29_code 16 = .ok (.aaload, 1) := zo_50 (zd_b zq_prog_40_method_29_code_0 16 rfl rfl rfl)
theorem d_AL_remove_17 : decode prog_40_method_29_code 17 = .ok (.astore_n 3, 1) := zo_78 (zd_b zq_prog_40_method_29_code_0 17 rfl rfl rfl)
theorem d_AL_remove_18 : decode prog_40_method_29_code 18 = .ok (.aload_n 0, 1) := zo_42 (zd_b zq_prog_40_method_29_code_0 18 rfl rfl rfl)
theorem d_AL_remove_19 : decode prog_40_method_29_code 19 = .ok (.aload_n 2, 1) := zo_44 (zd_b zq_prog_40_method_29_code_0 19 rfl rfl rfl)
theorem d_AL_remove_20 : decode prog_40_method_29_code 20 = .ok (.iload_n 1, 1) := zo_27 (zd_b zq_prog_40_method_29_code_0 20 rfl rfl rfl)
theorem d_AL_remove_21 : decode prog_40_method_29_code 21 = .ok (.invokevirtual 144, 3) := zo_182 (d := 0) (e := 144) (zd_b zq_prog_40_method_29_code_0 21 rfl rfl rfl) (zd_b zq_prog_40_method_29_code_0 22 rfl rfl rfl) (zd_b zq_prog_40_method_29_code_0 23 rfl rfl rfl)
theorem ok_AL_remove_AL_fastRemove : z_ok M_AL_remove M_AL_fastRemove 2 := ⟨z_mj6 (i := 126) rfl (by decide +kernel), rfl, ⟨by decide +kernel, by decide +kernel, by decide +kernel⟩, ⟨by decide, by decide⟩, z_mj1 (i := 13) rfl (by decide +kernel), rfl⟩
theorem ln_AL_144 : Cond.methodLink "java/util/ArrayList" 144 M_AL_fastRemove.1 ∈ z_gw := z_mj6 (i := 123) rfl (by decide +kernel)
theorem w_im_AL_fastRemove : Cond.instanceMethod M_AL_fastRemove.1 ∈ z_gw := z_mj6 (i := 125) rfl (by decide +kernel)
theorem w_se_AL_fastRemove : Cond.selects M_AL_fastRemove.1.cls M_AL_fastRemove.1 M_AL_fastRemove.1 ∈ z_gw := z_mem (i := 25) (by decide +kernel) (by decide +kernel)
theorem d_AL_remove_24 : decode prog_40_method_29_code 24 = .ok (.aload_n 3, 1) := zo_45 (zd_b zq_prog_40_method_29_code_0 24 rfl rfl rfl)
theorem d_AL_remove_25 : decode prog_40_method_29_code 25 = .ok (.areturn, 1) := zo_176 (zd_b zq_prog_40_method_29_code_0 25 rfl rfl rfl)
set_option maxHeartbeats 4000000 in
set_option maxRecDepth 100000 in
theorem C_AL_remove (g : zG) (a dd N : Nat) (md : Int32) (f : Nat → Option Nat) (i k : Nat) (hik : i ≤ k) (hkN : k < N) (hN : N < 1000) (v : Nat) (hv : f i = some v) : CP g M_AL_remove [.ref a, .int (nI i)] [(a, .inr (13, [.int md, .ref dd, .int (nI (k + 1))])), (dd, .inl (5, N, .inr (.inr (.inr (.inr f)))))] (fun w => z_obE w (k - i) f (i + 1)) (fun o cs1 => o = .inl (some (.ref v)) ∧ cs1 = [(a, .inr (13, [.int (md + 1), .ref dd, .int (nI k)])), (dd, .inl (5, N, .inr (.inr (.inr (.inr (rmv f i k))))))]) 0 0 := by
  intro w hI hP
  refine y_ofM (by decide) rfl (Nat.le_of_ble_eq_true rfl) (y_base hI ?_)
  refine y_lvE (lv2 := [(0, .ref a), (1, .int (nI i))]) rfl ?_
  refine y_iload_n d_AL_remove_0 rfl 1 rfl ?_
  refine y_aload_n d_AL_remove_1 rfl 0 rfl ?_
  refine y_get fs_AL_48 d_AL_remove_2 (q0 := 0) rfl rfl ?_
  refine yp_callS (As := [.int (nI i), .int (nI (k + 1))]) (rest := []) (csC := []) (is := []) ln_AL_118 w_st_Objects_checkIndex ok_AL_remove_Objects_checkIndex d_AL_remove_5 ((fun w9 hI9 hC9 => C_Ob_checkIndex g (nI i) (nI (k + 1)) (nI_nneg (by omega)) ((nI_ltI (by omega) (by omega)).mpr (by omega)) w9 hC9)) rfl rfl (Nat.le_of_ble_eq_true rfl) rfl (by decide) (by omega) (by omega) (fun E cs1 hx => ?_) (fun v cs1 hx => ?_)
  · exact absurd hx.1 (by simp)
  · obtain ⟨e1, rfl⟩ := hx
    cases e1
    refine ⟨rfl, ?_⟩
    refine y_st (st2 := [.int (nI i)]) rfl ?_
    refine y_cs (cs2 := [(a, .inr (13, [.int md, .ref dd, .int (nI (k + 1))])), (dd, .inl (5, N, .inr (.inr (.inr (.inr f)))))]) rfl ?_
    refine y_pop d_AL_remove_8 rfl ?_
    refine y_aload_n d_AL_remove_9 rfl 0 rfl ?_
    refine y_get fs_AL_9 d_AL_remove_10 (q0 := 0) rfl rfl ?_
    refine y_astore_n (lv' := [(2, .ref dd), (0, .ref a), (1, .int (nI i))]) d_AL_remove_13 rfl (by decide) rfl ?_
    refine y_aload_n d_AL_remove_14 rfl 0 rfl ?_
    refine y_iload_n d_AL_remove_15 rfl 2 rfl ?_
    refine y_aald d_AL_remove_16 (q0 := 1) rfl (vp_in_nI (by omega) (by omega)) (v := .ref v) (by rw [nI_clamp (by omega), hv]; rfl) ?_
    refine y_astore_n (lv' := [(3, .ref v), (2, .ref dd), (0, .ref a), (1, .int (nI i))]) d_AL_remove_17 rfl (by decide) rfl ?_
    refine y_aload_n d_AL_remove_18 rfl 2 rfl ?_
    refine y_aload_n d_AL_remove_19 rfl 1 rfl ?_
    refine y_iload_n d_AL_remove_20 rfl 3 rfl ?_
    refine yp_callV (As := [.ref dd, .int (nI i)]) (rest := []) (csC := [(a, .inr (13, [.int md, .ref dd, .int (nI (k + 1))])), (dd, .inl (5, N, .inr (.inr (.inr (.inr f)))))]) (is := [0, 1]) (q0 := 0) rfl rfl ln_AL_144 w_im_AL_fastRemove w_se_AL_fastRemove ok_AL_remove_AL_fastRemove d_AL_remove_21 ((fun w9 hI9 hC9 => C_AL_fastRemove g a dd N md f i k hik hkN hN w9 hC9 (by rw [z_I.same hI hI9]; exact hP))) rfl rfl (Nat.le_of_ble_eq_true rfl) rfl (by decide) (by omega) (by omega) (fun E cs1 hx => ?_) (fun v cs1 hx => ?_)
    · exact absurd hx.1 (by simp)
    · obtain ⟨e1, rfl⟩ := hx
      cases e1
      refine ⟨rfl, ?_⟩
      refine y_st (st2 := []) rfl ?_
      refine y_cs (cs2 := [(a, .inr (13, [.int (md + 1), .ref dd, .int (nI k)])), (dd, .inl (5, N, .inr (.inr (.inr (.inr (rmv f i k))))))]) rfl ?_
      refine y_aload_n d_AL_remove_24 rfl 0 rfl ?_
      refine y_aret d_AL_remove_25 rfl (Or.inl ⟨_, rfl⟩) (Or.inr ⟨_, rfl⟩) ?_
      exact fun w1 h1 => ⟨_, ⟨rfl, rfl⟩, h1⟩
end
section
theorem z_L.ob {g : zG} {w : zW} {a n : Nat} {bk : Option Nat} {el : Nat → Nat} (h : z_L g w a n bk el) : ∃ fs : List Value, w a = some (.inr (13, fs)) := by
  obtain ⟨md, dd, e1, -⟩ := h
  exact ⟨_, e1⟩
theorem Q_size {g : zG} {w : zW} {a n : Nat} {bk : Option Nat} {el : Nat → Nat} (h : z_L g w a n bk el) : zMB g M_AL_size [.ref a] w (fun o w1 => o = .inl (some (.int (nI n))) ∧ w1 = w) 0 0 := by
  obtain ⟨md, dd, e1, -⟩ := h
  have hI := z_I.mk (w := w) (cs := [(a, .inr (13, [.int md, .ref dd, .int (nI n)]))]) (List.forall_mem_cons.mpr ⟨e1, fun _ h => nomatch h⟩) (by simp)
  refine ((C_AL_size g a dd md (nI n)).at hI).mono (Nat.le_refl _) (Nat.le_refl _) (fun o w1 hp => ?_)
  obtain ⟨cs1, ⟨e2, e3⟩, h1⟩ := hp
  subst e3
  exact ⟨e2, z_I.same hI h1⟩
theorem z_L.n33 {g : zG} {w : zW} {a n : Nat} {bk : Option Nat} {el : Nat → Nat} (h : z_L g w a n bk el) : n ≤ 33 := by
  obtain ⟨md, dd, e1, e2⟩ := h
  rcases e2 with ⟨-, e2, -⟩ | ⟨-, N, f, e3, e4, -⟩ <;> omega
theorem Q_isEmpty {g : zG} {w : zW} {a n : Nat} {bk : Option Nat} {el : Nat → Nat} (h : z_L g w a n bk el) : zMB g M_AL_isEmpty [.ref a] w (fun o w1 => o = .inl (some (.int (if n = 0 then 1 else 0))) ∧ w1 = w) 0 0 := by
  have hn := h.n33
  obtain ⟨md, dd, e1, -⟩ := h
  have hI := z_I.mk (w := w) (cs := [(a, .inr (13, [.int md, .ref dd, .int (nI n)]))]) (List.forall_mem_cons.mpr ⟨e1, fun _ h => nomatch h⟩) (by simp)
  refine ((C_AL_isEmpty g a dd md (nI n)).at hI).mono (Nat.le_refl _) (Nat.le_refl _) (fun o w1 hp => ?_)
  obtain ⟨cs1, ⟨e2, e3⟩, h1⟩ := hp
  subst e3
  refine ⟨?_, z_I.same hI h1⟩
  rw [e2]
  by_cases h0 : n = 0
  · subst h0; rfl
  · rw [if_neg h0, if_neg (fun q => h0 (nI_z (by omega) q))]
theorem z_2n {a b : Nat} (h : a ≠ b) : [a, b].Nodup := List.nodup_cons.mpr ⟨fun q => h (List.mem_singleton.mp q), List.nodup_cons.mpr ⟨(fun q => nomatch q), List.nodup_nil⟩⟩
theorem z_3n {a b c : Nat} (h1 : a ≠ b) (h2 : a ≠ c) (h3 : b ≠ c) : [a, b, c].Nodup := List.nodup_cons.mpr ⟨fun q => (List.mem_cons.mp q).elim h1 (fun q => h2 (List.mem_singleton.mp q)), z_2n h3⟩
theorem Q_get {g : zG} {w : zW} {a n k : Nat} {bk : Option Nat} {el : Nat → Nat} (h : z_L g w a n bk el) (hk : k < n) : zMB g M_AL_get [.ref a, .int (nI k)] w (fun o w1 => o = .inl (some (.ref (el k))) ∧ w1 = w) 0 0 := by
  obtain ⟨md, dd, e1, e2⟩ := h
  rcases e2 with ⟨-, e2, -⟩ | ⟨e2, N, f, e3, e4, e5, e6⟩
  · omega
  have hI := z_I.mk (w := w) (cs := [(a, .inr (13, [.int md, .ref dd, .int (nI n)])), (dd, .inl (5, N, .inr (.inr (.inr (.inr f)))))]) (List.forall_mem_cons.mpr ⟨e1, List.forall_mem_cons.mpr ⟨e5, fun _ h => nomatch h⟩⟩) (z_2n (z_nek e1 e5 (by simp [z_kd])))
  refine ((C_AL_get g a dd N md (nI n) f (nI k) (el k) (vp_in_nI (by omega) (by omega)) (by rw [nI_clamp (by omega)]; exact e6 k hk) (nI_nneg (by omega)) ((nI_ltI (by omega) (by omega)).mpr hk)).at hI).mono (Nat.le_refl _) (Nat.le_refl _) (fun o w1 hp => ?_)
  obtain ⟨cs1, ⟨e7, e8⟩, h1⟩ := hp
  subst e8
  exact ⟨e7, z_I.same hI h1⟩
def z_elt (w : zW) (a : Nat) : Prop := ∃ ek, w a = some ek ∧ z_ob ek ∧ ¬ z_kd ek = (1, 13, 0)
def z_app (el : Nat → Nat) (n v : Nat) : Nat → Nat := fun k => if k = n then v else el k
def z_del (el : Nat → Nat) (i : Nat) : Nat → Nat := fun j => if j < i then el j else el (j + 1)
theorem z_obE.of {w : zW} {m sp : Nat} {f : Nat → Option Nat} {el : Nat → Nat} {n : Nat} (h : ∀ k, k < n → f k = some (el k)) (he : ∀ k, k < n → z_elt w (el k)) (hm : sp + m ≤ n) : z_obE w m f sp := fun i hi y hy => by
  rw [h (sp + i) (by omega)] at hy
  cases hy
  exact he _ (by omega)
theorem Q_add {g : zG} {w : zW} {a n v : Nat} {bk : Option Nat} {el : Nat → Nat} (h : z_L g w a n bk el) (he : ∀ k, k < n → z_elt w (el k)) (hv : z_elt w v) (hn : n < 33) :
    zMB g M_AL_add_0 [.ref a, .ref v] w (fun o w1 => o = .inl (some (.int 1)) ∧ ∃ bk2, z_L g w1 a (n + 1) bk2 (z_app el n v) ∧ (∀ q, bk2 = some q → bk = some q ∨ w q = none) ∧ z_ke (fun q => q = a ∨ bk = some q) w w1) 1 33 := by
  obtain ⟨ev, v1, v2, v3⟩ := hv
  obtain ⟨md, dd, e1, e2⟩ := h
  have hav : a ≠ v := z_nek e1 v1 (fun q => v3 (q.symm.trans rfl))
  rcases e2 with ⟨e2, e3, e4⟩ | ⟨e2, N, f, e3, e4, e5, e6⟩
  · subst e2; subst e3; subst e4
    have hI := z_I.mk (w := w) (cs := [(a, .inr (13, [.int md, .ref (g.2.2 4), .int 0])), (v, ev)]) (List.forall_mem_cons.mpr ⟨e1, List.forall_mem_cons.mpr ⟨v1, fun _ h => nomatch h⟩⟩) (z_2n hav)
    refine ((C_AL_add0 g a v md ev v2).at hI).mono (Nat.le_refl _) (by decide) (fun o w1 hp => ?_)
    obtain ⟨cs1, ⟨q, e7, e8⟩, h1⟩ := hp
    subst e8
    refine ⟨e7, some q, ⟨md + 1, q, h1.at (q0 := 0) rfl, Or.inr ⟨rfl, 10, va_up (fun _ => none) 0 (some v), by omega, Or.inl rfl, h1.at (q0 := 2) rfl, fun k hk => ?_⟩⟩, fun q9 hq9 => ?_, fun q9 e9 hq9 hw9 => ?_⟩
    · obtain rfl : k = 0 := by omega
      rfl
    · cases hq9
      exact Or.inr (h1.nw (k := 2) rfl (by show 2 ≤ 2; decide))
    · by_cases hqv : q9 = v
      · subst hqv
        rw [v1] at hw9
        cases hw9
        exact h1.at (q0 := 1) rfl
      · exact h1.ke (L := [a, v]) rfl q9 e9 (fun hm => (List.mem_cons.mp hm).elim (fun e => hq9 (Or.inl e)) (fun e => hqv (List.mem_singleton.mp e))) hw9
  · have hd : z_kd ev ≠ (0, 5, N) := fun q => by
      rcases z_ob5 v2 with c | c
      · rw [q] at c; cases c
      · rw [q] at c; exact absurd c (show ¬ (5 : Nat) < 5 by decide)
    have hvd : v ≠ dd := z_nek v1 e5 hd
    have had : a ≠ dd := z_nek e1 e5 (by simp [z_kd])
    have hI := z_I.mk (w := w) (cs := [(a, .inr (13, [.int md, .ref dd, .int (nI n)])), (v, ev), (dd, .inl (5, N, .inr (.inr (.inr (.inr f)))))]) (List.forall_mem_cons.mpr ⟨e1, List.forall_mem_cons.mpr ⟨v1, List.forall_mem_cons.mpr ⟨e5, fun _ h => nomatch h⟩⟩⟩) (z_3n hav had hvd)
    have kee : ∀ (w1 : zW) (cs1 : zC), z_I w w1 3 cs1 → (cs1.map Prod.fst).take 3 = [a, v, dd] → w1 v = some ev → z_ke (fun q => q = a ∨ bk = some q) w w1 := fun w1 cs1 h1 ha hw1 q9 e9 hq9 hw9 => by
      by_cases hqv : q9 = v
      · subst hqv
        rw [v1] at hw9
        cases hw9
        exact hw1
      · exact h1.ke ha q9 e9 (fun hm => (List.mem_cons.mp hm).elim (fun e => hq9 (Or.inl e)) (fun hm => (List.mem_cons.mp hm).elim hqv (fun e => hq9 (Or.inr (by rw [e2, List.mem_singleton.mp e]))))) hw9
    by_cases hnN : n < N
    · refine ((C_AL_addR g a v dd N n md f ev v2 hnN (by omega)).at hI).mono (Nat.zero_le _) (Nat.zero_le _) (fun o w1 hp => ?_)
      obtain ⟨cs1, ⟨e7, e8⟩, h1⟩ := hp
      subst e8
      refine ⟨e7, some dd, ⟨md + 1, dd, h1.at (q0 := 0) rfl, Or.inr ⟨rfl, N, va_up f n (some v), by omega, e4, h1.at (q0 := 2) rfl, fun k hk => ?_⟩⟩, fun q9 hq9 => Or.inl (e2.trans hq9), kee w1 _ h1 rfl (h1.at (q0 := 1) rfl)⟩
      unfold va_up z_app
      by_cases hkn : k = n
      · rw [if_pos hkn, if_pos hkn]
      · rw [if_neg hkn, if_neg hkn]; exact e6 k (by omega)
    · have hN : n = N := by omega
      subst hN
      have hP : z_obE w n f 0 := z_obE.of e6 he (by omega)
      have go : ∀ (NN : Nat) (w1 : zW) (o : zO) (q : Nat), (NN = 15 ∨ NN = 22 ∨ NN = 33) → n + 1 ≤ NN → o = .inl (some (.int 1)) → z_I w w1 3 [(a, .inr (13, [.int (md + 1), .ref q, .int (nI (n + 1))])), (v, ev), (dd, .inl (5, n, .inr (.inr (.inr (.inr f))))), (q, .inl (5, NN, .inr (.inr (.inr (.inr (va_up (va_cpy f (fun _ => none) 0 0 n) n (some v)))))))] → o = .inl (some (.int 1)) ∧ ∃ bk2, z_L g w1 a (n + 1) bk2 (z_app el n v) ∧ (∀ q, bk2 = some q → bk = some q ∨ w q = none) ∧ z_ke (fun q => q = a ∨ bk = some q) w w1 := fun NN w1 o q hNN hle e7 h1 => by
        refine ⟨e7, some q, ⟨md + 1, q, h1.at (q0 := 0) rfl, Or.inr ⟨rfl, NN, va_up (va_cpy f (fun _ => none) 0 0 n) n (some v), hle, Or.inr hNN, h1.at (q0 := 3) rfl, fun k hk => ?_⟩⟩, fun q9 hq9 => ?_, kee w1 _ h1 rfl (h1.at (q0 := 1) rfl)⟩
        · unfold va_up z_app va_cpy
          by_cases hkn : k = n
          · rw [if_pos hkn, if_pos hkn]
          · rw [if_neg hkn, if_neg hkn, if_pos ⟨Nat.zero_le _, by omega⟩]
            rw [show 0 + (k - 0) = k by omega]
            exact e6 k (by omega)
        · cases hq9
          exact Or.inr (h1.nw (k := 3) rfl (by decide))
      rcases e4 with rfl | rfl | rfl | rfl
      · refine ((C_AL_addG10 g a v dd md f ev v2).at hI hP).mono (Nat.le_refl _) (by decide) (fun o w1 hp => ?_)
        obtain ⟨cs1, ⟨q, e7, e8⟩, h1⟩ := hp
        subst e8
        exact go 15 w1 o q (Or.inl rfl) (by omega) e7 h1
      · refine ((C_AL_addG15 g a v dd md f ev v2).at hI hP).mono (Nat.le_refl _) (by decide) (fun o w1 hp => ?_)
        obtain ⟨cs1, ⟨q, e7, e8⟩, h1⟩ := hp
        subst e8
        exact go 22 w1 o q (Or.inr (Or.inl rfl)) (by omega) e7 h1
      · refine ((C_AL_addG22 g a v dd md f ev v2).at hI hP).mono (Nat.le_refl _) (by decide) (fun o w1 hp => ?_)
        obtain ⟨cs1, ⟨q, e7, e8⟩, h1⟩ := hp
        subst e8
        exact go 33 w1 o q (Or.inr (Or.inr rfl)) (by omega) e7 h1
      · exact absurd hn (by decide)
theorem Q_remove {g : zG} {w : zW} {a m i : Nat} {bk : Option Nat} {el : Nat → Nat} (h : z_L g w a (m + 1) bk el) (he : ∀ k, k < m + 1 → z_elt w (el k)) (hi : i ≤ m) :
    zMB g M_AL_remove [.ref a, .int (nI i)] w (fun o w1 => o = .inl (some (.ref (el i))) ∧ z_L g w1 a m bk (z_del el i) ∧ z_ke (fun q => q = a ∨ bk = some q) w w1) 0 0 := by
  obtain ⟨md, dd, e1, e2⟩ := h
  rcases e2 with ⟨-, e3, -⟩ | ⟨e2, N, f, e3, e4, e5, e6⟩
  · omega
  have hI := z_I.mk (w := w) (cs := [(a, .inr (13, [.int md, .ref dd, .int (nI (m + 1))])), (dd, .inl (5, N, .inr (.inr (.inr (.inr f)))))]) (List.forall_mem_cons.mpr ⟨e1, List.forall_mem_cons.mpr ⟨e5, fun _ h => nomatch h⟩⟩) (z_2n (z_nek e1 e5 (by simp [z_kd])))
  refine ((C_AL_remove g a dd N md f i m hi (by omega) (by omega) (el i) (e6 i (by omega))).at hI (z_obE.of e6 he (by omega))).mono (Nat.le_refl _) (Nat.le_refl _) (fun o w1 hp => ?_)
  obtain ⟨cs1, ⟨e7, e8⟩, h1⟩ := hp
  subst e8
  refine ⟨e7, ⟨md + 1, dd, h1.at (q0 := 0) rfl, Or.inr ⟨e2, N, rmv f i m, by omega, e4, h1.at (q0 := 1) rfl, fun k hk => ?_⟩⟩, (h1.ke (L := [a, dd]) rfl).wk (fun q hq => (List.mem_cons.mp hq).elim Or.inl (fun e => Or.inr (by rw [e2, List.mem_singleton.mp e])))⟩
  unfold rmv va_up va_cpy z_del
  rw [if_neg (by omega)]
  by_cases hki : k < i
  · rw [if_pos hki, if_neg (by omega)]; exact e6 k (by omega)
  · rw [if_neg hki, if_pos (by omega), show i + 1 + (k - i) = k + 1 by omega]; exact e6 (k + 1) (by omega)
def z_upL {α : Type} (f : Nat → α) (L : Nat) (x : α) : Nat → α := fun M => if M = L then x else f M
def u_set (u : zNN) (L n : Nat) (bk : Option Nat) (el : Nat → Nat) : zNN := (z_upL u.1 L n, z_upL u.2.1 L bk, z_upL u.2.2 L el)
def z_apV (V : Nat → zV) (n : Nat) (v : zV) : Nat → zV := fun k => if k = n then v else V k
def z_dlV (V : Nat → zV) (i : Nat) : Nat → zV := fun j => if j < i then V j else V (j + 1)
def tls (t : zTT) (L : Nat) (V : Nat → zV) : zTT := (t.1, z_upL t.2 L V)
def IW (g : zG) (ad : Nat → Nat) (t : zTT) (u : zNN) (w : zW) : Prop := IVf ad t w ∧ ((∀ L, L < 7 → z_L g w (ad (z_lx.getD L 0)) (u.1 L) (u.2.1 L) (u.2.2 L)) ∧ (∀ L, L < 7 → ∀ k, k < u.1 L → EL ad L w (u.2.2 L k) (t.2 L k)) ∧ ((∀ L1 L2, L1 < 7 → L2 < 7 → ∀ q, u.2.1 L1 = some q → u.2.1 L2 = some q → L1 = L2) ∧ ∀ L, L < 7 → ∀ j k, j < u.1 L → k < u.1 L → u.2.2 L j = u.2.2 L k → j = k)) ∧ tOK t
def SZ (u : zNN) : Prop := u.1 0 ≤ 10 ∧ u.1 1 ≤ 30 ∧ u.1 2 ≤ 20 ∧ u.1 3 ≤ 10 ∧ u.1 4 = u.1 3 ∧ u.1 5 ≤ 30 ∧ u.1 6 = u.1 5
theorem IV.iw {g : zG} {ad : Nat → Nat} {t : zTT} {u : zNN} {w : zW} (h : IV g ad t u w) : IW g ad t u w := ⟨h.1, ⟨h.2.1.1, h.2.1.2.1, h.2.1.2.2.1⟩, h.2.2⟩
theorem IV.sz {g : zG} {ad : Nat → Nat} {t : zTT} {u : zNN} {w : zW} (h : IV g ad t u w) : SZ u := h.2.1.2.2.2
theorem IW.iv {g : zG} {ad : Nat → Nat} {t : zTT} {u : zNN} {w : zW} (h : IW g ad t u w) (hs : SZ u) : IV g ad t u w := ⟨h.1, ⟨h.2.1.1, h.2.1.2.1, h.2.1.2.2, hs⟩, h.2.2⟩
theorem EL.ke2 {ad : Nat → Nat} {L : Nat} {w w1 : zW} {a : Nat} {v : zV} (h : EL ad L w a v) (hk : ∀ q e, z_nf ad q → w q = some e → ((z_kd e).1 = 1 ∨ (z_kd e).2.1 < 5) → w1 q = some e) : EL ad L w1 a v := by
  obtain ⟨h0, h⟩ := h
  refine ⟨h0, ?_⟩
  match L, h with
  | 0, h =>
    obtain ⟨c, e1, e2, e3, e4, e5⟩ := h
    exact ⟨c, hk _ _ h0 e1 (Or.inl rfl), e2, e3, hk _ _ e3 e4 (Or.inr (show (1 : Nat) < 5 by decide)), e5⟩
  | 1, h =>
    obtain ⟨me, gr, e1, e2, e3, e4, e5⟩ := h
    exact ⟨me, gr, hk _ _ h0 e1 (Or.inl rfl), e2, hk _ _ e2 e3 (Or.inl rfl), e4, hk _ _ e4 e5 (Or.inr (show (3 : Nat) < 5 by decide))⟩
  | 2, h => exact hk _ _ h0 h (Or.inr (show (0 : Nat) < 5 by decide))
  | 3, h => exact ⟨hk _ _ h0 h.1 (Or.inr (show (1 : Nat) < 5 by decide)), h.2⟩
  | 4, h => exact ⟨hk _ _ h0 h.1 (Or.inr (show (0 : Nat) < 5 by decide)), h.2⟩
  | 5, h => exact ⟨hk _ _ h0 h.1 (Or.inr (show (0 : Nat) < 5 by decide)), h.2⟩
  | _ + 6, h => exact hk _ _ h0 h (Or.inr (show (3 : Nat) < 5 by decide))
theorem IW.list {g : zG} {ad : Nat → Nat} {t : zTT} {u : zNN} {w w1 : zW} (h : IW g ad t u w) {L n : Nat} {bk : Option Nat} {el : Nat → Nat} {vl : Nat → zV} (hL : L < 7) (hl : z_L g w1 (ad (z_lx.getD L 0)) n bk el) (hb : ∀ q, bk = some q → u.2.1 L = some q ∨ w q = none) (hk : z_ke (fun q => q = ad (z_lx.getD L 0) ∨ u.2.1 L = some q) w w1) (he : ∀ k, k < n → EL ad L w (el k) (vl k)) (hi9 : ∀ j k, j < n → k < n → el j = el k → j = k) : IW g ad (tls t L vl) (u_set u L n bk el) w1 := by
  obtain ⟨hF, ⟨h1, h2, h3, h4⟩, hT⟩ := h
  have hx : ∀ L, L < 7 → z_lx.getD L 0 < 71 := by decide
  have hxi : ∀ L M, L < 7 → M < 7 → z_lx.getD L 0 = z_lx.getD M 0 → L = M := by
    have : ∀ L, L < 7 → ∀ M, M < 7 → z_lx.getD L 0 = z_lx.getD M 0 → L = M := by decide
    exact fun L M hL hM => this L hL M hM
  have hkd : ∀ M, M < 7 → ∀ (e : zE), (∃ (x : Int32) (d : Nat) (y : Int32), e = .inr (13, [.int x, .ref d, .int y])) → KD ad (tls t L vl) (z_lx.getD M 0) e := fun M hM e q => by
    match M, hM with
    | 0, _ => exact kd_50.mpr q
    | 1, _ => exact kd_51.mpr q
    | 2, _ => exact kd_62.mpr q
    | 3, _ => exact kd_65.mpr q
    | 4, _ => exact kd_66.mpr q
    | 5, _ => exact kd_67.mpr q
    | 6, _ => exact kd_68.mpr q
    | M + 7, h => exact absurd h (by omega)
  have hbn : ∀ q, u.2.1 L = some q → z_nf ad q := fun q hq => by
    obtain ⟨N, f, e5⟩ := (h1 L hL).bk hq
    exact hF.n5 e5
  have hEL : ∀ M a v, EL ad M w a v → EL ad M w1 a v := fun M a v hE => hE.ke2 (fun q e hq hw hkk => hk q e (fun h9 => by
    rcases h9 with h9 | h9
    · exact hq _ (hx L hL) h9.symm
    · obtain ⟨N, f, e5⟩ := (h1 L hL).bk h9
      rw [hw] at e5
      cases e5
      rcases hkk with c | c
      · cases c
      · exact absurd c (by show ¬ (5 : Nat) < 5; decide)) hw)
  refine ⟨⟨hF.1, fun i hi => ?_⟩, ⟨fun M hM => ?_, fun M hM k hk9 => ?_, fun L1 L2 hL1 hL2 q q1 q2 => ?_, fun M hM j k hj hk9 e => ?_⟩, hT⟩
  · by_cases hiL : i = z_lx.getD L 0
    · obtain ⟨md, dd, e1, -⟩ := hl
      rw [hiL]
      exact ⟨_, e1, hkd L hL _ ⟨_, _, _, rfl⟩⟩
    · obtain ⟨e, e1, e2⟩ := hF.2 i hi
      refine ⟨e, hk _ _ (fun h9 => ?_) e1, e2.cg i _ hi rfl⟩
      rcases h9 with h9 | h9
      · exact hiL (hF.1 _ _ hi (hx L hL) h9)
      · exact hbn _ h9 i hi rfl
  · show z_L g w1 _ (z_upL u.1 L n M) (z_upL u.2.1 L bk M) (z_upL u.2.2 L el M)
    unfold z_upL
    by_cases hML : M = L
    · subst hML
      rw [if_pos rfl, if_pos rfl, if_pos rfl]
      exact hl
    · rw [if_neg hML, if_neg hML, if_neg hML]
      refine (h1 M hM).ke hk (fun h9 => ?_) (fun q hq h9 => ?_)
      · rcases h9 with h9 | h9
        · exact hML (hxi M L hM hL (hF.1 _ _ (hx M hM) (hx L hL) h9))
        · exact hbn _ h9 _ (hx M hM) rfl
      · rcases h9 with h9 | h9
        · obtain ⟨N, f, e5⟩ := (h1 M hM).bk hq
          exact hF.n5 e5 _ (hx L hL) h9.symm
        · exact hML (h3 M L hM hL q hq h9)
  · have hk9 : k < z_upL u.1 L n M := hk9
    show EL ad M w1 (z_upL u.2.2 L el M k) (z_upL t.2 L vl M k)
    unfold z_upL at hk9 ⊢
    by_cases hML : M = L
    · subst hML
      rw [if_pos rfl] at hk9
      rw [if_pos rfl, if_pos rfl]
      exact hEL M _ _ (he k hk9)
    · rw [if_neg hML] at hk9
      rw [if_neg hML, if_neg hML]
      exact hEL M _ _ (h2 M hM k hk9)
  · have q1 : z_upL u.2.1 L bk L1 = some q := q1
    have q2 : z_upL u.2.1 L bk L2 = some q := q2
    unfold z_upL at q1 q2
    have key : ∀ M, M < 7 → ¬ M = L → u.2.1 M = some q → bk = some q → False := fun M hM hML a1 a2 => by
      rcases hb q a2 with b | b
      · exact hML (h3 M L hM hL q a1 b)
      · obtain ⟨N, f, e5⟩ := (h1 M hM).bk a1
        rw [b] at e5
        cases e5
    by_cases a1 : L1 = L
    · by_cases a2 : L2 = L
      · rw [a1, a2]
      · rw [if_pos a1] at q1
        rw [if_neg a2] at q2
        exact (key L2 hL2 a2 q2 q1).elim
    · by_cases a2 : L2 = L
      · rw [if_neg a1] at q1
        rw [if_pos a2] at q2
        exact (key L1 hL1 a1 q1 q2).elim
      · rw [if_neg a1] at q1
        rw [if_neg a2] at q2
        exact h3 L1 L2 hL1 hL2 q q1 q2
  · have hj : j < z_upL u.1 L n M := hj
    have hk9 : k < z_upL u.1 L n M := hk9
    have e : z_upL u.2.2 L el M j = z_upL u.2.2 L el M k := e
    unfold z_upL at hj hk9 e
    by_cases hML : M = L
    · rw [if_pos hML] at hj hk9
      rw [if_pos hML] at e
      exact hi9 j k hj hk9 e
    · rw [if_neg hML] at hj hk9
      rw [if_neg hML] at e
      exact h4 M hM j k hj hk9 e
end
section
abbrev tx (i : Nat) : Prop := (5 ≤ i ∧ i ≤ 17) ∨ i = 69
def mg (t : zTT) (s : Nat → zP2) : zTT := (fun i => if tx i then s i else t.1 i, t.2)
def IVm (g : zG) (ad : Nat → Nat) (t : zTT) (u : zNN) (w : zW) : Prop := ∃ s, IV g ad (mg t s) u w
theorem mg_self (t T : zTT) (h1 : ∀ i, ¬ tx i → T.1 i = t.1 i) (h2 : T.2 = t.2) : mg t T.1 = T := by
  refine Prod.ext (funext fun i => ?_) h2.symm
  show (if tx i then T.1 i else t.1 i) = T.1 i
  by_cases h : tx i
  · rw [if_pos h]
  · rw [if_neg h]; exact (h1 i h).symm
theorem IVm.of {g : zG} {ad : Nat → Nat} {t T : zTT} {u : zNN} {w : zW} (h : IV g ad T u w) (h1 : ∀ i, ¬ tx i → T.1 i = t.1 i) (h2 : T.2 = t.2) : IVm g ad t u w := ⟨T.1, by rw [mg_self t T h1 h2]; exact h⟩
theorem zup_cg {f g : Nat → zP2} {P : Nat → Prop} (h : ∀ i, P i → f i = g i) : ∀ (l : List (Nat × zP2)) (i : Nat), P i → zup f l i = zup g l i
  | [], i, hi => h i hi
  | x :: l, i, hi => by
    show (if i = x.1 then x.2 else zup f l i) = (if i = x.1 then x.2 else zup g l i)
    rw [zup_cg h l i hi]
theorem IVm.zu {g : zG} {ad : Nat → Nat} {t : zTT} {s : Nat → zP2} {V : Nat → Nat → zV} {l : List (Nat × zP2)} {u : zNN} {w : zW} (h : IV g ad (zup (mg t s).1 l, V) u w) : IVm g ad (zup t.1 l, V) u w :=
  IVm.of h (fun i hi => zup_cg (P := fun i => ¬ tx i) (fun i hi => if_neg hi) l i hi) rfl
theorem IVm.tz {g : zG} {ad : Nat → Nat} {t : zTT} {s : Nat → zP2} {l : List (Nat × zP2)} {u : zNN} {w : zW} (h : IV g ad (zup (mg t s).1 l, (mg t s).2) u w) (hl : ∀ i ∈ l.map Prod.fst, tx i) : IVm g ad t u w :=
  IVm.of h (fun i hi => (zup_out (fun q => hi (hl i q))).trans (if_neg hi)) rfl
theorem IVm.zt {g : zG} {ad : Nat → Nat} {t : zTT} {s : Nat → zP2} {x : Nat × zP2} {l : List (Nat × zP2)} {u : zNN} {w : zW} (h : IV g ad (zup (mg t s).1 (x :: l), (mg t s).2) u w) (hl : ∀ i ∈ l.map Prod.fst, tx i) : IVm g ad (zup t.1 [x], t.2) u w :=
  IVm.of h (fun i hi => by
    show (if i = x.1 then x.2 else zup (mg t s).1 l i) = (if i = x.1 then x.2 else t.1 i)
    rw [zup_out (fun q => hi (hl i q)), show (mg t s).1 i = t.1 i from if_neg hi]) rfl
theorem IV.ta4 {g : zG} {ad : Nat → Nat} {t : zTT} {u : zNN} {w : zW} (hI : IV g ad t u w) : ∀ c, c < 108 → (t.1 15).1 c = 0 ∨ (t.1 15).1 c = 1 := by
  obtain ⟨e, -, k⟩ := hI.1.2 15 (by decide)
  obtain ⟨c, -⟩ := kd_15.mp k
  exact c
theorem IVm.tw {g : zG} {ad : Nat → Nat} {t : zTT} {l : List (Nat × zP2)} {u : zNN} {w : zW} (h : IV g ad (zup t.1 l, t.2) u w) (hl : ∀ i ∈ l.map Prod.fst, tx i) : IVm g ad t u w := IVm.of h (fun i hi => zup_out (fun q => hi (hl i q))) rfl
theorem mg_mg (t : zTT) (s r : Nat → zP2) : mg (mg t s) r = mg t r := by
  refine Prod.ext (funext fun i => ?_) rfl
  show (if tx i then r i else if tx i then s i else t.1 i) = (if tx i then r i else t.1 i)
  by_cases h : tx i
  · rw [if_pos h, if_pos h]
  · rw [if_neg h, if_neg h, if_neg h]
theorem IVm.mm {g : zG} {ad : Nat → Nat} {t : zTT} {s : Nat → zP2} {u : zNN} {w : zW} (h : IVm g ad (mg t s) u w) : IVm g ad t u w := by
  obtain ⟨r, h⟩ := h
  rw [mg_mg] at h
  exact ⟨r, h⟩
def elT (M : Nat) (F : zV → zV) (T : zTT) (i : Nat) : zTT := (T.1, fun L j => if L = M ∧ j < i then F (T.2 M j) else T.2 L j)
theorem elT_0 (M : Nat) (F : zV → zV) (T : zTT) : T = elT M F T 0 := Prod.ext rfl (funext fun L => funext fun j => (if_neg (fun q => absurd q.2 (Nat.not_lt_zero j))).symm)
theorem elT_at (M : Nat) (F : zV → zV) (T : zTT) (i : Nat) : (elT M F T i).2 M i = T.2 M i := if_neg (fun q => absurd q.2 (Nat.lt_irrefl i))
theorem elT_s (M : Nat) (F : zV → zV) (T : zTT) (i : Nat) : (((elT M F T i).1, vup (elT M F T i).2 M i (F ((elT M F T i).2 M i))) : zTT) = elT M F T (i + 1) := by
  refine Prod.ext rfl (funext fun L => funext fun j => ?_)
  show (if L = M ∧ j = i then F ((elT M F T i).2 M i) else if L = M ∧ j < i then F (T.2 M j) else T.2 L j) = (if L = M ∧ j < i + 1 then F (T.2 M j) else T.2 L j)
  rw [elT_at]
  by_cases hL : L = M
  · subst hL
    by_cases h1 : j = i
    · subst h1
      rw [if_pos ⟨rfl, rfl⟩, if_pos ⟨rfl, Nat.lt_succ_self _⟩]
    · rw [if_neg (fun q => h1 q.2)]
      by_cases h2 : j < i
      · rw [if_pos ⟨rfl, h2⟩, if_pos ⟨rfl, by omega⟩]
      · rw [if_neg (fun q => h2 q.2), if_neg (fun q => absurd q.2 (by omega))]
  · rw [if_neg (fun q => hL q.1), if_neg (fun q => hL q.1), if_neg (fun q => hL q.1)]
theorem zup_eta {f : Nat → zP2} {i : Nat} : zup f [(i, f i)] = f := funext fun j => by
  show (if j = i then f i else f j) = f j
  by_cases h : j = i
  · rw [if_pos h, h]
  · rw [if_neg h]
theorem zup_tw {f : Nat → zP2} {i : Nat} {a b : zP2} : zup (zup f [(i, a)]) [(i, b)] = zup f [(i, b)] := funext fun j => by
  show (if j = i then b else if j = i then a else f j) = (if j = i then b else f j)
  by_cases h : j = i
  · rw [if_pos h, if_pos h]
  · rw [if_neg h, if_neg h, if_neg h]
theorem tls_2 (T : zTT) (L : Nat) (A B : Nat → zV) : tls (tls T L A) L B = tls T L B := Prod.ext rfl (funext fun M => by
  show (if M = L then B else if M = L then A else T.2 M) = (if M = L then B else T.2 M)
  by_cases h : M = L
  · rw [if_pos h, if_pos h]
  · rw [if_neg h, if_neg h, if_neg h])
theorem tls_eta (T : zTT) (L : Nat) : T = tls T L (T.2 L) := Prod.ext rfl (funext fun M => by
  show T.2 M = (if M = L then T.2 L else T.2 M)
  by_cases h : M = L
  · rw [if_pos h, h]
  · rw [if_neg h])
theorem tls_vup (T : zTT) (L i : Nat) (A : Nat → zV) (v : zV) : (((tls T L A).1, vup (tls T L A).2 L i v) : zTT) = tls T L (fun j => if j = i then v else A j) := Prod.ext rfl (funext fun M => funext fun j => by
  show (if M = L ∧ j = i then v else (if M = L then A else T.2 M) j) = (if M = L then (fun j => if j = i then v else A j) else T.2 M) j
  by_cases h : M = L
  · rw [if_pos h, if_pos h]
    by_cases h2 : j = i
    · rw [if_pos ⟨h, h2⟩]; exact (if_pos h2).symm
    · rw [if_neg (fun q => h2 q.2)]; exact (if_neg h2).symm
  · rw [if_neg (fun q => h q.1), if_neg h, if_neg h])
theorem upL_eta {f : Nat → Nat} {L : Nat} : f = z_upL f L (f L) := funext fun M => by
  show f M = (if M = L then f L else f M)
  by_cases h : M = L
  · rw [if_pos h, h]
  · rw [if_neg h]
theorem upL_up {f g : Nat → Nat} {L x m : Nat} (h : f = z_upL g L x) : z_upL f L m = z_upL g L m := funext fun M => by
  show (if M = L then m else f M) = (if M = L then m else g M)
  by_cases q : M = L
  · rw [if_pos q, if_pos q]
  · rw [if_neg q, if_neg q]
    have := congrFun h M
    rw [this]
    exact if_neg q
def dwL (p : zV → Bool) (q : zV → Int32) : Nat → Nat × (Nat → zV) × Int32 → Nat × (Nat → zV) × Int32
  | 0, s => s
  | c + 1, s => dwL p q c (if p (s.2.1 c) = true then s else (s.1 - 1, z_dlV s.2.1 c, s.2.2 + q (s.2.1 c)))
theorem dwL_t {p : zV → Bool} {q : zV → Int32} {c n : Nat} {V : Nat → zV} {s : Int32} {F : Nat × (Nat → zV) × Int32} (h : dwL p q (c + 1) (n, V, s) = F) (hp : p (V c) = true) : dwL p q c (n, V, s) = F := by
  have h1 : dwL p q c (if p (V c) = true then (n, V, s) else (n - 1, z_dlV V c, s + q (V c))) = F := h
  rw [if_pos hp] at h1
  exact h1
theorem dwL_f {p : zV → Bool} {q : zV → Int32} {c n m : Nat} {V : Nat → zV} {s : Int32} {F : Nat × (Nat → zV) × Int32} (h : dwL p q (c + 1) (n, V, s) = F) (hn : n = m + 1) (hp : p (V c) = false) : dwL p q c (m, z_dlV V c, s + q (V c)) = F := by
  subst hn
  have h1 : dwL p q c (if p (V c) = true then (m + 1, V, s) else (m + 1 - 1, z_dlV V c, s + q (V c))) = F := h
  rw [if_neg (by rw [hp]; decide)] at h1
  exact h1
end
section
theorem z_idx {x : Int32} {n : Nat} (hn : n ≤ 33) : (0 ≤ x ∧ x ≤ nI n - 1) ↔ ∃ k, k < n ∧ x = nI k := by
  constructor
  · intro ⟨h1, h2⟩
    cases n with
    | zero => exact absurd (Int32.le_trans h1 h2) (by decide)
    | succ m =>
      rw [nI_prd] at h2
      obtain ⟨a, ha, e⟩ := z_in20 (b := m) (by omega) ⟨h1, h2⟩
      exact ⟨a, by omega, e⟩
  · intro ⟨k, hk, e⟩
    subst e
    cases n with
    | zero => omega
    | succ m =>
      rw [nI_prd]
      exact ⟨Int32.not_lt.mp (nI_nneg (by omega)), (nI_leI (by omega) (by omega)).mpr (by omega)⟩
theorem IV.n5 {g : zG} {ad : Nat → Nat} {t : zTT} {u : zNN} {w : zW} (h : IV g ad t u w) (L : Nat) (hL : L < 7) : u.1 L ≤ 33 := (h.2.1.1 L hL).n33
theorem IV.c56 {g : zG} {ad : Nat → Nat} {t : zTT} {u : zNN} {w : zW} (h : IV g ad t u w) : u.1 6 = u.1 5 := h.2.1.2.2.2.2.2.2.2.2.2
theorem IV.c34 {g : zG} {ad : Nat → Nat} {t : zTT} {u : zNN} {w : zW} (h : IV g ad t u w) : u.1 4 = u.1 3 := h.2.1.2.2.2.2.2.2.2.1
set_option maxHeartbeats 4000000 in
set_option maxRecDepth 100000 in
theorem Q_noCasting1 {g : zG} {ad : Nat → Nat} {t : zTT} {u : zNN} {w : zW} (hI : IV g ad t u w) (x : Int32) (hx : ¬ ∃ k, k < u.1 5 ∧ x = nI k) : zMB g M_Mm_noCasting [.ref (ad 52), .int x] w (fun o w1 => o = .inl (some (.int 1)) ∧ w1 = w) 0 0 := by
  obtain ⟨e_m, wf_m, k_m⟩ := hI.1.2 52 (by decide)
  obtain ⟨v_m_th, rfl⟩ := kd_52.mp k_m
  have hJ := hI.1.I [52] [((ad 52), .inr (12, [.int v_m_th, .ref (ad 53), .int (nI ((t.1 52).2.2 0)), .ref (ad 54), .ref (ad 55), .ref (ad 56), .ref (ad 57), .ref (ad 58), .ref (ad 59), .ref (ad 60), .ref (ad 61), .int ((t.1 52).1 0), .int ((t.1 52).1 1), .int ((t.1 52).1 2), .int ((t.1 52).1 3), .int ((t.1 52).1 4), .int ((t.1 52).1 5), .ref (ad 62), .ref (ad 63), .ref (ad 64), .int ((t.1 52).1 6), .int ((t.1 52).1 7), .int ((t.1 52).1 8), .int ((t.1 52).1 9), .int ((t.1 52).1 10), .ref (ad 65), .ref (ad 66), .ref (ad 67), .ref (ad 68), .long ((t.1 52).2.1 0), .long ((t.1 52).2.1 1)]))] rfl (by decide) (by decide) (List.forall_mem_cons.mpr ⟨wf_m, (fun _ h => nomatch h)⟩)
  refine y_of (by decide) rfl (Nat.le_of_ble_eq_true rfl) (y_base (cs := [((ad 52), .inr (12, [.int v_m_th, .ref (ad 53), .int (nI ((t.1 52).2.2 0)), .ref (ad 54), .ref (ad 55), .ref (ad 56), .ref (ad 57), .ref (ad 58), .ref (ad 59), .ref (ad 60), .ref (ad 61), .int ((t.1 52).1 0), .int ((t.1 52).1 1), .int ((t.1 52).1 2), .int ((t.1 52).1 3), .int ((t.1 52).1 4), .int ((t.1 52).1 5), .ref (ad 62), .ref (ad 63), .ref (ad 64), .int ((t.1 52).1 6), .int ((t.1 52).1 7), .int ((t.1 52).1 8), .int ((t.1 52).1 9), .int ((t.1 52).1 10), .ref (ad 65), .ref (ad 66), .ref (ad 67), .ref (ad 68), .long ((t.1 52).2.1 0), .long ((t.1 52).2.1 1)]))]) hJ ?_)
  refine y_lvE (lv2 := [(0, .ref (ad 52)), (1, .int x)]) rfl ?_
  refine y_iload_n d_Mm_noCasting_0 rfl 1 rfl ?_
  refine y_iconst d_Mm_noCasting_1 (v := 0) (by decide) ?_
  refine y_aload_n d_Mm_noCasting_2 rfl 0 rfl ?_
  refine y_get fs_Mm_78 d_Mm_noCasting_3 (q0 := 0) rfl rfl ?_
  refine yw_callVL (As := []) (rest := [.int 0, .int x]) (ci := 13) rfl (fun wA hA => ((hI.gen (t2 := t) (is := [52]) (L2 := []) hA rfl ⟨kd_52.mpr ⟨_, rfl⟩, trivial⟩ (by decide) (by decide) (fun _ h => nomatch h) (fun _ h => nomatch h) (fun _ _ _ => rfl) (fun h => h) rfl).2.1.1 5 (by decide)).ob) ln_Mm_208 w_im_AL_size w_se_AL_size ok_Mm_noCasting_AL_size d_Mm_noCasting_6 (fun wA hA => Q_size ((hI.gen (t2 := t) (is := [52]) (L2 := []) hA rfl ⟨kd_52.mpr ⟨_, rfl⟩, trivial⟩ (by decide) (by decide) (fun _ h => nomatch h) (fun _ h => nomatch h) (fun _ _ _ => rfl) (fun h => h) rfl).2.1.1 5 (by decide))) rfl rfl (Nat.le_of_ble_eq_true rfl) (by omega) (by omega) (fun wA6 hA6 E wB6 hx => ?_) (fun wA6 hA6 v wB6 hx => ?_)
  · exact absurd hx.1 (by simp)
  · obtain ⟨e1, e2⟩ := hx
    cases e1
    refine yw_st (st2 := [.int (nI (u.1 5)), .int 0, .int x]) rfl ?_
    subst e2
    refine y_go hA6 ?_
    refine y_iconst d_Mm_noCasting_9 (v := 1) (by decide) ?_
    refine y_isub d_Mm_noCasting_10 (v := nI (u.1 5) - 1) rfl ?_
    refine y_callS (As := [.int x, .int 0, .int (nI (u.1 5) - 1)]) (rest := []) (csC := []) (is := []) ln_Mm_87 w_st_Mm_in ok_Mm_noCasting_Mm_in d_Mm_noCasting_11 (C_Mm_in g x 0 (nI (u.1 5) - 1)) rfl rfl (Nat.le_of_ble_eq_true rfl) rfl (by decide) (by omega) (by omega) (fun E cs1 hx => ?_) (fun v cs1 hx => ?_)
    · exact absurd hx.1 (by simp)
    · obtain ⟨e1, rfl⟩ := hx
      rw [if_neg (fun q => hx ((z_idx (hI.n5 5 (by decide))).mp q))] at e1
      cases e1
      refine ⟨rfl, ?_⟩
      refine y_st (st2 := [.int 0]) rfl ?_
      refine y_cs (cs2 := [((ad 52), .inr (12, [.int v_m_th, .ref (ad 53), .int (nI ((t.1 52).2.2 0)), .ref (ad 54), .ref (ad 55), .ref (ad 56), .ref (ad 57), .ref (ad 58), .ref (ad 59), .ref (ad 60), .ref (ad 61), .int ((t.1 52).1 0), .int ((t.1 52).1 1), .int ((t.1 52).1 2), .int ((t.1 52).1 3), .int ((t.1 52).1 4), .int ((t.1 52).1 5), .ref (ad 62), .ref (ad 63), .ref (ad 64), .int ((t.1 52).1 6), .int ((t.1 52).1 7), .int ((t.1 52).1 8), .int ((t.1 52).1 9), .int ((t.1 52).1 10), .ref (ad 65), .ref (ad 66), .ref (ad 67), .ref (ad 68), .long ((t.1 52).2.1 0), .long ((t.1 52).2.1 1)]))]) rfl ?_
      refine y_if_ne (tgt := 21) d_Mm_noCasting_14 (by decide) (fun c_14 => ?_) (fun c_14 => ?_)
      · exact absurd c_14 (by decide)
      · refine y_iconst d_Mm_noCasting_17 (v := 1) (by decide) ?_
        refine y_goto (tgt := 22) d_Mm_noCasting_18 (by decide) ?_
        refine y_iret d_Mm_noCasting_22 rfl rfl ?_
        exact fun w1 h1 => ⟨rfl, z_I.same hJ h1⟩
theorem d_Mm_noCasting_21 : decode prog_14_method_79_code 21 = .ok (.iconst 0, 1) := zo_3 (zd_b zq_prog_14_method_79_code_0 21 rfl rfl rfl)
set_option maxHeartbeats 4000000 in
set_option maxRecDepth 100000 in
theorem Q_noCasting0 {g : zG} {ad : Nat → Nat} {t : zTT} {u : zNN} {w : zW} (hI : IV g ad t u w) (x : Int32) (hx : ∃ k, k < u.1 5 ∧ x = nI k) : zMB g M_Mm_noCasting [.ref (ad 52), .int x] w (fun o w1 => o = .inl (some (.int 0)) ∧ w1 = w) 0 0 := by
  obtain ⟨e_m, wf_m, k_m⟩ := hI.1.2 52 (by decide)
  obtain ⟨v_m_th, rfl⟩ := kd_52.mp k_m
  have hJ := hI.1.I [52] [((ad 52), .inr (12, [.int v_m_th, .ref (ad 53), .int (nI ((t.1 52).2.2 0)), .ref (ad 54), .ref (ad 55), .ref (ad 56), .ref (ad 57), .ref (ad 58), .ref (ad 59), .ref (ad 60), .ref (ad 61), .int ((t.1 52).1 0), .int ((t.1 52).1 1), .int ((t.1 52).1 2), .int ((t.1 52).1 3), .int ((t.1 52).1 4), .int ((t.1 52).1 5), .ref (ad 62), .ref (ad 63), .ref (ad 64), .int ((t.1 52).1 6), .int ((t.1 52).1 7), .int ((t.1 52).1 8), .int ((t.1 52).1 9), .int ((t.1 52).1 10), .ref (ad 65), .ref (ad 66), .ref (ad 67), .ref (ad 68), .long ((t.1 52).2.1 0), .long ((t.1 52).2.1 1)]))] rfl (by decide) (by decide) (List.forall_mem_cons.mpr ⟨wf_m, (fun _ h => nomatch h)⟩)
  refine y_of (by decide) rfl (Nat.le_of_ble_eq_true rfl) (y_base (cs := [((ad 52), .inr (12, [.int v_m_th, .ref (ad 53), .int (nI ((t.1 52).2.2 0)), .ref (ad 54), .ref (ad 55), .ref (ad 56), .ref (ad 57), .ref (ad 58), .ref (ad 59), .ref (ad 60), .ref (ad 61), .int ((t.1 52).1 0), .int ((t.1 52).1 1), .int ((t.1 52).1 2), .int ((t.1 52).1 3), .int ((t.1 52).1 4), .int ((t.1 52).1 5), .ref (ad 62), .ref (ad 63), .ref (ad 64), .int ((t.1 52).1 6), .int ((t.1 52).1 7), .int ((t.1 52).1 8), .int ((t.1 52).1 9), .int ((t.1 52).1 10), .ref (ad 65), .ref (ad 66), .ref (ad 67), .ref (ad 68), .long ((t.1 52).2.1 0), .long ((t.1 52).2.1 1)]))]) hJ ?_)
  refine y_lvE (lv2 := [(0, .ref (ad 52)), (1, .int x)]) rfl ?_
  refine y_iload_n d_Mm_noCasting_0 rfl 1 rfl ?_
  refine y_iconst d_Mm_noCasting_1 (v := 0) (by decide) ?_
  refine y_aload_n d_Mm_noCasting_2 rfl 0 rfl ?_
  refine y_get fs_Mm_78 d_Mm_noCasting_3 (q0 := 0) rfl rfl ?_
  refine yw_callVL (As := []) (rest := [.int 0, .int x]) (ci := 13) rfl (fun wA hA => ((hI.gen (t2 := t) (is := [52]) (L2 := []) hA rfl ⟨kd_52.mpr ⟨_, rfl⟩, trivial⟩ (by decide) (by decide) (fun _ h => nomatch h) (fun _ h => nomatch h) (fun _ _ _ => rfl) (fun h => h) rfl).2.1.1 5 (by decide)).ob) ln_Mm_208 w_im_AL_size w_se_AL_size ok_Mm_noCasting_AL_size d_Mm_noCasting_6 (fun wA hA => Q_size ((hI.gen (t2 := t) (is := [52]) (L2 := []) hA rfl ⟨kd_52.mpr ⟨_, rfl⟩, trivial⟩ (by decide) (by decide) (fun _ h => nomatch h) (fun _ h => nomatch h) (fun _ _ _ => rfl) (fun h => h) rfl).2.1.1 5 (by decide))) rfl rfl (Nat.le_of_ble_eq_true rfl) (by omega) (by omega) (fun wA6 hA6 E wB6 hx => ?_) (fun wA6 hA6 v wB6 hx => ?_)
  · exact absurd hx.1 (by simp)
  · obtain ⟨e1, e2⟩ := hx
    cases e1
    refine yw_st (st2 := [.int (nI (u.1 5)), .int 0, .int x]) rfl ?_
    subst e2
    refine y_go hA6 ?_
    refine y_iconst d_Mm_noCasting_9 (v := 1) (by decide) ?_
    refine y_isub d_Mm_noCasting_10 (v := nI (u.1 5) - 1) rfl ?_
    refine y_callS (As := [.int x, .int 0, .int (nI (u.1 5) - 1)]) (rest := []) (csC := []) (is := []) ln_Mm_87 w_st_Mm_in ok_Mm_noCasting_Mm_in d_Mm_noCasting_11 (C_Mm_in g x 0 (nI (u.1 5) - 1)) rfl rfl (Nat.le_of_ble_eq_true rfl) rfl (by decide) (by omega) (by omega) (fun E cs1 hx => ?_) (fun v cs1 hx => ?_)
    · exact absurd hx.1 (by simp)
    · obtain ⟨e1, rfl⟩ := hx
      rw [if_pos ((z_idx (hI.n5 5 (by decide))).mpr hx)] at e1
      cases e1
      refine ⟨rfl, ?_⟩
      refine y_st (st2 := [.int 1]) rfl ?_
      refine y_cs (cs2 := [((ad 52), .inr (12, [.int v_m_th, .ref (ad 53), .int (nI ((t.1 52).2.2 0)), .ref (ad 54), .ref (ad 55), .ref (ad 56), .ref (ad 57), .ref (ad 58), .ref (ad 59), .ref (ad 60), .ref (ad 61), .int ((t.1 52).1 0), .int ((t.1 52).1 1), .int ((t.1 52).1 2), .int ((t.1 52).1 3), .int ((t.1 52).1 4), .int ((t.1 52).1 5), .ref (ad 62), .ref (ad 63), .ref (ad 64), .int ((t.1 52).1 6), .int ((t.1 52).1 7), .int ((t.1 52).1 8), .int ((t.1 52).1 9), .int ((t.1 52).1 10), .ref (ad 65), .ref (ad 66), .ref (ad 67), .ref (ad 68), .long ((t.1 52).2.1 0), .long ((t.1 52).2.1 1)]))]) rfl ?_
      refine y_if_ne (tgt := 21) d_Mm_noCasting_14 (by decide) (fun c_14 => ?_) (fun c_14 => ?_)
      · refine y_iconst d_Mm_noCasting_21 (v := 0) (by decide) ?_
        refine y_iret d_Mm_noCasting_22 rfl rfl ?_
        exact fun w1 h1 => ⟨rfl, z_I.same hJ h1⟩
      · exact absurd c_14 (by decide)
set_option maxHeartbeats 4000000 in
set_option maxRecDepth 100000 in
theorem Q_Mm_alloyE {g : zG} {ad : Nat → Nat} {t : zTT} {u : zNN} {w : zW} (hI : IV g ad t u w) (x : Int32) (hx : ¬ ∃ k, k < u.1 5 ∧ x = nI k) : zMB g M_Mm_alloy [.ref (ad 52), .int x] w (fun o w1 => (∃ v : Int32, o = .inl (some (.int v))) ∧ IV g ad t u w1) 0 0 := by
  obtain ⟨e_m, wf_m, k_m⟩ := hI.1.2 52 (by decide)
  obtain ⟨v_m_th, rfl⟩ := kd_52.mp k_m
  refine y_of (by decide) rfl (Nat.le_of_ble_eq_true rfl) (y_base (cs := [((ad 52), .inr (12, [.int v_m_th, .ref (ad 53), .int (nI ((t.1 52).2.2 0)), .ref (ad 54), .ref (ad 55), .ref (ad 56), .ref (ad 57), .ref (ad 58), .ref (ad 59), .ref (ad 60), .ref (ad 61), .int ((t.1 52).1 0), .int ((t.1 52).1 1), .int ((t.1 52).1 2), .int ((t.1 52).1 3), .int ((t.1 52).1 4), .int ((t.1 52).1 5), .ref (ad 62), .ref (ad 63), .ref (ad 64), .int ((t.1 52).1 6), .int ((t.1 52).1 7), .int ((t.1 52).1 8), .int ((t.1 52).1 9), .int ((t.1 52).1 10), .ref (ad 65), .ref (ad 66), .ref (ad 67), .ref (ad 68), .long ((t.1 52).2.1 0), .long ((t.1 52).2.1 1)]))]) (hI.1.I [52] _ rfl (by decide) (by decide) (List.forall_mem_cons.mpr ⟨wf_m, (fun _ h => nomatch h)⟩)) ?_)
  refine y_lvE (lv2 := [(0, .ref (ad 52)), (1, .int x)]) rfl ?_
  refine y_aload_n d_Mm_alloy_0 rfl 0 rfl ?_
  refine y_iconst d_Mm_alloy_1 (v := 0) (by decide) ?_
  refine y_put fp_Mm_84 d_Mm_alloy_2 (fun h => nomatch h) rfl rfl (q0 := 0) rfl (Nat.le_of_ble_eq_true rfl) (cs' := [((ad 52), .inr (12, [.int 0, .ref (ad 53), .int (nI ((t.1 52).2.2 0)), .ref (ad 54), .ref (ad 55), .ref (ad 56), .ref (ad 57), .ref (ad 58), .ref (ad 59), .ref (ad 60), .ref (ad 61), .int ((t.1 52).1 0), .int ((t.1 52).1 1), .int ((t.1 52).1 2), .int ((t.1 52).1 3), .int ((t.1 52).1 4), .int ((t.1 52).1 5), .ref (ad 62), .ref (ad 63), .ref (ad 64), .int ((t.1 52).1 6), .int ((t.1 52).1 7), .int ((t.1 52).1 8), .int ((t.1 52).1 9), .int ((t.1 52).1 10), .ref (ad 65), .ref (ad 66), .ref (ad 67), .ref (ad 68), .long ((t.1 52).2.1 0), .long ((t.1 52).2.1 1)]))]) rfl ?_
  refine y_aload_n d_Mm_alloy_5 rfl 0 rfl ?_
  refine y_aload_n d_Mm_alloy_6 rfl 0 rfl ?_
  refine y_iload_n d_Mm_alloy_7 rfl 1 rfl ?_
  refine yw_callV (As := [.int x]) (rest := [.ref (ad 52)]) (q0 := 0) rfl rfl ln_Mm_301 w_im_Mm_noCasting w_se_Mm_noCasting ok_Mm_alloy_Mm_noCasting d_Mm_alloy_8 (fun wA hA => Q_noCasting1 (hI.gen (t2 := t) (is := [52]) (L2 := []) hA rfl ⟨kd_52.mpr ⟨_, rfl⟩, trivial⟩ (by decide) (by decide) (fun _ h => nomatch h) (fun _ h => nomatch h) (fun _ _ _ => rfl) (fun h => h) rfl) x hx) rfl rfl (Nat.le_of_ble_eq_true rfl) (by omega) (by omega) (fun wA8 hA8 E wB8 hx => ?_) (fun wA8 hA8 v wB8 hx => ?_)
  · exact absurd hx.1 (by simp)
  · obtain ⟨e1, e2⟩ := hx
    cases e1
    refine yw_st (st2 := [.int 1, .ref (ad 52)]) rfl ?_
    subst e2
    refine y_go hA8 ?_
    refine y_iconst d_Mm_alloy_11 (v := 1) (by decide) ?_
    refine y_callV (As := [.int 1, .int 1]) (rest := []) (csC := [((ad 52), .inr (12, [.int 0, .ref (ad 53), .int (nI ((t.1 52).2.2 0)), .ref (ad 54), .ref (ad 55), .ref (ad 56), .ref (ad 57), .ref (ad 58), .ref (ad 59), .ref (ad 60), .ref (ad 61), .int ((t.1 52).1 0), .int ((t.1 52).1 1), .int ((t.1 52).1 2), .int ((t.1 52).1 3), .int ((t.1 52).1 4), .int ((t.1 52).1 5), .ref (ad 62), .ref (ad 63), .ref (ad 64), .int ((t.1 52).1 6), .int ((t.1 52).1 7), .int ((t.1 52).1 8), .int ((t.1 52).1 9), .int ((t.1 52).1 10), .ref (ad 65), .ref (ad 66), .ref (ad 67), .ref (ad 68), .long ((t.1 52).2.1 0), .long ((t.1 52).2.1 1)]))]) (is := [0]) (q0 := 0) rfl rfl ln_Mm_103 w_im_Mm_fails w_se_Mm_fails ok_Mm_alloy_Mm_fails d_Mm_alloy_12 (C_Mm_fails1 g (ad 52) (ad 53) (ad 54) (ad 55) (ad 56) (ad 57) (ad 58) (ad 59) (ad 60) (ad 61) (ad 62) (ad 63) (ad 64) (ad 65) (ad 66) (ad 67) (ad 68) 0 (nI ((t.1 52).2.2 0)) ((t.1 52).1 0) ((t.1 52).1 1) ((t.1 52).1 2) ((t.1 52).1 3) ((t.1 52).1 4) ((t.1 52).1 5) ((t.1 52).1 6) ((t.1 52).1 7) ((t.1 52).1 8) ((t.1 52).1 9) ((t.1 52).1 10) ((t.1 52).2.1 0) ((t.1 52).2.1 1)) rfl rfl (Nat.le_of_ble_eq_true rfl) rfl (by decide) (by omega) (by omega) (fun E cs1 hx => ?_) (fun v cs1 hx => ?_)
    · exact absurd hx.1 (by simp)
    · obtain ⟨e1, rfl⟩ := hx
      cases e1
      refine ⟨rfl, ?_⟩
      refine y_st (st2 := [.int 1]) rfl ?_
      refine y_cs (cs2 := [((ad 52), .inr (12, [.int 1, .ref (ad 53), .int (nI ((t.1 52).2.2 0)), .ref (ad 54), .ref (ad 55), .ref (ad 56), .ref (ad 57), .ref (ad 58), .ref (ad 59), .ref (ad 60), .ref (ad 61), .int ((t.1 52).1 0), .int ((t.1 52).1 1), .int ((t.1 52).1 2), .int ((t.1 52).1 3), .int ((t.1 52).1 4), .int ((t.1 52).1 5), .ref (ad 62), .ref (ad 63), .ref (ad 64), .int ((t.1 52).1 6), .int ((t.1 52).1 7), .int ((t.1 52).1 8), .int ((t.1 52).1 9), .int ((t.1 52).1 10), .ref (ad 65), .ref (ad 66), .ref (ad 67), .ref (ad 68), .long ((t.1 52).2.1 0), .long ((t.1 52).2.1 1)]))]) rfl ?_
      refine y_if_eq (tgt := 22) d_Mm_alloy_15 (by decide) (fun c_15 => ?_) (fun c_15 => ?_)
      · exact absurd c_15 (by decide)
      · refine y_iconst d_Mm_alloy_18 (v := 0) (by decide) ?_
        refine y_goto (tgt := 46) d_Mm_alloy_19 (by decide) ?_
        refine y_iret d_Mm_alloy_46 rfl rfl ?_
        exact fun w1 h1 => ⟨⟨_, rfl⟩, (hI.gen (t2 := t) (is := [52]) (L2 := []) h1 rfl ⟨kd_52.mpr ⟨_, rfl⟩, trivial⟩ (by decide) (by decide) (fun _ h => nomatch h) (fun _ h => nomatch h) (fun _ _ _ => rfl) (fun h => h) rfl)⟩
set_option maxHeartbeats 4000000 in
set_option maxRecDepth 100000 in
theorem Q_Mm_faultsE {g : zG} {ad : Nat → Nat} {t : zTT} {u : zNN} {w : zW} (hI : IV g ad t u w) (x : Int32) (hx : ¬ ∃ k, k < u.1 5 ∧ x = nI k) : zMB g M_Mm_faults [.ref (ad 52), .int x] w (fun o w1 => (∃ v : Int32, o = .inl (some (.int v))) ∧ IV g ad t u w1) 0 0 := by
  obtain ⟨e_m, wf_m, k_m⟩ := hI.1.2 52 (by decide)
  obtain ⟨v_m_th, rfl⟩ := kd_52.mp k_m
  refine y_of (by decide) rfl (Nat.le_of_ble_eq_true rfl) (y_base (cs := [((ad 52), .inr (12, [.int v_m_th, .ref (ad 53), .int (nI ((t.1 52).2.2 0)), .ref (ad 54), .ref (ad 55), .ref (ad 56), .ref (ad 57), .ref (ad 58), .ref (ad 59), .ref (ad 60), .ref (ad 61), .int ((t.1 52).1 0), .int ((t.1 52).1 1), .int ((t.1 52).1 2), .int ((t.1 52).1 3), .int ((t.1 52).1 4), .int ((t.1 52).1 5), .ref (ad 62), .ref (ad 63), .ref (ad 64), .int ((t.1 52).1 6), .int ((t.1 52).1 7), .int ((t.1 52).1 8), .int ((t.1 52).1 9), .int ((t.1 52).1 10), .ref (ad 65), .ref (ad 66), .ref (ad 67), .ref (ad 68), .long ((t.1 52).2.1 0), .long ((t.1 52).2.1 1)]))]) (hI.1.I [52] _ rfl (by decide) (by decide) (List.forall_mem_cons.mpr ⟨wf_m, (fun _ h => nomatch h)⟩)) ?_)
  refine y_lvE (lv2 := [(0, .ref (ad 52)), (1, .int x)]) rfl ?_
  refine y_aload_n d_Mm_faults_0 rfl 0 rfl ?_
  refine y_iconst d_Mm_faults_1 (v := 0) (by decide) ?_
  refine y_put fp_Mm_84 d_Mm_faults_2 (fun h => nomatch h) rfl rfl (q0 := 0) rfl (Nat.le_of_ble_eq_true rfl) (cs' := [((ad 52), .inr (12, [.int 0, .ref (ad 53), .int (nI ((t.1 52).2.2 0)), .ref (ad 54), .ref (ad 55), .ref (ad 56), .ref (ad 57), .ref (ad 58), .ref (ad 59), .ref (ad 60), .ref (ad 61), .int ((t.1 52).1 0), .int ((t.1 52).1 1), .int ((t.1 52).1 2), .int ((t.1 52).1 3), .int ((t.1 52).1 4), .int ((t.1 52).1 5), .ref (ad 62), .ref (ad 63), .ref (ad 64), .int ((t.1 52).1 6), .int ((t.1 52).1 7), .int ((t.1 52).1 8), .int ((t.1 52).1 9), .int ((t.1 52).1 10), .ref (ad 65), .ref (ad 66), .ref (ad 67), .ref (ad 68), .long ((t.1 52).2.1 0), .long ((t.1 52).2.1 1)]))]) rfl ?_
  refine y_aload_n d_Mm_faults_5 rfl 0 rfl ?_
  refine y_aload_n d_Mm_faults_6 rfl 0 rfl ?_
  refine y_iload_n d_Mm_faults_7 rfl 1 rfl ?_
  refine yw_callV (As := [.int x]) (rest := [.ref (ad 52)]) (q0 := 0) rfl rfl ln_Mm_301 w_im_Mm_noCasting w_se_Mm_noCasting ok_Mm_faults_Mm_noCasting d_Mm_faults_8 (fun wA hA => Q_noCasting1 (hI.gen (t2 := t) (is := [52]) (L2 := []) hA rfl ⟨kd_52.mpr ⟨_, rfl⟩, trivial⟩ (by decide) (by decide) (fun _ h => nomatch h) (fun _ h => nomatch h) (fun _ _ _ => rfl) (fun h => h) rfl) x hx) rfl rfl (Nat.le_of_ble_eq_true rfl) (by omega) (by omega) (fun wA8 hA8 E wB8 hx => ?_) (fun wA8 hA8 v wB8 hx => ?_)
  · exact absurd hx.1 (by simp)
  · obtain ⟨e1, e2⟩ := hx
    cases e1
    refine yw_st (st2 := [.int 1, .ref (ad 52)]) rfl ?_
    subst e2
    refine y_go hA8 ?_
    refine y_iconst d_Mm_faults_11 (v := 1) (by decide) ?_
    refine y_callV (As := [.int 1, .int 1]) (rest := []) (csC := [((ad 52), .inr (12, [.int 0, .ref (ad 53), .int (nI ((t.1 52).2.2 0)), .ref (ad 54), .ref (ad 55), .ref (ad 56), .ref (ad 57), .ref (ad 58), .ref (ad 59), .ref (ad 60), .ref (ad 61), .int ((t.1 52).1 0), .int ((t.1 52).1 1), .int ((t.1 52).1 2), .int ((t.1 52).1 3), .int ((t.1 52).1 4), .int ((t.1 52).1 5), .ref (ad 62), .ref (ad 63), .ref (ad 64), .int ((t.1 52).1 6), .int ((t.1 52).1 7), .int ((t.1 52).1 8), .int ((t.1 52).1 9), .int ((t.1 52).1 10), .ref (ad 65), .ref (ad 66), .ref (ad 67), .ref (ad 68), .long ((t.1 52).2.1 0), .long ((t.1 52).2.1 1)]))]) (is := [0]) (q0 := 0) rfl rfl ln_Mm_103 w_im_Mm_fails w_se_Mm_fails ok_Mm_faults_Mm_fails d_Mm_faults_12 (C_Mm_fails1 g (ad 52) (ad 53) (ad 54) (ad 55) (ad 56) (ad 57) (ad 58) (ad 59) (ad 60) (ad 61) (ad 62) (ad 63) (ad 64) (ad 65) (ad 66) (ad 67) (ad 68) 0 (nI ((t.1 52).2.2 0)) ((t.1 52).1 0) ((t.1 52).1 1) ((t.1 52).1 2) ((t.1 52).1 3) ((t.1 52).1 4) ((t.1 52).1 5) ((t.1 52).1 6) ((t.1 52).1 7) ((t.1 52).1 8) ((t.1 52).1 9) ((t.1 52).1 10) ((t.1 52).2.1 0) ((t.1 52).2.1 1)) rfl rfl (Nat.le_of_ble_eq_true rfl) rfl (by decide) (by omega) (by omega) (fun E cs1 hx => ?_) (fun v cs1 hx => ?_)
    · exact absurd hx.1 (by simp)
    · obtain ⟨e1, rfl⟩ := hx
      cases e1
      refine ⟨rfl, ?_⟩
      refine y_st (st2 := [.int 1]) rfl ?_
      refine y_cs (cs2 := [((ad 52), .inr (12, [.int 1, .ref (ad 53), .int (nI ((t.1 52).2.2 0)), .ref (ad 54), .ref (ad 55), .ref (ad 56), .ref (ad 57), .ref (ad 58), .ref (ad 59), .ref (ad 60), .ref (ad 61), .int ((t.1 52).1 0), .int ((t.1 52).1 1), .int ((t.1 52).1 2), .int ((t.1 52).1 3), .int ((t.1 52).1 4), .int ((t.1 52).1 5), .ref (ad 62), .ref (ad 63), .ref (ad 64), .int ((t.1 52).1 6), .int ((t.1 52).1 7), .int ((t.1 52).1 8), .int ((t.1 52).1 9), .int ((t.1 52).1 10), .ref (ad 65), .ref (ad 66), .ref (ad 67), .ref (ad 68), .long ((t.1 52).2.1 0), .long ((t.1 52).2.1 1)]))]) rfl ?_
      refine y_if_eq (tgt := 22) d_Mm_faults_15 (by decide) (fun c_15 => ?_) (fun c_15 => ?_)
      · exact absurd c_15 (by decide)
      · refine y_iconst d_Mm_faults_18 (v := 0) (by decide) ?_
        refine y_goto (tgt := 35) d_Mm_faults_19 (by decide) ?_
        refine y_iret d_Mm_faults_35 rfl rfl ?_
        exact fun w1 h1 => ⟨⟨_, rfl⟩, (hI.gen (t2 := t) (is := [52]) (L2 := []) h1 rfl ⟨kd_52.mpr ⟨_, rfl⟩, trivial⟩ (by decide) (by decide) (fun _ h => nomatch h) (fun _ h => nomatch h) (fun _ _ _ => rfl) (fun h => h) rfl)⟩
set_option maxHeartbeats 4000000 in
set_option maxRecDepth 100000 in
theorem Q_Mm_shrunkInE {g : zG} {ad : Nat → Nat} {t : zTT} {u : zNN} {w : zW} (hI : IV g ad t u w) (x : Int32) (hx : ¬ ∃ k, k < u.1 5 ∧ x = nI k) : zMB g M_Mm_shrunkIn [.ref (ad 52), .int x] w (fun o w1 => (∃ v : Int32, o = .inl (some (.int v))) ∧ IV g ad t u w1) 0 0 := by
  obtain ⟨e_m, wf_m, k_m⟩ := hI.1.2 52 (by decide)
  obtain ⟨v_m_th, rfl⟩ := kd_52.mp k_m
  refine y_of (by decide) rfl (Nat.le_of_ble_eq_true rfl) (y_base (cs := [((ad 52), .inr (12, [.int v_m_th, .ref (ad 53), .int (nI ((t.1 52).2.2 0)), .ref (ad 54), .ref (ad 55), .ref (ad 56), .ref (ad 57), .ref (ad 58), .ref (ad 59), .ref (ad 60), .ref (ad 61), .int ((t.1 52).1 0), .int ((t.1 52).1 1), .int ((t.1 52).1 2), .int ((t.1 52).1 3), .int ((t.1 52).1 4), .int ((t.1 52).1 5), .ref (ad 62), .ref (ad 63), .ref (ad 64), .int ((t.1 52).1 6), .int ((t.1 52).1 7), .int ((t.1 52).1 8), .int ((t.1 52).1 9), .int ((t.1 52).1 10), .ref (ad 65), .ref (ad 66), .ref (ad 67), .ref (ad 68), .long ((t.1 52).2.1 0), .long ((t.1 52).2.1 1)]))]) (hI.1.I [52] _ rfl (by decide) (by decide) (List.forall_mem_cons.mpr ⟨wf_m, (fun _ h => nomatch h)⟩)) ?_)
  refine y_lvE (lv2 := [(0, .ref (ad 52)), (1, .int x)]) rfl ?_
  refine y_aload_n d_Mm_shrunkIn_0 rfl 0 rfl ?_
  refine y_iconst d_Mm_shrunkIn_1 (v := 0) (by decide) ?_
  refine y_put fp_Mm_84 d_Mm_shrunkIn_2 (fun h => nomatch h) rfl rfl (q0 := 0) rfl (Nat.le_of_ble_eq_true rfl) (cs' := [((ad 52), .inr (12, [.int 0, .ref (ad 53), .int (nI ((t.1 52).2.2 0)), .ref (ad 54), .ref (ad 55), .ref (ad 56), .ref (ad 57), .ref (ad 58), .ref (ad 59), .ref (ad 60), .ref (ad 61), .int ((t.1 52).1 0), .int ((t.1 52).1 1), .int ((t.1 52).1 2), .int ((t.1 52).1 3), .int ((t.1 52).1 4), .int ((t.1 52).1 5), .ref (ad 62), .ref (ad 63), .ref (ad 64), .int ((t.1 52).1 6), .int ((t.1 52).1 7), .int ((t.1 52).1 8), .int ((t.1 52).1 9), .int ((t.1 52).1 10), .ref (ad 65), .ref (ad 66), .ref (ad 67), .ref (ad 68), .long ((t.1 52).2.1 0), .long ((t.1 52).2.1 1)]))]) rfl ?_
  refine y_aload_n d_Mm_shrunkIn_5 rfl 0 rfl ?_
  refine y_aload_n d_Mm_shrunkIn_6 rfl 0 rfl ?_
  refine y_iload_n d_Mm_shrunkIn_7 rfl 1 rfl ?_
  refine yw_callV (As := [.int x]) (rest := [.ref (ad 52)]) (q0 := 0) rfl rfl ln_Mm_301 w_im_Mm_noCasting w_se_Mm_noCasting ok_Mm_shrunkIn_Mm_noCasting d_Mm_shrunkIn_8 (fun wA hA => Q_noCasting1 (hI.gen (t2 := t) (is := [52]) (L2 := []) hA rfl ⟨kd_52.mpr ⟨_, rfl⟩, trivial⟩ (by decide) (by decide) (fun _ h => nomatch h) (fun _ h => nomatch h) (fun _ _ _ => rfl) (fun h => h) rfl) x hx) rfl rfl (Nat.le_of_ble_eq_true rfl) (by omega) (by omega) (fun wA8 hA8 E wB8 hx => ?_) (fun wA8 hA8 v wB8 hx => ?_)
  · exact absurd hx.1 (by simp)
  · obtain ⟨e1, e2⟩ := hx
    cases e1
    refine yw_st (st2 := [.int 1, .ref (ad 52)]) rfl ?_
    subst e2
    refine y_go hA8 ?_
    refine y_iconst d_Mm_shrunkIn_11 (v := 1) (by decide) ?_
    refine y_callV (As := [.int 1, .int 1]) (rest := []) (csC := [((ad 52), .inr (12, [.int 0, .ref (ad 53), .int (nI ((t.1 52).2.2 0)), .ref (ad 54), .ref (ad 55), .ref (ad 56), .ref (ad 57), .ref (ad 58), .ref (ad 59), .ref (ad 60), .ref (ad 61), .int ((t.1 52).1 0), .int ((t.1 52).1 1), .int ((t.1 52).1 2), .int ((t.1 52).1 3), .int ((t.1 52).1 4), .int ((t.1 52).1 5), .ref (ad 62), .ref (ad 63), .ref (ad 64), .int ((t.1 52).1 6), .int ((t.1 52).1 7), .int ((t.1 52).1 8), .int ((t.1 52).1 9), .int ((t.1 52).1 10), .ref (ad 65), .ref (ad 66), .ref (ad 67), .ref (ad 68), .long ((t.1 52).2.1 0), .long ((t.1 52).2.1 1)]))]) (is := [0]) (q0 := 0) rfl rfl ln_Mm_103 w_im_Mm_fails w_se_Mm_fails ok_Mm_shrunkIn_Mm_fails d_Mm_shrunkIn_12 (C_Mm_fails1 g (ad 52) (ad 53) (ad 54) (ad 55) (ad 56) (ad 57) (ad 58) (ad 59) (ad 60) (ad 61) (ad 62) (ad 63) (ad 64) (ad 65) (ad 66) (ad 67) (ad 68) 0 (nI ((t.1 52).2.2 0)) ((t.1 52).1 0) ((t.1 52).1 1) ((t.1 52).1 2) ((t.1 52).1 3) ((t.1 52).1 4) ((t.1 52).1 5) ((t.1 52).1 6) ((t.1 52).1 7) ((t.1 52).1 8) ((t.1 52).1 9) ((t.1 52).1 10) ((t.1 52).2.1 0) ((t.1 52).2.1 1)) rfl rfl (Nat.le_of_ble_eq_true rfl) rfl (by decide) (by omega) (by omega) (fun E cs1 hx => ?_) (fun v cs1 hx => ?_)
    · exact absurd hx.1 (by simp)
    · obtain ⟨e1, rfl⟩ := hx
      cases e1
      refine ⟨rfl, ?_⟩
      refine y_st (st2 := [.int 1]) rfl ?_
      refine y_cs (cs2 := [((ad 52), .inr (12, [.int 1, .ref (ad 53), .int (nI ((t.1 52).2.2 0)), .ref (ad 54), .ref (ad 55), .ref (ad 56), .ref (ad 57), .ref (ad 58), .ref (ad 59), .ref (ad 60), .ref (ad 61), .int ((t.1 52).1 0), .int ((t.1 52).1 1), .int ((t.1 52).1 2), .int ((t.1 52).1 3), .int ((t.1 52).1 4), .int ((t.1 52).1 5), .ref (ad 62), .ref (ad 63), .ref (ad 64), .int ((t.1 52).1 6), .int ((t.1 52).1 7), .int ((t.1 52).1 8), .int ((t.1 52).1 9), .int ((t.1 52).1 10), .ref (ad 65), .ref (ad 66), .ref (ad 67), .ref (ad 68), .long ((t.1 52).2.1 0), .long ((t.1 52).2.1 1)]))]) rfl ?_
      refine y_if_eq (tgt := 22) d_Mm_shrunkIn_15 (by decide) (fun c_15 => ?_) (fun c_15 => ?_)
      · exact absurd c_15 (by decide)
      · refine y_iconst d_Mm_shrunkIn_18 (v := 0) (by decide) ?_
        refine y_goto (tgt := 35) d_Mm_shrunkIn_19 (by decide) ?_
        refine y_iret d_Mm_shrunkIn_35 rfl rfl ?_
        exact fun w1 h1 => ⟨⟨_, rfl⟩, (hI.gen (t2 := t) (is := [52]) (L2 := []) h1 rfl ⟨kd_52.mpr ⟨_, rfl⟩, trivial⟩ (by decide) (by decide) (fun _ h => nomatch h) (fun _ h => nomatch h) (fun _ _ _ => rfl) (fun h => h) rfl)⟩
set_option maxHeartbeats 4000000 in
set_option maxRecDepth 100000 in
theorem Q_Mm_hasE {g : zG} {ad : Nat → Nat} {t : zTT} {u : zNN} {w : zW} (hI : IV g ad t u w) (x : Int32) (hx : ¬ ∃ k, k < u.1 5 ∧ x = nI k) (c : Int32) : zMB g M_Mm_has_1 [.ref (ad 52), .int x, .int c] w (fun o w1 => (∃ v : Int32, o = .inl (some (.int v))) ∧ IV g ad t u w1) 0 0 := by
  obtain ⟨e_m, wf_m, k_m⟩ := hI.1.2 52 (by decide)
  obtain ⟨v_m_th, rfl⟩ := kd_52.mp k_m
  refine y_of (by decide) rfl (Nat.le_of_ble_eq_true rfl) (y_base (cs := [((ad 52), .inr (12, [.int v_m_th, .ref (ad 53), .int (nI ((t.1 52).2.2 0)), .ref (ad 54), .ref (ad 55), .ref (ad 56), .ref (ad 57), .ref (ad 58), .ref (ad 59), .ref (ad 60), .ref (ad 61), .int ((t.1 52).1 0), .int ((t.1 52).1 1), .int ((t.1 52).1 2), .int ((t.1 52).1 3), .int ((t.1 52).1 4), .int ((t.1 52).1 5), .ref (ad 62), .ref (ad 63), .ref (ad 64), .int ((t.1 52).1 6), .int ((t.1 52).1 7), .int ((t.1 52).1 8), .int ((t.1 52).1 9), .int ((t.1 52).1 10), .ref (ad 65), .ref (ad 66), .ref (ad 67), .ref (ad 68), .long ((t.1 52).2.1 0), .long ((t.1 52).2.1 1)]))]) (hI.1.I [52] _ rfl (by decide) (by decide) (List.forall_mem_cons.mpr ⟨wf_m, (fun _ h => nomatch h)⟩)) ?_)
  refine y_lvE (lv2 := [(0, .ref (ad 52)), (1, .int x), (2, .int c)]) rfl ?_
  refine y_aload_n d_Mm_has_1_0 rfl 0 rfl ?_
  refine y_iconst d_Mm_has_1_1 (v := 0) (by decide) ?_
  refine y_put fp_Mm_84 d_Mm_has_1_2 (fun h => nomatch h) rfl rfl (q0 := 0) rfl (Nat.le_of_ble_eq_true rfl) (cs' := [((ad 52), .inr (12, [.int 0, .ref (ad 53), .int (nI ((t.1 52).2.2 0)), .ref (ad 54), .ref (ad 55), .ref (ad 56), .ref (ad 57), .ref (ad 58), .ref (ad 59), .ref (ad 60), .ref (ad 61), .int ((t.1 52).1 0), .int ((t.1 52).1 1), .int ((t.1 52).1 2), .int ((t.1 52).1 3), .int ((t.1 52).1 4), .int ((t.1 52).1 5), .ref (ad 62), .ref (ad 63), .ref (ad 64), .int ((t.1 52).1 6), .int ((t.1 52).1 7), .int ((t.1 52).1 8), .int ((t.1 52).1 9), .int ((t.1 52).1 10), .ref (ad 65), .ref (ad 66), .ref (ad 67), .ref (ad 68), .long ((t.1 52).2.1 0), .long ((t.1 52).2.1 1)]))]) rfl ?_
  refine y_aload_n d_Mm_has_1_5 rfl 0 rfl ?_
  refine y_aload_n d_Mm_has_1_6 rfl 0 rfl ?_
  refine y_iload_n d_Mm_has_1_7 rfl 1 rfl ?_
  refine yw_callV (As := [.int x]) (rest := [.ref (ad 52)]) (q0 := 0) rfl rfl ln_Mm_301 w_im_Mm_noCasting w_se_Mm_noCasting ok_Mm_has_1_Mm_noCasting d_Mm_has_1_8 (fun wA hA => Q_noCasting1 (hI.gen (t2 := t) (is := [52]) (L2 := []) hA rfl ⟨kd_52.mpr ⟨_, rfl⟩, trivial⟩ (by decide) (by decide) (fun _ h => nomatch h) (fun _ h => nomatch h) (fun _ _ _ => rfl) (fun h => h) rfl) x hx) rfl rfl (Nat.le_of_ble_eq_true rfl) (by omega) (by omega) (fun wA8 hA8 E wB8 hx => ?_) (fun wA8 hA8 v wB8 hx => ?_)
  · exact absurd hx.1 (by simp)
  · obtain ⟨e1, e2⟩ := hx
    cases e1
    refine yw_st (st2 := [.int 1, .ref (ad 52)]) rfl ?_
    subst e2
    refine y_go hA8 ?_
    refine y_iconst d_Mm_has_1_11 (v := 1) (by decide) ?_
    refine y_callV (As := [.int 1, .int 1]) (rest := []) (csC := [((ad 52), .inr (12, [.int 0, .ref (ad 53), .int (nI ((t.1 52).2.2 0)), .ref (ad 54), .ref (ad 55), .ref (ad 56), .ref (ad 57), .ref (ad 58), .ref (ad 59), .ref (ad 60), .ref (ad 61), .int ((t.1 52).1 0), .int ((t.1 52).1 1), .int ((t.1 52).1 2), .int ((t.1 52).1 3), .int ((t.1 52).1 4), .int ((t.1 52).1 5), .ref (ad 62), .ref (ad 63), .ref (ad 64), .int ((t.1 52).1 6), .int ((t.1 52).1 7), .int ((t.1 52).1 8), .int ((t.1 52).1 9), .int ((t.1 52).1 10), .ref (ad 65), .ref (ad 66), .ref (ad 67), .ref (ad 68), .long ((t.1 52).2.1 0), .long ((t.1 52).2.1 1)]))]) (is := [0]) (q0 := 0) rfl rfl ln_Mm_103 w_im_Mm_fails w_se_Mm_fails ok_Mm_has_1_Mm_fails d_Mm_has_1_12 (C_Mm_fails1 g (ad 52) (ad 53) (ad 54) (ad 55) (ad 56) (ad 57) (ad 58) (ad 59) (ad 60) (ad 61) (ad 62) (ad 63) (ad 64) (ad 65) (ad 66) (ad 67) (ad 68) 0 (nI ((t.1 52).2.2 0)) ((t.1 52).1 0) ((t.1 52).1 1) ((t.1 52).1 2) ((t.1 52).1 3) ((t.1 52).1 4) ((t.1 52).1 5) ((t.1 52).1 6) ((t.1 52).1 7) ((t.1 52).1 8) ((t.1 52).1 9) ((t.1 52).1 10) ((t.1 52).2.1 0) ((t.1 52).2.1 1)) rfl rfl (Nat.le_of_ble_eq_true rfl) rfl (by decide) (by omega) (by omega) (fun E cs1 hx => ?_) (fun v cs1 hx => ?_)
    · exact absurd hx.1 (by simp)
    · obtain ⟨e1, rfl⟩ := hx
      cases e1
      refine ⟨rfl, ?_⟩
      refine y_st (st2 := [.int 1]) rfl ?_
      refine y_cs (cs2 := [((ad 52), .inr (12, [.int 1, .ref (ad 53), .int (nI ((t.1 52).2.2 0)), .ref (ad 54), .ref (ad 55), .ref (ad 56), .ref (ad 57), .ref (ad 58), .ref (ad 59), .ref (ad 60), .ref (ad 61), .int ((t.1 52).1 0), .int ((t.1 52).1 1), .int ((t.1 52).1 2), .int ((t.1 52).1 3), .int ((t.1 52).1 4), .int ((t.1 52).1 5), .ref (ad 62), .ref (ad 63), .ref (ad 64), .int ((t.1 52).1 6), .int ((t.1 52).1 7), .int ((t.1 52).1 8), .int ((t.1 52).1 9), .int ((t.1 52).1 10), .ref (ad 65), .ref (ad 66), .ref (ad 67), .ref (ad 68), .long ((t.1 52).2.1 0), .long ((t.1 52).2.1 1)]))]) rfl ?_
      refine y_if_ne (tgt := 38) d_Mm_has_1_15 (by decide) (fun c_15 => ?_) (fun c_15 => ?_)
      · refine y_iconst d_Mm_has_1_38 (v := 0) (by decide) ?_
        refine y_goto (tgt := 51) d_Mm_has_1_39 (by decide) ?_
        refine y_iret d_Mm_has_1_51 rfl rfl ?_
        exact fun w1 h1 => ⟨⟨_, rfl⟩, (hI.gen (t2 := t) (is := [52]) (L2 := []) h1 rfl ⟨kd_52.mpr ⟨_, rfl⟩, trivial⟩ (by decide) (by decide) (fun _ h => nomatch h) (fun _ h => nomatch h) (fun _ _ _ => rfl) (fun h => h) rfl)⟩
      · exact absurd c_15 (by decide)
set_option maxHeartbeats 4000000 in
set_option maxRecDepth 100000 in
theorem Q_Mm_barE {g : zG} {ad : Nat → Nat} {t : zTT} {u : zNN} {w : zW} (hI : IV g ad t u w) (x : Int32) (hx : ¬ ∃ k, k < u.1 5 ∧ x = nI k) : zMB g M_Mm_bar [.ref (ad 52), .int x] w (fun o w1 => (∃ v : Int32, o = .inl (some (.int v))) ∧ IV g ad t u w1) 0 0 := by
  obtain ⟨e_m, wf_m, k_m⟩ := hI.1.2 52 (by decide)
  obtain ⟨v_m_th, rfl⟩ := kd_52.mp k_m
  refine y_of (by decide) rfl (Nat.le_of_ble_eq_true rfl) (y_base (cs := [((ad 52), .inr (12, [.int v_m_th, .ref (ad 53), .int (nI ((t.1 52).2.2 0)), .ref (ad 54), .ref (ad 55), .ref (ad 56), .ref (ad 57), .ref (ad 58), .ref (ad 59), .ref (ad 60), .ref (ad 61), .int ((t.1 52).1 0), .int ((t.1 52).1 1), .int ((t.1 52).1 2), .int ((t.1 52).1 3), .int ((t.1 52).1 4), .int ((t.1 52).1 5), .ref (ad 62), .ref (ad 63), .ref (ad 64), .int ((t.1 52).1 6), .int ((t.1 52).1 7), .int ((t.1 52).1 8), .int ((t.1 52).1 9), .int ((t.1 52).1 10), .ref (ad 65), .ref (ad 66), .ref (ad 67), .ref (ad 68), .long ((t.1 52).2.1 0), .long ((t.1 52).2.1 1)]))]) (hI.1.I [52] _ rfl (by decide) (by decide) (List.forall_mem_cons.mpr ⟨wf_m, (fun _ h => nomatch h)⟩)) ?_)
  refine y_lvE (lv2 := [(0, .ref (ad 52)), (1, .int x)]) rfl ?_
  refine y_aload_n d_Mm_bar_0 rfl 0 rfl ?_
  refine y_iconst d_Mm_bar_1 (v := 0) (by decide) ?_
  refine y_put fp_Mm_84 d_Mm_bar_2 (fun h => nomatch h) rfl rfl (q0 := 0) rfl (Nat.le_of_ble_eq_true rfl) (cs' := [((ad 52), .inr (12, [.int 0, .ref (ad 53), .int (nI ((t.1 52).2.2 0)), .ref (ad 54), .ref (ad 55), .ref (ad 56), .ref (ad 57), .ref (ad 58), .ref (ad 59), .ref (ad 60), .ref (ad 61), .int ((t.1 52).1 0), .int ((t.1 52).1 1), .int ((t.1 52).1 2), .int ((t.1 52).1 3), .int ((t.1 52).1 4), .int ((t.1 52).1 5), .ref (ad 62), .ref (ad 63), .ref (ad 64), .int ((t.1 52).1 6), .int ((t.1 52).1 7), .int ((t.1 52).1 8), .int ((t.1 52).1 9), .int ((t.1 52).1 10), .ref (ad 65), .ref (ad 66), .ref (ad 67), .ref (ad 68), .long ((t.1 52).2.1 0), .long ((t.1 52).2.1 1)]))]) rfl ?_
  refine y_aload_n d_Mm_bar_5 rfl 0 rfl ?_
  refine y_aload_n d_Mm_bar_6 rfl 0 rfl ?_
  refine y_iload_n d_Mm_bar_7 rfl 1 rfl ?_
  refine yw_callV (As := [.int x]) (rest := [.ref (ad 52)]) (q0 := 0) rfl rfl ln_Mm_301 w_im_Mm_noCasting w_se_Mm_noCasting ok_Mm_bar_Mm_noCasting d_Mm_bar_8 (fun wA hA => Q_noCasting1 (hI.gen (t2 := t) (is := [52]) (L2 := []) hA rfl ⟨kd_52.mpr ⟨_, rfl⟩, trivial⟩ (by decide) (by decide) (fun _ h => nomatch h) (fun _ h => nomatch h) (fun _ _ _ => rfl) (fun h => h) rfl) x hx) rfl rfl (Nat.le_of_ble_eq_true rfl) (by omega) (by omega) (fun wA8 hA8 E wB8 hx => ?_) (fun wA8 hA8 v wB8 hx => ?_)
  · exact absurd hx.1 (by simp)
  · obtain ⟨e1, e2⟩ := hx
    cases e1
    refine yw_st (st2 := [.int 1, .ref (ad 52)]) rfl ?_
    subst e2
    refine y_go hA8 ?_
    refine y_iconst d_Mm_bar_11 (v := 1) (by decide) ?_
    refine y_callV (As := [.int 1, .int 1]) (rest := []) (csC := [((ad 52), .inr (12, [.int 0, .ref (ad 53), .int (nI ((t.1 52).2.2 0)), .ref (ad 54), .ref (ad 55), .ref (ad 56), .ref (ad 57), .ref (ad 58), .ref (ad 59), .ref (ad 60), .ref (ad 61), .int ((t.1 52).1 0), .int ((t.1 52).1 1), .int ((t.1 52).1 2), .int ((t.1 52).1 3), .int ((t.1 52).1 4), .int ((t.1 52).1 5), .ref (ad 62), .ref (ad 63), .ref (ad 64), .int ((t.1 52).1 6), .int ((t.1 52).1 7), .int ((t.1 52).1 8), .int ((t.1 52).1 9), .int ((t.1 52).1 10), .ref (ad 65), .ref (ad 66), .ref (ad 67), .ref (ad 68), .long ((t.1 52).2.1 0), .long ((t.1 52).2.1 1)]))]) (is := [0]) (q0 := 0) rfl rfl ln_Mm_103 w_im_Mm_fails w_se_Mm_fails ok_Mm_bar_Mm_fails d_Mm_bar_12 (C_Mm_fails1 g (ad 52) (ad 53) (ad 54) (ad 55) (ad 56) (ad 57) (ad 58) (ad 59) (ad 60) (ad 61) (ad 62) (ad 63) (ad 64) (ad 65) (ad 66) (ad 67) (ad 68) 0 (nI ((t.1 52).2.2 0)) ((t.1 52).1 0) ((t.1 52).1 1) ((t.1 52).1 2) ((t.1 52).1 3) ((t.1 52).1 4) ((t.1 52).1 5) ((t.1 52).1 6) ((t.1 52).1 7) ((t.1 52).1 8) ((t.1 52).1 9) ((t.1 52).1 10) ((t.1 52).2.1 0) ((t.1 52).2.1 1)) rfl rfl (Nat.le_of_ble_eq_true rfl) rfl (by decide) (by omega) (by omega) (fun E cs1 hx => ?_) (fun v cs1 hx => ?_)
    · exact absurd hx.1 (by simp)
    · obtain ⟨e1, rfl⟩ := hx
      cases e1
      refine ⟨rfl, ?_⟩
      refine y_st (st2 := [.int 1]) rfl ?_
      refine y_cs (cs2 := [((ad 52), .inr (12, [.int 1, .ref (ad 53), .int (nI ((t.1 52).2.2 0)), .ref (ad 54), .ref (ad 55), .ref (ad 56), .ref (ad 57), .ref (ad 58), .ref (ad 59), .ref (ad 60), .ref (ad 61), .int ((t.1 52).1 0), .int ((t.1 52).1 1), .int ((t.1 52).1 2), .int ((t.1 52).1 3), .int ((t.1 52).1 4), .int ((t.1 52).1 5), .ref (ad 62), .ref (ad 63), .ref (ad 64), .int ((t.1 52).1 6), .int ((t.1 52).1 7), .int ((t.1 52).1 8), .int ((t.1 52).1 9), .int ((t.1 52).1 10), .ref (ad 65), .ref (ad 66), .ref (ad 67), .ref (ad 68), .long ((t.1 52).2.1 0), .long ((t.1 52).2.1 1)]))]) rfl ?_
      refine y_if_eq (tgt := 22) d_Mm_bar_15 (by decide) (fun c_15 => ?_) (fun c_15 => ?_)
      · exact absurd c_15 (by decide)
      · refine y_iconst d_Mm_bar_18 (v := 0) (by decide) ?_
        refine y_goto (tgt := 27) d_Mm_bar_19 (by decide) ?_
        refine y_iret d_Mm_bar_27 rfl rfl ?_
        exact fun w1 h1 => ⟨⟨_, rfl⟩, (hI.gen (t2 := t) (is := [52]) (L2 := []) h1 rfl ⟨kd_52.mpr ⟨_, rfl⟩, trivial⟩ (by decide) (by decide) (fun _ h => nomatch h) (fun _ h => nomatch h) (fun _ _ _ => rfl) (fun h => h) rfl)⟩
set_option maxHeartbeats 4000000 in
set_option maxRecDepth 100000 in
theorem Q_Mm_weldE {g : zG} {ad : Nat → Nat} {t : zTT} {u : zNN} {w : zW} (hI : IV g ad t u w) (x : Int32) (hx : ¬ ∃ k, k < u.1 5 ∧ x = nI k) : zMB g M_Mm_weld [.ref (ad 52), .int x] w (fun o w1 => (∃ v : Int32, o = .inl (some (.int v))) ∧ IV g ad t u w1) 0 0 := by
  obtain ⟨e_m, wf_m, k_m⟩ := hI.1.2 52 (by decide)
  obtain ⟨v_m_th, rfl⟩ := kd_52.mp k_m
  refine y_of (by decide) rfl (Nat.le_of_ble_eq_true rfl) (y_base (cs := [((ad 52), .inr (12, [.int v_m_th, .ref (ad 53), .int (nI ((t.1 52).2.2 0)), .ref (ad 54), .ref (ad 55), .ref (ad 56), .ref (ad 57), .ref (ad 58), .ref (ad 59), .ref (ad 60), .ref (ad 61), .int ((t.1 52).1 0), .int ((t.1 52).1 1), .int ((t.1 52).1 2), .int ((t.1 52).1 3), .int ((t.1 52).1 4), .int ((t.1 52).1 5), .ref (ad 62), .ref (ad 63), .ref (ad 64), .int ((t.1 52).1 6), .int ((t.1 52).1 7), .int ((t.1 52).1 8), .int ((t.1 52).1 9), .int ((t.1 52).1 10), .ref (ad 65), .ref (ad 66), .ref (ad 67), .ref (ad 68), .long ((t.1 52).2.1 0), .long ((t.1 52).2.1 1)]))]) (hI.1.I [52] _ rfl (by decide) (by decide) (List.forall_mem_cons.mpr ⟨wf_m, (fun _ h => nomatch h)⟩)) ?_)
  refine y_lvE (lv2 := [(0, .ref (ad 52)), (1, .int x)]) rfl ?_
  refine y_aload_n d_Mm_weld_0 rfl 0 rfl ?_
  refine y_iconst d_Mm_weld_1 (v := 0) (by decide) ?_
  refine y_put fp_Mm_84 d_Mm_weld_2 (fun h => nomatch h) rfl rfl (q0 := 0) rfl (Nat.le_of_ble_eq_true rfl) (cs' := [((ad 52), .inr (12, [.int 0, .ref (ad 53), .int (nI ((t.1 52).2.2 0)), .ref (ad 54), .ref (ad 55), .ref (ad 56), .ref (ad 57), .ref (ad 58), .ref (ad 59), .ref (ad 60), .ref (ad 61), .int ((t.1 52).1 0), .int ((t.1 52).1 1), .int ((t.1 52).1 2), .int ((t.1 52).1 3), .int ((t.1 52).1 4), .int ((t.1 52).1 5), .ref (ad 62), .ref (ad 63), .ref (ad 64), .int ((t.1 52).1 6), .int ((t.1 52).1 7), .int ((t.1 52).1 8), .int ((t.1 52).1 9), .int ((t.1 52).1 10), .ref (ad 65), .ref (ad 66), .ref (ad 67), .ref (ad 68), .long ((t.1 52).2.1 0), .long ((t.1 52).2.1 1)]))]) rfl ?_
  refine y_aload_n d_Mm_weld_5 rfl 0 rfl ?_
  refine y_aload_n d_Mm_weld_6 rfl 0 rfl ?_
  refine y_iload_n d_Mm_weld_7 rfl 1 rfl ?_
  refine yw_callV (As := [.int x]) (rest := [.ref (ad 52)]) (q0 := 0) rfl rfl ln_Mm_301 w_im_Mm_noCasting w_se_Mm_noCasting ok_Mm_weld_Mm_noCasting d_Mm_weld_8 (fun wA hA => Q_noCasting1 (hI.gen (t2 := t) (is := [52]) (L2 := []) hA rfl ⟨kd_52.mpr ⟨_, rfl⟩, trivial⟩ (by decide) (by decide) (fun _ h => nomatch h) (fun _ h => nomatch h) (fun _ _ _ => rfl) (fun h => h) rfl) x hx) rfl rfl (Nat.le_of_ble_eq_true rfl) (by omega) (by omega) (fun wA8 hA8 E wB8 hx => ?_) (fun wA8 hA8 v wB8 hx => ?_)
  · exact absurd hx.1 (by simp)
  · obtain ⟨e1, e2⟩ := hx
    cases e1
    refine yw_st (st2 := [.int 1, .ref (ad 52)]) rfl ?_
    subst e2
    refine y_go hA8 ?_
    refine y_iconst d_Mm_weld_11 (v := 1) (by decide) ?_
    refine y_callV (As := [.int 1, .int 1]) (rest := []) (csC := [((ad 52), .inr (12, [.int 0, .ref (ad 53), .int (nI ((t.1 52).2.2 0)), .ref (ad 54), .ref (ad 55), .ref (ad 56), .ref (ad 57), .ref (ad 58), .ref (ad 59), .ref (ad 60), .ref (ad 61), .int ((t.1 52).1 0), .int ((t.1 52).1 1), .int ((t.1 52).1 2), .int ((t.1 52).1 3), .int ((t.1 52).1 4), .int ((t.1 52).1 5), .ref (ad 62), .ref (ad 63), .ref (ad 64), .int ((t.1 52).1 6), .int ((t.1 52).1 7), .int ((t.1 52).1 8), .int ((t.1 52).1 9), .int ((t.1 52).1 10), .ref (ad 65), .ref (ad 66), .ref (ad 67), .ref (ad 68), .long ((t.1 52).2.1 0), .long ((t.1 52).2.1 1)]))]) (is := [0]) (q0 := 0) rfl rfl ln_Mm_103 w_im_Mm_fails w_se_Mm_fails ok_Mm_weld_Mm_fails d_Mm_weld_12 (C_Mm_fails1 g (ad 52) (ad 53) (ad 54) (ad 55) (ad 56) (ad 57) (ad 58) (ad 59) (ad 60) (ad 61) (ad 62) (ad 63) (ad 64) (ad 65) (ad 66) (ad 67) (ad 68) 0 (nI ((t.1 52).2.2 0)) ((t.1 52).1 0) ((t.1 52).1 1) ((t.1 52).1 2) ((t.1 52).1 3) ((t.1 52).1 4) ((t.1 52).1 5) ((t.1 52).1 6) ((t.1 52).1 7) ((t.1 52).1 8) ((t.1 52).1 9) ((t.1 52).1 10) ((t.1 52).2.1 0) ((t.1 52).2.1 1)) rfl rfl (Nat.le_of_ble_eq_true rfl) rfl (by decide) (by omega) (by omega) (fun E cs1 hx => ?_) (fun v cs1 hx => ?_)
    · exact absurd hx.1 (by simp)
    · obtain ⟨e1, rfl⟩ := hx
      cases e1
      refine ⟨rfl, ?_⟩
      refine y_st (st2 := [.int 1]) rfl ?_
      refine y_cs (cs2 := [((ad 52), .inr (12, [.int 1, .ref (ad 53), .int (nI ((t.1 52).2.2 0)), .ref (ad 54), .ref (ad 55), .ref (ad 56), .ref (ad 57), .ref (ad 58), .ref (ad 59), .ref (ad 60), .ref (ad 61), .int ((t.1 52).1 0), .int ((t.1 52).1 1), .int ((t.1 52).1 2), .int ((t.1 52).1 3), .int ((t.1 52).1 4), .int ((t.1 52).1 5), .ref (ad 62), .ref (ad 63), .ref (ad 64), .int ((t.1 52).1 6), .int ((t.1 52).1 7), .int ((t.1 52).1 8), .int ((t.1 52).1 9), .int ((t.1 52).1 10), .ref (ad 65), .ref (ad 66), .ref (ad 67), .ref (ad 68), .long ((t.1 52).2.1 0), .long ((t.1 52).2.1 1)]))]) rfl ?_
      refine y_if_eq (tgt := 20) d_Mm_weld_15 (by decide) (fun c_15 => ?_) (fun c_15 => ?_)
      · exact absurd c_15 (by decide)
      · refine y_iconst d_Mm_weld_18 (v := 0) (by decide) ?_
        refine y_iret d_Mm_weld_19 rfl rfl ?_
        exact fun w1 h1 => ⟨⟨_, rfl⟩, (hI.gen (t2 := t) (is := [52]) (L2 := []) h1 rfl ⟨kd_52.mpr ⟨_, rfl⟩, trivial⟩ (by decide) (by decide) (fun _ h => nomatch h) (fun _ h => nomatch h) (fun _ _ _ => rfl) (fun h => h) rfl)⟩
set_option maxHeartbeats 4000000 in
set_option maxRecDepth 100000 in
theorem Q_Mm_deliverE {g : zG} {ad : Nat → Nat} {t : zTT} {u : zNN} {w : zW} (hI : IV g ad t u w) (x : Int32) (hx : ¬ ∃ k, k < u.1 5 ∧ x = nI k) : zMB g M_Mm_deliver [.ref (ad 52), .int x] w (fun o w1 => (∃ v : Int32, o = .inl (some (.int v))) ∧ IV g ad t u w1) 0 0 := by
  obtain ⟨e_m, wf_m, k_m⟩ := hI.1.2 52 (by decide)
  obtain ⟨v_m_th, rfl⟩ := kd_52.mp k_m
  refine y_of (by decide) rfl (Nat.le_of_ble_eq_true rfl) (y_base (cs := [((ad 52), .inr (12, [.int v_m_th, .ref (ad 53), .int (nI ((t.1 52).2.2 0)), .ref (ad 54), .ref (ad 55), .ref (ad 56), .ref (ad 57), .ref (ad 58), .ref (ad 59), .ref (ad 60), .ref (ad 61), .int ((t.1 52).1 0), .int ((t.1 52).1 1), .int ((t.1 52).1 2), .int ((t.1 52).1 3), .int ((t.1 52).1 4), .int ((t.1 52).1 5), .ref (ad 62), .ref (ad 63), .ref (ad 64), .int ((t.1 52).1 6), .int ((t.1 52).1 7), .int ((t.1 52).1 8), .int ((t.1 52).1 9), .int ((t.1 52).1 10), .ref (ad 65), .ref (ad 66), .ref (ad 67), .ref (ad 68), .long ((t.1 52).2.1 0), .long ((t.1 52).2.1 1)]))]) (hI.1.I [52] _ rfl (by decide) (by decide) (List.forall_mem_cons.mpr ⟨wf_m, (fun _ h => nomatch h)⟩)) ?_)
  refine y_lvE (lv2 := [(0, .ref (ad 52)), (1, .int x)]) rfl ?_
  refine y_aload_n d_Mm_deliver_0 rfl 0 rfl ?_
  refine y_iconst d_Mm_deliver_1 (v := 0) (by decide) ?_
  refine y_put fp_Mm_84 d_Mm_deliver_2 (fun h => nomatch h) rfl rfl (q0 := 0) rfl (Nat.le_of_ble_eq_true rfl) (cs' := [((ad 52), .inr (12, [.int 0, .ref (ad 53), .int (nI ((t.1 52).2.2 0)), .ref (ad 54), .ref (ad 55), .ref (ad 56), .ref (ad 57), .ref (ad 58), .ref (ad 59), .ref (ad 60), .ref (ad 61), .int ((t.1 52).1 0), .int ((t.1 52).1 1), .int ((t.1 52).1 2), .int ((t.1 52).1 3), .int ((t.1 52).1 4), .int ((t.1 52).1 5), .ref (ad 62), .ref (ad 63), .ref (ad 64), .int ((t.1 52).1 6), .int ((t.1 52).1 7), .int ((t.1 52).1 8), .int ((t.1 52).1 9), .int ((t.1 52).1 10), .ref (ad 65), .ref (ad 66), .ref (ad 67), .ref (ad 68), .long ((t.1 52).2.1 0), .long ((t.1 52).2.1 1)]))]) rfl ?_
  refine y_aload_n d_Mm_deliver_5 rfl 0 rfl ?_
  refine y_aload_n d_Mm_deliver_6 rfl 0 rfl ?_
  refine y_iload_n d_Mm_deliver_7 rfl 1 rfl ?_
  refine yw_callV (As := [.int x]) (rest := [.ref (ad 52)]) (q0 := 0) rfl rfl ln_Mm_301 w_im_Mm_noCasting w_se_Mm_noCasting ok_Mm_deliver_Mm_noCasting d_Mm_deliver_8 (fun wA hA => Q_noCasting1 (hI.gen (t2 := t) (is := [52]) (L2 := []) hA rfl ⟨kd_52.mpr ⟨_, rfl⟩, trivial⟩ (by decide) (by decide) (fun _ h => nomatch h) (fun _ h => nomatch h) (fun _ _ _ => rfl) (fun h => h) rfl) x hx) rfl rfl (Nat.le_of_ble_eq_true rfl) (by omega) (by omega) (fun wA8 hA8 E wB8 hx => ?_) (fun wA8 hA8 v wB8 hx => ?_)
  · exact absurd hx.1 (by simp)
  · obtain ⟨e1, e2⟩ := hx
    cases e1
    refine yw_st (st2 := [.int 1, .ref (ad 52)]) rfl ?_
    subst e2
    refine y_go hA8 ?_
    refine y_iconst d_Mm_deliver_11 (v := 1) (by decide) ?_
    refine y_callV (As := [.int 1, .int 1]) (rest := []) (csC := [((ad 52), .inr (12, [.int 0, .ref (ad 53), .int (nI ((t.1 52).2.2 0)), .ref (ad 54), .ref (ad 55), .ref (ad 56), .ref (ad 57), .ref (ad 58), .ref (ad 59), .ref (ad 60), .ref (ad 61), .int ((t.1 52).1 0), .int ((t.1 52).1 1), .int ((t.1 52).1 2), .int ((t.1 52).1 3), .int ((t.1 52).1 4), .int ((t.1 52).1 5), .ref (ad 62), .ref (ad 63), .ref (ad 64), .int ((t.1 52).1 6), .int ((t.1 52).1 7), .int ((t.1 52).1 8), .int ((t.1 52).1 9), .int ((t.1 52).1 10), .ref (ad 65), .ref (ad 66), .ref (ad 67), .ref (ad 68), .long ((t.1 52).2.1 0), .long ((t.1 52).2.1 1)]))]) (is := [0]) (q0 := 0) rfl rfl ln_Mm_103 w_im_Mm_fails w_se_Mm_fails ok_Mm_deliver_Mm_fails d_Mm_deliver_12 (C_Mm_fails1 g (ad 52) (ad 53) (ad 54) (ad 55) (ad 56) (ad 57) (ad 58) (ad 59) (ad 60) (ad 61) (ad 62) (ad 63) (ad 64) (ad 65) (ad 66) (ad 67) (ad 68) 0 (nI ((t.1 52).2.2 0)) ((t.1 52).1 0) ((t.1 52).1 1) ((t.1 52).1 2) ((t.1 52).1 3) ((t.1 52).1 4) ((t.1 52).1 5) ((t.1 52).1 6) ((t.1 52).1 7) ((t.1 52).1 8) ((t.1 52).1 9) ((t.1 52).1 10) ((t.1 52).2.1 0) ((t.1 52).2.1 1)) rfl rfl (Nat.le_of_ble_eq_true rfl) rfl (by decide) (by omega) (by omega) (fun E cs1 hx => ?_) (fun v cs1 hx => ?_)
    · exact absurd hx.1 (by simp)
    · obtain ⟨e1, rfl⟩ := hx
      cases e1
      refine ⟨rfl, ?_⟩
      refine y_st (st2 := [.int 1]) rfl ?_
      refine y_cs (cs2 := [((ad 52), .inr (12, [.int 1, .ref (ad 53), .int (nI ((t.1 52).2.2 0)), .ref (ad 54), .ref (ad 55), .ref (ad 56), .ref (ad 57), .ref (ad 58), .ref (ad 59), .ref (ad 60), .ref (ad 61), .int ((t.1 52).1 0), .int ((t.1 52).1 1), .int ((t.1 52).1 2), .int ((t.1 52).1 3), .int ((t.1 52).1 4), .int ((t.1 52).1 5), .ref (ad 62), .ref (ad 63), .ref (ad 64), .int ((t.1 52).1 6), .int ((t.1 52).1 7), .int ((t.1 52).1 8), .int ((t.1 52).1 9), .int ((t.1 52).1 10), .ref (ad 65), .ref (ad 66), .ref (ad 67), .ref (ad 68), .long ((t.1 52).2.1 0), .long ((t.1 52).2.1 1)]))]) rfl ?_
      refine y_if_ne (tgt := 47) d_Mm_deliver_15 (by decide) (fun c_15 => ?_) (fun c_15 => ?_)
      · refine y_iconst d_Mm_deliver_47 (v := 0) (by decide) ?_
        refine y_iret d_Mm_deliver_48 rfl rfl ?_
        exact fun w1 h1 => ⟨⟨_, rfl⟩, (hI.gen (t2 := t) (is := [52]) (L2 := []) h1 rfl ⟨kd_52.mpr ⟨_, rfl⟩, trivial⟩ (by decide) (by decide) (fun _ h => nomatch h) (fun _ h => nomatch h) (fun _ _ _ => rfl) (fun h => h) rfl)⟩
      · exact absurd c_15 (by decide)
set_option maxHeartbeats 4000000 in
set_option maxRecDepth 100000 in
theorem Q_Mm_breakUpE {g : zG} {ad : Nat → Nat} {t : zTT} {u : zNN} {w : zW} (hI : IV g ad t u w) (x : Int32) (hx : ¬ ∃ k, k < u.1 5 ∧ x = nI k) : zMB g M_Mm_breakUp [.ref (ad 52), .int x] w (fun o w1 => (∃ v : Int32, o = .inl (some (.int v))) ∧ IV g ad t u w1) 0 0 := by
  obtain ⟨e_m, wf_m, k_m⟩ := hI.1.2 52 (by decide)
  obtain ⟨v_m_th, rfl⟩ := kd_52.mp k_m
  refine y_of (by decide) rfl (Nat.le_of_ble_eq_true rfl) (y_base (cs := [((ad 52), .inr (12, [.int v_m_th, .ref (ad 53), .int (nI ((t.1 52).2.2 0)), .ref (ad 54), .ref (ad 55), .ref (ad 56), .ref (ad 57), .ref (ad 58), .ref (ad 59), .ref (ad 60), .ref (ad 61), .int ((t.1 52).1 0), .int ((t.1 52).1 1), .int ((t.1 52).1 2), .int ((t.1 52).1 3), .int ((t.1 52).1 4), .int ((t.1 52).1 5), .ref (ad 62), .ref (ad 63), .ref (ad 64), .int ((t.1 52).1 6), .int ((t.1 52).1 7), .int ((t.1 52).1 8), .int ((t.1 52).1 9), .int ((t.1 52).1 10), .ref (ad 65), .ref (ad 66), .ref (ad 67), .ref (ad 68), .long ((t.1 52).2.1 0), .long ((t.1 52).2.1 1)]))]) (hI.1.I [52] _ rfl (by decide) (by decide) (List.forall_mem_cons.mpr ⟨wf_m, (fun _ h => nomatch h)⟩)) ?_)
  refine y_lvE (lv2 := [(0, .ref (ad 52)), (1, .int x)]) rfl ?_
  refine y_aload_n d_Mm_breakUp_0 rfl 0 rfl ?_
  refine y_iconst d_Mm_breakUp_1 (v := 0) (by decide) ?_
  refine y_put fp_Mm_84 d_Mm_breakUp_2 (fun h => nomatch h) rfl rfl (q0 := 0) rfl (Nat.le_of_ble_eq_true rfl) (cs' := [((ad 52), .inr (12, [.int 0, .ref (ad 53), .int (nI ((t.1 52).2.2 0)), .ref (ad 54), .ref (ad 55), .ref (ad 56), .ref (ad 57), .ref (ad 58), .ref (ad 59), .ref (ad 60), .ref (ad 61), .int ((t.1 52).1 0), .int ((t.1 52).1 1), .int ((t.1 52).1 2), .int ((t.1 52).1 3), .int ((t.1 52).1 4), .int ((t.1 52).1 5), .ref (ad 62), .ref (ad 63), .ref (ad 64), .int ((t.1 52).1 6), .int ((t.1 52).1 7), .int ((t.1 52).1 8), .int ((t.1 52).1 9), .int ((t.1 52).1 10), .ref (ad 65), .ref (ad 66), .ref (ad 67), .ref (ad 68), .long ((t.1 52).2.1 0), .long ((t.1 52).2.1 1)]))]) rfl ?_
  refine y_aload_n d_Mm_breakUp_5 rfl 0 rfl ?_
  refine y_aload_n d_Mm_breakUp_6 rfl 0 rfl ?_
  refine y_iload_n d_Mm_breakUp_7 rfl 1 rfl ?_
  refine yw_callV (As := [.int x]) (rest := [.ref (ad 52)]) (q0 := 0) rfl rfl ln_Mm_301 w_im_Mm_noCasting w_se_Mm_noCasting ok_Mm_breakUp_Mm_noCasting d_Mm_breakUp_8 (fun wA hA => Q_noCasting1 (hI.gen (t2 := t) (is := [52]) (L2 := []) hA rfl ⟨kd_52.mpr ⟨_, rfl⟩, trivial⟩ (by decide) (by decide) (fun _ h => nomatch h) (fun _ h => nomatch h) (fun _ _ _ => rfl) (fun h => h) rfl) x hx) rfl rfl (Nat.le_of_ble_eq_true rfl) (by omega) (by omega) (fun wA8 hA8 E wB8 hx => ?_) (fun wA8 hA8 v wB8 hx => ?_)
  · exact absurd hx.1 (by simp)
  · obtain ⟨e1, e2⟩ := hx
    cases e1
    refine yw_st (st2 := [.int 1, .ref (ad 52)]) rfl ?_
    subst e2
    refine y_go hA8 ?_
    refine y_iconst d_Mm_breakUp_11 (v := 1) (by decide) ?_
    refine y_callV (As := [.int 1, .int 1]) (rest := []) (csC := [((ad 52), .inr (12, [.int 0, .ref (ad 53), .int (nI ((t.1 52).2.2 0)), .ref (ad 54), .ref (ad 55), .ref (ad 56), .ref (ad 57), .ref (ad 58), .ref (ad 59), .ref (ad 60), .ref (ad 61), .int ((t.1 52).1 0), .int ((t.1 52).1 1), .int ((t.1 52).1 2), .int ((t.1 52).1 3), .int ((t.1 52).1 4), .int ((t.1 52).1 5), .ref (ad 62), .ref (ad 63), .ref (ad 64), .int ((t.1 52).1 6), .int ((t.1 52).1 7), .int ((t.1 52).1 8), .int ((t.1 52).1 9), .int ((t.1 52).1 10), .ref (ad 65), .ref (ad 66), .ref (ad 67), .ref (ad 68), .long ((t.1 52).2.1 0), .long ((t.1 52).2.1 1)]))]) (is := [0]) (q0 := 0) rfl rfl ln_Mm_103 w_im_Mm_fails w_se_Mm_fails ok_Mm_breakUp_Mm_fails d_Mm_breakUp_12 (C_Mm_fails1 g (ad 52) (ad 53) (ad 54) (ad 55) (ad 56) (ad 57) (ad 58) (ad 59) (ad 60) (ad 61) (ad 62) (ad 63) (ad 64) (ad 65) (ad 66) (ad 67) (ad 68) 0 (nI ((t.1 52).2.2 0)) ((t.1 52).1 0) ((t.1 52).1 1) ((t.1 52).1 2) ((t.1 52).1 3) ((t.1 52).1 4) ((t.1 52).1 5) ((t.1 52).1 6) ((t.1 52).1 7) ((t.1 52).1 8) ((t.1 52).1 9) ((t.1 52).1 10) ((t.1 52).2.1 0) ((t.1 52).2.1 1)) rfl rfl (Nat.le_of_ble_eq_true rfl) rfl (by decide) (by omega) (by omega) (fun E cs1 hx => ?_) (fun v cs1 hx => ?_)
    · exact absurd hx.1 (by simp)
    · obtain ⟨e1, rfl⟩ := hx
      cases e1
      refine ⟨rfl, ?_⟩
      refine y_st (st2 := [.int 1]) rfl ?_
      refine y_cs (cs2 := [((ad 52), .inr (12, [.int 1, .ref (ad 53), .int (nI ((t.1 52).2.2 0)), .ref (ad 54), .ref (ad 55), .ref (ad 56), .ref (ad 57), .ref (ad 58), .ref (ad 59), .ref (ad 60), .ref (ad 61), .int ((t.1 52).1 0), .int ((t.1 52).1 1), .int ((t.1 52).1 2), .int ((t.1 52).1 3), .int ((t.1 52).1 4), .int ((t.1 52).1 5), .ref (ad 62), .ref (ad 63), .ref (ad 64), .int ((t.1 52).1 6), .int ((t.1 52).1 7), .int ((t.1 52).1 8), .int ((t.1 52).1 9), .int ((t.1 52).1 10), .ref (ad 65), .ref (ad 66), .ref (ad 67), .ref (ad 68), .long ((t.1 52).2.1 0), .long ((t.1 52).2.1 1)]))]) rfl ?_
      refine y_if_ne (tgt := 47) d_Mm_breakUp_15 (by decide) (fun c_15 => ?_) (fun c_15 => ?_)
      · refine y_iconst d_Mm_breakUp_47 (v := 0) (by decide) ?_
        refine y_iret d_Mm_breakUp_48 rfl rfl ?_
        exact fun w1 h1 => ⟨⟨_, rfl⟩, (hI.gen (t2 := t) (is := [52]) (L2 := []) h1 rfl ⟨kd_52.mpr ⟨_, rfl⟩, trivial⟩ (by decide) (by decide) (fun _ h => nomatch h) (fun _ h => nomatch h) (fun _ _ _ => rfl) (fun h => h) rfl)⟩
      · exact absurd c_15 (by decide)
theorem d_Mm_alloy_22 : decode prog_14_method_80_code 22 = .ok (.aload_n 0, 1) := zo_42 (zd_b zq_prog_14_method_80_code_0 22 rfl rfl rfl)
theorem d_Mm_alloy_23 : decode prog_14_method_80_code 23 = .ok (.getfield 78, 3) := zo_180 (d := 0) (e := 78) (zd_b zq_prog_14_method_80_code_0 23 rfl rfl rfl) (zd_b zq_prog_14_method_80_code_0 24 rfl rfl rfl) (zd_b zq_prog_14_method_80_code_0 25 rfl rfl rfl)
theorem d_Mm_alloy_26 : decode prog_14_method_80_code 26 = .ok (.iload_n 1, 1) := zo_27 (zd_b zq_prog_14_method_80_code_0 26 rfl rfl rfl)
theorem d_Mm_alloy_27 : decode prog_14_method_80_code 27 = .ok (.invokevirtual 211, 3) := zo_182 (d := 0) (e := 211) (zd_b zq_prog_14_method_80_code_0 27 rfl rfl rfl) (zd_b zq_prog_14_method_80_code_0 28 rfl rfl rfl) (zd_b zq_prog_14_method_80_code_0 29 rfl rfl rfl)
theorem ok_Mm_alloy_AL_get : z_ok M_Mm_alloy M_AL_get 1 := ⟨z_mj2 (i := 180) rfl (by decide +kernel), rfl, ⟨by decide +kernel, by decide +kernel, by decide +kernel⟩, ⟨by decide, by decide⟩, z_mj1 (i := 13) rfl (by decide +kernel), rfl⟩
theorem d_Mm_alloy_30 : decode prog_14_method_80_code 30 = .ok (.checkcast 215, 3) := zo_192 (d := 0) (e := 215) (zd_b zq_prog_14_method_80_code_0 30 rfl rfl rfl) (zd_b zq_prog_14_method_80_code_0 31 rfl rfl rfl) (zd_b zq_prog_14_method_80_code_1 0 rfl rfl rfl)
theorem d_Mm_alloy_33 : decode prog_14_method_80_code 33 = .ok (.iconst 4, 1) := zo_7 (zd_b zq_prog_14_method_80_code_1 1 rfl rfl rfl)
theorem d_Mm_alloy_34 : decode prog_14_method_80_code 34 = .ok (.iaload, 1) := zo_46 (zd_b zq_prog_14_method_80_code_1 2 rfl rfl rfl)
theorem d_Mm_alloy_35 : decode prog_14_method_80_code 35 = .ok (.iconst 1, 1) := zo_4 (zd_b zq_prog_14_method_80_code_1 3 rfl rfl rfl)
theorem d_Mm_alloy_36 : decode prog_14_method_80_code 36 = .ok (.if_icmp .ne 8, 3) := zo_160 (d := 0) (e := 8) (zd_b zq_prog_14_method_80_code_1 4 rfl rfl rfl) (zd_b zq_prog_14_method_80_code_1 5 rfl rfl rfl) (zd_b zq_prog_14_method_80_code_1 6 rfl rfl rfl) (by decide +kernel)
theorem d_Mm_alloy_44 : decode prog_14_method_80_code 44 = .ok (.bipush 103, 2) := zo_16 (d := 103) (zd_b zq_prog_14_method_80_code_1 12 rfl rfl rfl) (zd_b zq_prog_14_method_80_code_1 13 rfl rfl rfl) (by decide +kernel)
theorem d_Mm_alloy_39 : decode prog_14_method_80_code 39 = .ok (.bipush 100, 2) := zo_16 (d := 100) (zd_b zq_prog_14_method_80_code_1 7 rfl rfl rfl) (zd_b zq_prog_14_method_80_code_1 8 rfl rfl rfl) (by decide +kernel)
theorem d_Mm_alloy_41 : decode prog_14_method_80_code 41 = .ok (.goto 5, 3) := zo_167 (d := 0) (e := 5) (zd_b zq_prog_14_method_80_code_1 9 rfl rfl rfl) (zd_b zq_prog_14_method_80_code_1 10 rfl rfl rfl) (zd_b zq_prog_14_method_80_code_1 11 rfl rfl rfl) (by decide +kernel)
set_option maxHeartbeats 4000000 in
set_option maxRecDepth 100000 in
theorem Q_Mm_alloyN {g : zG} {ad : Nat → Nat} {t : zTT} {u : zNN} {w : zW} (hI : IV g ad t u w) (k : Nat) (hk : k < u.1 5) : zMB g M_Mm_alloy [.ref (ad 52), .int (nI k)] w (fun o w1 => (∃ v : Int32, o = .inl (some (.int v))) ∧ IV g ad t u w1) 0 0 := by
  obtain ⟨e_m, wf_m, k_m⟩ := hI.1.2 52 (by decide)
  obtain ⟨v_m_th, rfl⟩ := kd_52.mp k_m
  refine y_of (by decide) rfl (Nat.le_of_ble_eq_true rfl) (y_base (cs := [((ad 52), .inr (12, [.int v_m_th, .ref (ad 53), .int (nI ((t.1 52).2.2 0)), .ref (ad 54), .ref (ad 55), .ref (ad 56), .ref (ad 57), .ref (ad 58), .ref (ad 59), .ref (ad 60), .ref (ad 61), .int ((t.1 52).1 0), .int ((t.1 52).1 1), .int ((t.1 52).1 2), .int ((t.1 52).1 3), .int ((t.1 52).1 4), .int ((t.1 52).1 5), .ref (ad 62), .ref (ad 63), .ref (ad 64), .int ((t.1 52).1 6), .int ((t.1 52).1 7), .int ((t.1 52).1 8), .int ((t.1 52).1 9), .int ((t.1 52).1 10), .ref (ad 65), .ref (ad 66), .ref (ad 67), .ref (ad 68), .long ((t.1 52).2.1 0), .long ((t.1 52).2.1 1)]))]) (hI.1.I [52] _ rfl (by decide) (by decide) (List.forall_mem_cons.mpr ⟨wf_m, (fun _ h => nomatch h)⟩)) ?_)
  refine y_lvE (lv2 := [(0, .ref (ad 52)), (1, .int (nI k))]) rfl ?_
  refine y_aload_n d_Mm_alloy_0 rfl 0 rfl ?_
  refine y_iconst d_Mm_alloy_1 (v := 0) (by decide) ?_
  refine y_put fp_Mm_84 d_Mm_alloy_2 (fun h => nomatch h) rfl rfl (q0 := 0) rfl (Nat.le_of_ble_eq_true rfl) (cs' := [((ad 52), .inr (12, [.int 0, .ref (ad 53), .int (nI ((t.1 52).2.2 0)), .ref (ad 54), .ref (ad 55), .ref (ad 56), .ref (ad 57), .ref (ad 58), .ref (ad 59), .ref (ad 60), .ref (ad 61), .int ((t.1 52).1 0), .int ((t.1 52).1 1), .int ((t.1 52).1 2), .int ((t.1 52).1 3), .int ((t.1 52).1 4), .int ((t.1 52).1 5), .ref (ad 62), .ref (ad 63), .ref (ad 64), .int ((t.1 52).1 6), .int ((t.1 52).1 7), .int ((t.1 52).1 8), .int ((t.1 52).1 9), .int ((t.1 52).1 10), .ref (ad 65), .ref (ad 66), .ref (ad 67), .ref (ad 68), .long ((t.1 52).2.1 0), .long ((t.1 52).2.1 1)]))]) rfl ?_
  refine y_aload_n d_Mm_alloy_5 rfl 0 rfl ?_
  refine y_aload_n d_Mm_alloy_6 rfl 0 rfl ?_
  refine y_iload_n d_Mm_alloy_7 rfl 1 rfl ?_
  refine yw_callV (As := [.int (nI k)]) (rest := [.ref (ad 52)]) (q0 := 0) rfl rfl ln_Mm_301 w_im_Mm_noCasting w_se_Mm_noCasting ok_Mm_alloy_Mm_noCasting d_Mm_alloy_8 (fun wA hA => Q_noCasting0 (hI.gen (t2 := t) (is := [52]) (L2 := []) hA rfl ⟨kd_52.mpr ⟨_, rfl⟩, trivial⟩ (by decide) (by decide) (fun _ h => nomatch h) (fun _ h => nomatch h) (fun _ _ _ => rfl) (fun h => h) rfl) (nI k) ⟨k, hk, rfl⟩) rfl rfl (Nat.le_of_ble_eq_true rfl) (by omega) (by omega) (fun wA8 hA8 E wB8 hx => ?_) (fun wA8 hA8 v wB8 hx => ?_)
  · exact absurd hx.1 (by simp)
  · obtain ⟨e1, e2⟩ := hx
    cases e1
    refine yw_st (st2 := [.int 0, .ref (ad 52)]) rfl ?_
    subst e2
    refine y_go hA8 ?_
    refine y_iconst d_Mm_alloy_11 (v := 1) (by decide) ?_
    refine y_callV (As := [.int 0, .int 1]) (rest := []) (csC := [((ad 52), .inr (12, [.int 0, .ref (ad 53), .int (nI ((t.1 52).2.2 0)), .ref (ad 54), .ref (ad 55), .ref (ad 56), .ref (ad 57), .ref (ad 58), .ref (ad 59), .ref (ad 60), .ref (ad 61), .int ((t.1 52).1 0), .int ((t.1 52).1 1), .int ((t.1 52).1 2), .int ((t.1 52).1 3), .int ((t.1 52).1 4), .int ((t.1 52).1 5), .ref (ad 62), .ref (ad 63), .ref (ad 64), .int ((t.1 52).1 6), .int ((t.1 52).1 7), .int ((t.1 52).1 8), .int ((t.1 52).1 9), .int ((t.1 52).1 10), .ref (ad 65), .ref (ad 66), .ref (ad 67), .ref (ad 68), .long ((t.1 52).2.1 0), .long ((t.1 52).2.1 1)]))]) (is := [0]) (q0 := 0) rfl rfl ln_Mm_103 w_im_Mm_fails w_se_Mm_fails ok_Mm_alloy_Mm_fails d_Mm_alloy_12 (C_Mm_fails0 g (ad 52) (ad 53) (ad 54) (ad 55) (ad 56) (ad 57) (ad 58) (ad 59) (ad 60) (ad 61) (ad 62) (ad 63) (ad 64) (ad 65) (ad 66) (ad 67) (ad 68) 0 (nI ((t.1 52).2.2 0)) ((t.1 52).1 0) ((t.1 52).1 1) ((t.1 52).1 2) ((t.1 52).1 3) ((t.1 52).1 4) ((t.1 52).1 5) ((t.1 52).1 6) ((t.1 52).1 7) ((t.1 52).1 8) ((t.1 52).1 9) ((t.1 52).1 10) ((t.1 52).2.1 0) ((t.1 52).2.1 1) 1) rfl rfl (Nat.le_of_ble_eq_true rfl) rfl (by decide) (by omega) (by omega) (fun E cs1 hx => ?_) (fun v cs1 hx => ?_)
    · exact absurd hx.1 (by simp)
    · obtain ⟨e1, rfl⟩ := hx
      cases e1
      refine ⟨rfl, ?_⟩
      refine y_st (st2 := [.int 0]) rfl ?_
      refine y_cs (cs2 := [((ad 52), .inr (12, [.int 0, .ref (ad 53), .int (nI ((t.1 52).2.2 0)), .ref (ad 54), .ref (ad 55), .ref (ad 56), .ref (ad 57), .ref (ad 58), .ref (ad 59), .ref (ad 60), .ref (ad 61), .int ((t.1 52).1 0), .int ((t.1 52).1 1), .int ((t.1 52).1 2), .int ((t.1 52).1 3), .int ((t.1 52).1 4), .int ((t.1 52).1 5), .ref (ad 62), .ref (ad 63), .ref (ad 64), .int ((t.1 52).1 6), .int ((t.1 52).1 7), .int ((t.1 52).1 8), .int ((t.1 52).1 9), .int ((t.1 52).1 10), .ref (ad 65), .ref (ad 66), .ref (ad 67), .ref (ad 68), .long ((t.1 52).2.1 0), .long ((t.1 52).2.1 1)]))]) rfl ?_
      refine y_if_eq (tgt := 22) d_Mm_alloy_15 (by decide) (fun c_15 => ?_) (fun c_15 => ?_)
      · refine y_aload_n d_Mm_alloy_22 rfl 0 rfl ?_
        refine y_get fs_Mm_78 d_Mm_alloy_23 (q0 := 0) rfl rfl ?_
        refine y_iload_n d_Mm_alloy_26 rfl 1 rfl ?_
        refine yw_callVL (As := [.int (nI k)]) (rest := []) (ci := 13) rfl (fun wA hA => ((hI.gen (t2 := t) (is := [52]) (L2 := []) hA rfl ⟨kd_52.mpr ⟨_, rfl⟩, trivial⟩ (by decide) (by decide) (fun _ h => nomatch h) (fun _ h => nomatch h) (fun _ _ _ => rfl) (fun h => h) rfl).2.1.1 5 (by decide)).ob) ln_Mm_211 w_im_AL_get w_se_AL_get ok_Mm_alloy_AL_get d_Mm_alloy_27 (fun wA hA => Q_get ((hI.gen (t2 := t) (is := [52]) (L2 := []) hA rfl ⟨kd_52.mpr ⟨_, rfl⟩, trivial⟩ (by decide) (by decide) (fun _ h => nomatch h) (fun _ h => nomatch h) (fun _ _ _ => rfl) (fun h => h) rfl).2.1.1 5 (by decide)) hk) rfl rfl (Nat.le_of_ble_eq_true rfl) (by omega) (by omega) (fun wA27 hA27 E wB27 hx => ?_) (fun wA27 hA27 v wB27 hx => ?_)
        · exact absurd hx.1 (by simp)
        · obtain ⟨e1, e2⟩ := hx
          cases e1
          refine yw_st (st2 := [.ref (u.2.2 5 k)]) rfl ?_
          subst e2
          refine y_go hA27 ?_
          refine y_end (fun wC1 hC1 => ?_)
          have hI9 := (hI.gen (t2 := t) (is := [52]) (L2 := []) hC1 rfl ⟨kd_52.mpr ⟨_, rfl⟩, trivial⟩ (by decide) (by decide) (fun _ h => nomatch h) (fun _ h => nomatch h) (fun _ _ _ => rfl) (fun h => h) rfl)
          have hI := hI9
          obtain ⟨nf_c, hw_c, h0_c⟩ := hI.2.1.2.1 5 (by decide) k hk
          refine y_base (cs := [((ad 52), .inr (12, [.int 0, .ref (ad 53), .int (nI ((t.1 52).2.2 0)), .ref (ad 54), .ref (ad 55), .ref (ad 56), .ref (ad 57), .ref (ad 58), .ref (ad 59), .ref (ad 60), .ref (ad 61), .int ((t.1 52).1 0), .int ((t.1 52).1 1), .int ((t.1 52).1 2), .int ((t.1 52).1 3), .int ((t.1 52).1 4), .int ((t.1 52).1 5), .ref (ad 62), .ref (ad 63), .ref (ad 64), .int ((t.1 52).1 6), .int ((t.1 52).1 7), .int ((t.1 52).1 8), .int ((t.1 52).1 9), .int ((t.1 52).1 10), .ref (ad 65), .ref (ad 66), .ref (ad 67), .ref (ad 68), .long ((t.1 52).2.1 0), .long ((t.1 52).2.1 1)])), ((u.2.2 5 k), .inl (0, 6, .inl ((t.2 5 k).2.1)))]) (z_I.kd (List.forall_mem_cons.mpr ⟨hC1.at (q0 := 0) rfl, (List.forall_mem_cons.mpr ⟨hw_c, (fun _ h => nomatch h)⟩)⟩) (by simp [z_kd])) ?_
          refine y_castA (t := 0) (by decide) lk_Mm_215 d_Mm_alloy_30 (q0 := 1) rfl ?_
          refine y_iconst d_Mm_alloy_33 (v := 4) (by decide) ?_
          refine y_iald d_Mm_alloy_34 (q0 := 1) rfl (fun q => q.elim (by decide) (by decide)) (v := ((t.2 5 k).2.1) 4) rfl ?_
          refine y_iconst d_Mm_alloy_35 (v := 1) (by decide) ?_
          refine y_icmp_ne (tgt := 44) d_Mm_alloy_36 (by decide) (fun c_36 => ?_) (fun c_36 => ?_)
          · refine y_bipush d_Mm_alloy_44 (v := 103) (by decide) ?_
            refine y_iret d_Mm_alloy_46 rfl rfl ?_
            exact fun w1 h1 => ⟨⟨_, rfl⟩, (hI.gen (t2 := t) (is := [52]) (L2 := [(u.2.2 5 k)]) h1 rfl ⟨kd_52.mpr ⟨_, rfl⟩, trivial⟩ (by decide) (by decide) (List.forall_mem_cons.mpr ⟨nf_c, (fun _ h => nomatch h)⟩) (List.forall_mem_cons.mpr ⟨⟨_, hw_c, h1.at (q0 := 1) rfl⟩, (fun _ h => nomatch h)⟩) (fun _ _ _ => rfl) (fun h => h) rfl)⟩
          · refine y_bipush d_Mm_alloy_39 (v := 100) (by decide) ?_
            refine y_goto (tgt := 46) d_Mm_alloy_41 (by decide) ?_
            refine y_iret d_Mm_alloy_46 rfl rfl ?_
            exact fun w1 h1 => ⟨⟨_, rfl⟩, (hI.gen (t2 := t) (is := [52]) (L2 := [(u.2.2 5 k)]) h1 rfl ⟨kd_52.mpr ⟨_, rfl⟩, trivial⟩ (by decide) (by decide) (List.forall_mem_cons.mpr ⟨nf_c, (fun _ h => nomatch h)⟩) (List.forall_mem_cons.mpr ⟨⟨_, hw_c, h1.at (q0 := 1) rfl⟩, (fun _ h => nomatch h)⟩) (fun _ _ _ => rfl) (fun h => h) rfl)⟩
      · exact absurd c_15 (by decide)
theorem d_Mm_faults_22 : decode prog_14_method_81_code 22 = .ok (.aload_n 0, 1) := zo_42 (zd_b zq_prog_14_method_81_code_0 22 rfl rfl rfl)
theorem d_Mm_faults_23 : decode prog_14_method_81_code 23 = .ok (.getfield 78, 3) := zo_180 (d := 0) (e := 78) (zd_b zq_prog_14_method_81_code_0 23 rfl rfl rfl) (zd_b zq_prog_14_method_81_code_0 24 rfl rfl rfl) (zd_b zq_prog_14_method_81_code_0 25 rfl rfl rfl)
theorem d_Mm_faults_26 : decode prog_14_method_81_code 26 = .ok (.iload_n 1, 1) := zo_27 (zd_b zq_prog_14_method_81_code_0 26 rfl rfl rfl)
theorem d_Mm_faults_27 : decode prog_14_method_81_code 27 = .ok (.invokevirtual 211, 3) := zo_182 (d := 0) (e := 211) (zd_b zq_prog_14_method_81_code_0 27 rfl rfl rfl) (zd_b zq_prog_14_method_81_code_0 28 rfl rfl rfl) (zd_b zq_prog_14_method_81_code_0 29 rfl rfl rfl)
theorem ok_Mm_faults_AL_get : z_ok M_Mm_faults M_AL_get 1 := ⟨z_mj2 (i := 180) rfl (by decide +kernel), rfl, ⟨by decide +kernel, by decide +kernel, by decide +kernel⟩, ⟨by decide, by decide⟩, z_mj1 (i := 13) rfl (by decide +kernel), rfl⟩
theorem d_Mm_faults_30 : decode prog_14_method_81_code 30 = .ok (.checkcast 215, 3) := zo_192 (d := 0) (e := 215) (zd_b zq_prog_14_method_81_code_0 30 rfl rfl rfl) (zd_b zq_prog_14_method_81_code_0 31 rfl rfl rfl) (zd_b zq_prog_14_method_81_code_1 0 rfl rfl rfl)
theorem d_Mm_faults_33 : decode prog_14_method_81_code 33 = .ok (.iconst 2, 1) := zo_5 (zd_b zq_prog_14_method_81_code_1 1 rfl rfl rfl)
theorem d_Mm_faults_34 : decode prog_14_method_81_code 34 = .ok (.iaload, 1) := zo_46 (zd_b zq_prog_14_method_81_code_1 2 rfl rfl rfl)
set_option maxHeartbeats 4000000 in
set_option maxRecDepth 100000 in
theorem Q_Mm_faultsN {g : zG} {ad : Nat → Nat} {t : zTT} {u : zNN} {w : zW} (hI : IV g ad t u w) (k : Nat) (hk : k < u.1 5) : zMB g M_Mm_faults [.ref (ad 52), .int (nI k)] w (fun o w1 => (∃ v : Int32, o = .inl (some (.int v))) ∧ IV g ad t u w1) 0 0 := by
  obtain ⟨e_m, wf_m, k_m⟩ := hI.1.2 52 (by decide)
  obtain ⟨v_m_th, rfl⟩ := kd_52.mp k_m
  refine y_of (by decide) rfl (Nat.le_of_ble_eq_true rfl) (y_base (cs := [((ad 52), .inr (12, [.int v_m_th, .ref (ad 53), .int (nI ((t.1 52).2.2 0)), .ref (ad 54), .ref (ad 55), .ref (ad 56), .ref (ad 57), .ref (ad 58), .ref (ad 59), .ref (ad 60), .ref (ad 61), .int ((t.1 52).1 0), .int ((t.1 52).1 1), .int ((t.1 52).1 2), .int ((t.1 52).1 3), .int ((t.1 52).1 4), .int ((t.1 52).1 5), .ref (ad 62), .ref (ad 63), .ref (ad 64), .int ((t.1 52).1 6), .int ((t.1 52).1 7), .int ((t.1 52).1 8), .int ((t.1 52).1 9), .int ((t.1 52).1 10), .ref (ad 65), .ref (ad 66), .ref (ad 67), .ref (ad 68), .long ((t.1 52).2.1 0), .long ((t.1 52).2.1 1)]))]) (hI.1.I [52] _ rfl (by decide) (by decide) (List.forall_mem_cons.mpr ⟨wf_m, (fun _ h => nomatch h)⟩)) ?_)
  refine y_lvE (lv2 := [(0, .ref (ad 52)), (1, .int (nI k))]) rfl ?_
  refine y_aload_n d_Mm_faults_0 rfl 0 rfl ?_
  refine y_iconst d_Mm_faults_1 (v := 0) (by decide) ?_
  refine y_put fp_Mm_84 d_Mm_faults_2 (fun h => nomatch h) rfl rfl (q0 := 0) rfl (Nat.le_of_ble_eq_true rfl) (cs' := [((ad 52), .inr (12, [.int 0, .ref (ad 53), .int (nI ((t.1 52).2.2 0)), .ref (ad 54), .ref (ad 55), .ref (ad 56), .ref (ad 57), .ref (ad 58), .ref (ad 59), .ref (ad 60), .ref (ad 61), .int ((t.1 52).1 0), .int ((t.1 52).1 1), .int ((t.1 52).1 2), .int ((t.1 52).1 3), .int ((t.1 52).1 4), .int ((t.1 52).1 5), .ref (ad 62), .ref (ad 63), .ref (ad 64), .int ((t.1 52).1 6), .int ((t.1 52).1 7), .int ((t.1 52).1 8), .int ((t.1 52).1 9), .int ((t.1 52).1 10), .ref (ad 65), .ref (ad 66), .ref (ad 67), .ref (ad 68), .long ((t.1 52).2.1 0), .long ((t.1 52).2.1 1)]))]) rfl ?_
  refine y_aload_n d_Mm_faults_5 rfl 0 rfl ?_
  refine y_aload_n d_Mm_faults_6 rfl 0 rfl ?_
  refine y_iload_n d_Mm_faults_7 rfl 1 rfl ?_
  refine yw_callV (As := [.int (nI k)]) (rest := [.ref (ad 52)]) (q0 := 0) rfl rfl ln_Mm_301 w_im_Mm_noCasting w_se_Mm_noCasting ok_Mm_faults_Mm_noCasting d_Mm_faults_8 (fun wA hA => Q_noCasting0 (hI.gen (t2 := t) (is := [52]) (L2 := []) hA rfl ⟨kd_52.mpr ⟨_, rfl⟩, trivial⟩ (by decide) (by decide) (fun _ h => nomatch h) (fun _ h => nomatch h) (fun _ _ _ => rfl) (fun h => h) rfl) (nI k) ⟨k, hk, rfl⟩) rfl rfl (Nat.le_of_ble_eq_true rfl) (by omega) (by omega) (fun wA8 hA8 E wB8 hx => ?_) (fun wA8 hA8 v wB8 hx => ?_)
  · exact absurd hx.1 (by simp)
  · obtain ⟨e1, e2⟩ := hx
    cases e1
    refine yw_st (st2 := [.int 0, .ref (ad 52)]) rfl ?_
    subst e2
    refine y_go hA8 ?_
    refine y_iconst d_Mm_faults_11 (v := 1) (by decide) ?_
    refine y_callV (As := [.int 0, .int 1]) (rest := []) (csC := [((ad 52), .inr (12, [.int 0, .ref (ad 53), .int (nI ((t.1 52).2.2 0)), .ref (ad 54), .ref (ad 55), .ref (ad 56), .ref (ad 57), .ref (ad 58), .ref (ad 59), .ref (ad 60), .ref (ad 61), .int ((t.1 52).1 0), .int ((t.1 52).1 1), .int ((t.1 52).1 2), .int ((t.1 52).1 3), .int ((t.1 52).1 4), .int ((t.1 52).1 5), .ref (ad 62), .ref (ad 63), .ref (ad 64), .int ((t.1 52).1 6), .int ((t.1 52).1 7), .int ((t.1 52).1 8), .int ((t.1 52).1 9), .int ((t.1 52).1 10), .ref (ad 65), .ref (ad 66), .ref (ad 67), .ref (ad 68), .long ((t.1 52).2.1 0), .long ((t.1 52).2.1 1)]))]) (is := [0]) (q0 := 0) rfl rfl ln_Mm_103 w_im_Mm_fails w_se_Mm_fails ok_Mm_faults_Mm_fails d_Mm_faults_12 (C_Mm_fails0 g (ad 52) (ad 53) (ad 54) (ad 55) (ad 56) (ad 57) (ad 58) (ad 59) (ad 60) (ad 61) (ad 62) (ad 63) (ad 64) (ad 65) (ad 66) (ad 67) (ad 68) 0 (nI ((t.1 52).2.2 0)) ((t.1 52).1 0) ((t.1 52).1 1) ((t.1 52).1 2) ((t.1 52).1 3) ((t.1 52).1 4) ((t.1 52).1 5) ((t.1 52).1 6) ((t.1 52).1 7) ((t.1 52).1 8) ((t.1 52).1 9) ((t.1 52).1 10) ((t.1 52).2.1 0) ((t.1 52).2.1 1) 1) rfl rfl (Nat.le_of_ble_eq_true rfl) rfl (by decide) (by omega) (by omega) (fun E cs1 hx => ?_) (fun v cs1 hx => ?_)
    · exact absurd hx.1 (by simp)
    · obtain ⟨e1, rfl⟩ := hx
      cases e1
      refine ⟨rfl, ?_⟩
      refine y_st (st2 := [.int 0]) rfl ?_
      refine y_cs (cs2 := [((ad 52), .inr (12, [.int 0, .ref (ad 53), .int (nI ((t.1 52).2.2 0)), .ref (ad 54), .ref (ad 55), .ref (ad 56), .ref (ad 57), .ref (ad 58), .ref (ad 59), .ref (ad 60), .ref (ad 61), .int ((t.1 52).1 0), .int ((t.1 52).1 1), .int ((t.1 52).1 2), .int ((t.1 52).1 3), .int ((t.1 52).1 4), .int ((t.1 52).1 5), .ref (ad 62), .ref (ad 63), .ref (ad 64), .int ((t.1 52).1 6), .int ((t.1 52).1 7), .int ((t.1 52).1 8), .int ((t.1 52).1 9), .int ((t.1 52).1 10), .ref (ad 65), .ref (ad 66), .ref (ad 67), .ref (ad 68), .long ((t.1 52).2.1 0), .long ((t.1 52).2.1 1)]))]) rfl ?_
      refine y_if_eq (tgt := 22) d_Mm_faults_15 (by decide) (fun c_15 => ?_) (fun c_15 => ?_)
      · refine y_aload_n d_Mm_faults_22 rfl 0 rfl ?_
        refine y_get fs_Mm_78 d_Mm_faults_23 (q0 := 0) rfl rfl ?_
        refine y_iload_n d_Mm_faults_26 rfl 1 rfl ?_
        refine yw_callVL (As := [.int (nI k)]) (rest := []) (ci := 13) rfl (fun wA hA => ((hI.gen (t2 := t) (is := [52]) (L2 := []) hA rfl ⟨kd_52.mpr ⟨_, rfl⟩, trivial⟩ (by decide) (by decide) (fun _ h => nomatch h) (fun _ h => nomatch h) (fun _ _ _ => rfl) (fun h => h) rfl).2.1.1 5 (by decide)).ob) ln_Mm_211 w_im_AL_get w_se_AL_get ok_Mm_faults_AL_get d_Mm_faults_27 (fun wA hA => Q_get ((hI.gen (t2 := t) (is := [52]) (L2 := []) hA rfl ⟨kd_52.mpr ⟨_, rfl⟩, trivial⟩ (by decide) (by decide) (fun _ h => nomatch h) (fun _ h => nomatch h) (fun _ _ _ => rfl) (fun h => h) rfl).2.1.1 5 (by decide)) hk) rfl rfl (Nat.le_of_ble_eq_true rfl) (by omega) (by omega) (fun wA27 hA27 E wB27 hx => ?_) (fun wA27 hA27 v wB27 hx => ?_)
        · exact absurd hx.1 (by simp)
        · obtain ⟨e1, e2⟩ := hx
          cases e1
          refine yw_st (st2 := [.ref (u.2.2 5 k)]) rfl ?_
          subst e2
          refine y_go hA27 ?_
          refine y_end (fun wC1 hC1 => ?_)
          have hI9 := (hI.gen (t2 := t) (is := [52]) (L2 := []) hC1 rfl ⟨kd_52.mpr ⟨_, rfl⟩, trivial⟩ (by decide) (by decide) (fun _ h => nomatch h) (fun _ h => nomatch h) (fun _ _ _ => rfl) (fun h => h) rfl)
          have hI := hI9
          obtain ⟨nf_c, hw_c, h0_c⟩ := hI.2.1.2.1 5 (by decide) k hk
          refine y_base (cs := [((ad 52), .inr (12, [.int 0, .ref (ad 53), .int (nI ((t.1 52).2.2 0)), .ref (ad 54), .ref (ad 55), .ref (ad 56), .ref (ad 57), .ref (ad 58), .ref (ad 59), .ref (ad 60), .ref (ad 61), .int ((t.1 52).1 0), .int ((t.1 52).1 1), .int ((t.1 52).1 2), .int ((t.1 52).1 3), .int ((t.1 52).1 4), .int ((t.1 52).1 5), .ref (ad 62), .ref (ad 63), .ref (ad 64), .int ((t.1 52).1 6), .int ((t.1 52).1 7), .int ((t.1 52).1 8), .int ((t.1 52).1 9), .int ((t.1 52).1 10), .ref (ad 65), .ref (ad 66), .ref (ad 67), .ref (ad 68), .long ((t.1 52).2.1 0), .long ((t.1 52).2.1 1)])), ((u.2.2 5 k), .inl (0, 6, .inl ((t.2 5 k).2.1)))]) (z_I.kd (List.forall_mem_cons.mpr ⟨hC1.at (q0 := 0) rfl, (List.forall_mem_cons.mpr ⟨hw_c, (fun _ h => nomatch h)⟩)⟩) (by simp [z_kd])) ?_
          refine y_castA (t := 0) (by decide) lk_Mm_215 d_Mm_faults_30 (q0 := 1) rfl ?_
          refine y_iconst d_Mm_faults_33 (v := 2) (by decide) ?_
          refine y_iald d_Mm_faults_34 (q0 := 1) rfl (fun q => q.elim (by decide) (by decide)) (v := ((t.2 5 k).2.1) 2) rfl ?_
          refine y_iret d_Mm_faults_35 rfl rfl ?_
          exact fun w1 h1 => ⟨⟨_, rfl⟩, (hI.gen (t2 := t) (is := [52]) (L2 := [(u.2.2 5 k)]) h1 rfl ⟨kd_52.mpr ⟨_, rfl⟩, trivial⟩ (by decide) (by decide) (List.forall_mem_cons.mpr ⟨nf_c, (fun _ h => nomatch h)⟩) (List.forall_mem_cons.mpr ⟨⟨_, hw_c, h1.at (q0 := 1) rfl⟩, (fun _ h => nomatch h)⟩) (fun _ _ _ => rfl) (fun h => h) rfl)⟩
      · exact absurd c_15 (by decide)
theorem d_Mm_shrunkIn_22 : decode prog_14_method_82_code 22 = .ok (.aload_n 0, 1) := zo_42 (zd_b zq_prog_14_method_82_code_0 22 rfl rfl rfl)
theorem d_Mm_shrunkIn_23 : decode prog_14_method_82_code 23 = .ok (.getfield 78, 3) := zo_180 (d := 0) (e := 78) (zd_b zq_prog_14_method_82_code_0 23 rfl rfl rfl) (zd_b zq_prog_14_method_82_code_0 24 rfl rfl rfl) (zd_b zq_prog_14_method_82_code_0 25 rfl rfl rfl)
theorem d_Mm_shrunkIn_26 : decode prog_14_method_82_code 26 = .ok (.iload_n 1, 1) := zo_27 (zd_b zq_prog_14_method_82_code_0 26 rfl rfl rfl)
theorem d_Mm_shrunkIn_27 : decode prog_14_method_82_code 27 = .ok (.invokevirtual 211, 3) := zo_182 (d := 0) (e := 211) (zd_b zq_prog_14_method_82_code_0 27 rfl rfl rfl) (zd_b zq_prog_14_method_82_code_0 28 rfl rfl rfl) (zd_b zq_prog_14_method_82_code_0 29 rfl rfl rfl)
theorem ok_Mm_shrunkIn_AL_get : z_ok M_Mm_shrunkIn M_AL_get 1 := ⟨z_mj2 (i := 180) rfl (by decide +kernel), rfl, ⟨by decide +kernel, by decide +kernel, by decide +kernel⟩, ⟨by decide, by decide⟩, z_mj1 (i := 13) rfl (by decide +kernel), rfl⟩
theorem d_Mm_shrunkIn_30 : decode prog_14_method_82_code 30 = .ok (.checkcast 215, 3) := zo_192 (d := 0) (e := 215) (zd_b zq_prog_14_method_82_code_0 30 rfl rfl rfl) (zd_b zq_prog_14_method_82_code_0 31 rfl rfl rfl) (zd_b zq_prog_14_method_82_code_1 0 rfl rfl rfl)
theorem d_Mm_shrunkIn_33 : decode prog_14_method_82_code 33 = .ok (.iconst 3, 1) := zo_6 (zd_b zq_prog_14_method_82_code_1 1 rfl rfl rfl)
theorem d_Mm_shrunkIn_34 : decode prog_14_method_82_code 34 = .ok (.iaload, 1) := zo_46 (zd_b zq_prog_14_method_82_code_1 2 rfl rfl rfl)
set_option maxHeartbeats 4000000 in
set_option maxRecDepth 100000 in
theorem Q_Mm_shrunkInN {g : zG} {ad : Nat → Nat} {t : zTT} {u : zNN} {w : zW} (hI : IV g ad t u w) (k : Nat) (hk : k < u.1 5) : zMB g M_Mm_shrunkIn [.ref (ad 52), .int (nI k)] w (fun o w1 => (∃ v : Int32, o = .inl (some (.int v))) ∧ IV g ad t u w1) 0 0 := by
  obtain ⟨e_m, wf_m, k_m⟩ := hI.1.2 52 (by decide)
  obtain ⟨v_m_th, rfl⟩ := kd_52.mp k_m
  refine y_of (by decide) rfl (Nat.le_of_ble_eq_true rfl) (y_base (cs := [((ad 52), .inr (12, [.int v_m_th, .ref (ad 53), .int (nI ((t.1 52).2.2 0)), .ref (ad 54), .ref (ad 55), .ref (ad 56), .ref (ad 57), .ref (ad 58), .ref (ad 59), .ref (ad 60), .ref (ad 61), .int ((t.1 52).1 0), .int ((t.1 52).1 1), .int ((t.1 52).1 2), .int ((t.1 52).1 3), .int ((t.1 52).1 4), .int ((t.1 52).1 5), .ref (ad 62), .ref (ad 63), .ref (ad 64), .int ((t.1 52).1 6), .int ((t.1 52).1 7), .int ((t.1 52).1 8), .int ((t.1 52).1 9), .int ((t.1 52).1 10), .ref (ad 65), .ref (ad 66), .ref (ad 67), .ref (ad 68), .long ((t.1 52).2.1 0), .long ((t.1 52).2.1 1)]))]) (hI.1.I [52] _ rfl (by decide) (by decide) (List.forall_mem_cons.mpr ⟨wf_m, (fun _ h => nomatch h)⟩)) ?_)
  refine y_lvE (lv2 := [(0, .ref (ad 52)), (1, .int (nI k))]) rfl ?_
  refine y_aload_n d_Mm_shrunkIn_0 rfl 0 rfl ?_
  refine y_iconst d_Mm_shrunkIn_1 (v := 0) (by decide) ?_
  refine y_put fp_Mm_84 d_Mm_shrunkIn_2 (fun h => nomatch h) rfl rfl (q0 := 0) rfl (Nat.le_of_ble_eq_true rfl) (cs' := [((ad 52), .inr (12, [.int 0, .ref (ad 53), .int (nI ((t.1 52).2.2 0)), .ref (ad 54), .ref (ad 55), .ref (ad 56), .ref (ad 57), .ref (ad 58), .ref (ad 59), .ref (ad 60), .ref (ad 61), .int ((t.1 52).1 0), .int ((t.1 52).1 1), .int ((t.1 52).1 2), .int ((t.1 52).1 3), .int ((t.1 52).1 4), .int ((t.1 52).1 5), .ref (ad 62), .ref (ad 63), .ref (ad 64), .int ((t.1 52).1 6), .int ((t.1 52).1 7), .int ((t.1 52).1 8), .int ((t.1 52).1 9), .int ((t.1 52).1 10), .ref (ad 65), .ref (ad 66), .ref (ad 67), .ref (ad 68), .long ((t.1 52).2.1 0), .long ((t.1 52).2.1 1)]))]) rfl ?_
  refine y_aload_n d_Mm_shrunkIn_5 rfl 0 rfl ?_
  refine y_aload_n d_Mm_shrunkIn_6 rfl 0 rfl ?_
  refine y_iload_n d_Mm_shrunkIn_7 rfl 1 rfl ?_
  refine yw_callV (As := [.int (nI k)]) (rest := [.ref (ad 52)]) (q0 := 0) rfl rfl ln_Mm_301 w_im_Mm_noCasting w_se_Mm_noCasting ok_Mm_shrunkIn_Mm_noCasting d_Mm_shrunkIn_8 (fun wA hA => Q_noCasting0 (hI.gen (t2 := t) (is := [52]) (L2 := []) hA rfl ⟨kd_52.mpr ⟨_, rfl⟩, trivial⟩ (by decide) (by decide) (fun _ h => nomatch h) (fun _ h => nomatch h) (fun _ _ _ => rfl) (fun h => h) rfl) (nI k) ⟨k, hk, rfl⟩) rfl rfl (Nat.le_of_ble_eq_true rfl) (by omega) (by omega) (fun wA8 hA8 E wB8 hx => ?_) (fun wA8 hA8 v wB8 hx => ?_)
  · exact absurd hx.1 (by simp)
  · obtain ⟨e1, e2⟩ := hx
    cases e1
    refine yw_st (st2 := [.int 0, .ref (ad 52)]) rfl ?_
    subst e2
    refine y_go hA8 ?_
    refine y_iconst d_Mm_shrunkIn_11 (v := 1) (by decide) ?_
    refine y_callV (As := [.int 0, .int 1]) (rest := []) (csC := [((ad 52), .inr (12, [.int 0, .ref (ad 53), .int (nI ((t.1 52).2.2 0)), .ref (ad 54), .ref (ad 55), .ref (ad 56), .ref (ad 57), .ref (ad 58), .ref (ad 59), .ref (ad 60), .ref (ad 61), .int ((t.1 52).1 0), .int ((t.1 52).1 1), .int ((t.1 52).1 2), .int ((t.1 52).1 3), .int ((t.1 52).1 4), .int ((t.1 52).1 5), .ref (ad 62), .ref (ad 63), .ref (ad 64), .int ((t.1 52).1 6), .int ((t.1 52).1 7), .int ((t.1 52).1 8), .int ((t.1 52).1 9), .int ((t.1 52).1 10), .ref (ad 65), .ref (ad 66), .ref (ad 67), .ref (ad 68), .long ((t.1 52).2.1 0), .long ((t.1 52).2.1 1)]))]) (is := [0]) (q0 := 0) rfl rfl ln_Mm_103 w_im_Mm_fails w_se_Mm_fails ok_Mm_shrunkIn_Mm_fails d_Mm_shrunkIn_12 (C_Mm_fails0 g (ad 52) (ad 53) (ad 54) (ad 55) (ad 56) (ad 57) (ad 58) (ad 59) (ad 60) (ad 61) (ad 62) (ad 63) (ad 64) (ad 65) (ad 66) (ad 67) (ad 68) 0 (nI ((t.1 52).2.2 0)) ((t.1 52).1 0) ((t.1 52).1 1) ((t.1 52).1 2) ((t.1 52).1 3) ((t.1 52).1 4) ((t.1 52).1 5) ((t.1 52).1 6) ((t.1 52).1 7) ((t.1 52).1 8) ((t.1 52).1 9) ((t.1 52).1 10) ((t.1 52).2.1 0) ((t.1 52).2.1 1) 1) rfl rfl (Nat.le_of_ble_eq_true rfl) rfl (by decide) (by omega) (by omega) (fun E cs1 hx => ?_) (fun v cs1 hx => ?_)
    · exact absurd hx.1 (by simp)
    · obtain ⟨e1, rfl⟩ := hx
      cases e1
      refine ⟨rfl, ?_⟩
      refine y_st (st2 := [.int 0]) rfl ?_
      refine y_cs (cs2 := [((ad 52), .inr (12, [.int 0, .ref (ad 53), .int (nI ((t.1 52).2.2 0)), .ref (ad 54), .ref (ad 55), .ref (ad 56), .ref (ad 57), .ref (ad 58), .ref (ad 59), .ref (ad 60), .ref (ad 61), .int ((t.1 52).1 0), .int ((t.1 52).1 1), .int ((t.1 52).1 2), .int ((t.1 52).1 3), .int ((t.1 52).1 4), .int ((t.1 52).1 5), .ref (ad 62), .ref (ad 63), .ref (ad 64), .int ((t.1 52).1 6), .int ((t.1 52).1 7), .int ((t.1 52).1 8), .int ((t.1 52).1 9), .int ((t.1 52).1 10), .ref (ad 65), .ref (ad 66), .ref (ad 67), .ref (ad 68), .long ((t.1 52).2.1 0), .long ((t.1 52).2.1 1)]))]) rfl ?_
      refine y_if_eq (tgt := 22) d_Mm_shrunkIn_15 (by decide) (fun c_15 => ?_) (fun c_15 => ?_)
      · refine y_aload_n d_Mm_shrunkIn_22 rfl 0 rfl ?_
        refine y_get fs_Mm_78 d_Mm_shrunkIn_23 (q0 := 0) rfl rfl ?_
        refine y_iload_n d_Mm_shrunkIn_26 rfl 1 rfl ?_
        refine yw_callVL (As := [.int (nI k)]) (rest := []) (ci := 13) rfl (fun wA hA => ((hI.gen (t2 := t) (is := [52]) (L2 := []) hA rfl ⟨kd_52.mpr ⟨_, rfl⟩, trivial⟩ (by decide) (by decide) (fun _ h => nomatch h) (fun _ h => nomatch h) (fun _ _ _ => rfl) (fun h => h) rfl).2.1.1 5 (by decide)).ob) ln_Mm_211 w_im_AL_get w_se_AL_get ok_Mm_shrunkIn_AL_get d_Mm_shrunkIn_27 (fun wA hA => Q_get ((hI.gen (t2 := t) (is := [52]) (L2 := []) hA rfl ⟨kd_52.mpr ⟨_, rfl⟩, trivial⟩ (by decide) (by decide) (fun _ h => nomatch h) (fun _ h => nomatch h) (fun _ _ _ => rfl) (fun h => h) rfl).2.1.1 5 (by decide)) hk) rfl rfl (Nat.le_of_ble_eq_true rfl) (by omega) (by omega) (fun wA27 hA27 E wB27 hx => ?_) (fun wA27 hA27 v wB27 hx => ?_)
        · exact absurd hx.1 (by simp)
        · obtain ⟨e1, e2⟩ := hx
          cases e1
          refine yw_st (st2 := [.ref (u.2.2 5 k)]) rfl ?_
          subst e2
          refine y_go hA27 ?_
          refine y_end (fun wC1 hC1 => ?_)
          have hI9 := (hI.gen (t2 := t) (is := [52]) (L2 := []) hC1 rfl ⟨kd_52.mpr ⟨_, rfl⟩, trivial⟩ (by decide) (by decide) (fun _ h => nomatch h) (fun _ h => nomatch h) (fun _ _ _ => rfl) (fun h => h) rfl)
          have hI := hI9
          obtain ⟨nf_c, hw_c, h0_c⟩ := hI.2.1.2.1 5 (by decide) k hk
          refine y_base (cs := [((ad 52), .inr (12, [.int 0, .ref (ad 53), .int (nI ((t.1 52).2.2 0)), .ref (ad 54), .ref (ad 55), .ref (ad 56), .ref (ad 57), .ref (ad 58), .ref (ad 59), .ref (ad 60), .ref (ad 61), .int ((t.1 52).1 0), .int ((t.1 52).1 1), .int ((t.1 52).1 2), .int ((t.1 52).1 3), .int ((t.1 52).1 4), .int ((t.1 52).1 5), .ref (ad 62), .ref (ad 63), .ref (ad 64), .int ((t.1 52).1 6), .int ((t.1 52).1 7), .int ((t.1 52).1 8), .int ((t.1 52).1 9), .int ((t.1 52).1 10), .ref (ad 65), .ref (ad 66), .ref (ad 67), .ref (ad 68), .long ((t.1 52).2.1 0), .long ((t.1 52).2.1 1)])), ((u.2.2 5 k), .inl (0, 6, .inl ((t.2 5 k).2.1)))]) (z_I.kd (List.forall_mem_cons.mpr ⟨hC1.at (q0 := 0) rfl, (List.forall_mem_cons.mpr ⟨hw_c, (fun _ h => nomatch h)⟩)⟩) (by simp [z_kd])) ?_
          refine y_castA (t := 0) (by decide) lk_Mm_215 d_Mm_shrunkIn_30 (q0 := 1) rfl ?_
          refine y_iconst d_Mm_shrunkIn_33 (v := 3) (by decide) ?_
          refine y_iald d_Mm_shrunkIn_34 (q0 := 1) rfl (fun q => q.elim (by decide) (by decide)) (v := ((t.2 5 k).2.1) 3) rfl ?_
          refine y_iret d_Mm_shrunkIn_35 rfl rfl ?_
          exact fun w1 h1 => ⟨⟨_, rfl⟩, (hI.gen (t2 := t) (is := [52]) (L2 := [(u.2.2 5 k)]) h1 rfl ⟨kd_52.mpr ⟨_, rfl⟩, trivial⟩ (by decide) (by decide) (List.forall_mem_cons.mpr ⟨nf_c, (fun _ h => nomatch h)⟩) (List.forall_mem_cons.mpr ⟨⟨_, hw_c, h1.at (q0 := 1) rfl⟩, (fun _ h => nomatch h)⟩) (fun _ _ _ => rfl) (fun h => h) rfl)⟩
      · exact absurd c_15 (by decide)
abbrev M_Mm_hasElement : zM := (⟨"IronpourModel", "hasElement", "(II)I"⟩, prog_14_method_83_code, 3, (Option.some FieldType.int), 4, 84, [])
theorem d_Mm_hasElement_0 : decode prog_14_method_83_code 0 = .ok (.aload_n 0, 1) := zo_42 (zd_b zq_prog_14_method_83_code_0 0 rfl rfl rfl)
theorem d_Mm_hasElement_1 : decode prog_14_method_83_code 1 = .ok (.getfield 81, 3) := zo_180 (d := 0) (e := 81) (zd_b zq_prog_14_method_83_code_0 1 rfl rfl rfl) (zd_b zq_prog_14_method_83_code_0 2 rfl rfl rfl) (zd_b zq_prog_14_method_83_code_0 3 rfl rfl rfl)
theorem fs_Mm_81 : z_fs "IronpourModel" 81 12 28 := ⟨R_Mm, "IronpourModel", F_Mm, 31, rfl, u_Mm, by decide, Or.inl ⟨z_mj7 (i := 111) rfl (by decide +kernel), Or.inl rfl⟩⟩
theorem d_Mm_hasElement_4 : decode prog_14_method_83_code 4 = .ok (.iload_n 1, 1) := zo_27 (zd_b zq_prog_14_method_83_code_0 4 rfl rfl rfl)
theorem d_Mm_hasElement_5 : decode prog_14_method_83_code 5 = .ok (.invokevirtual 211, 3) := zo_182 (d := 0) (e := 211) (zd_b zq_prog_14_method_83_code_0 5 rfl rfl rfl) (zd_b zq_prog_14_method_83_code_0 6 rfl rfl rfl) (zd_b zq_prog_14_method_83_code_0 7 rfl rfl rfl)
theorem ok_Mm_hasElement_AL_get : z_ok M_Mm_hasElement M_AL_get 1 := ⟨z_mj2 (i := 180) rfl (by decide +kernel), rfl, ⟨by decide +kernel, by decide +kernel, by decide +kernel⟩, ⟨by decide, by decide⟩, z_mj1 (i := 13) rfl (by decide +kernel), rfl⟩
theorem d_Mm_hasElement_8 : decode prog_14_method_83_code 8 = .ok (.checkcast 304, 3) := zo_192 (d := 1) (e := 48) (zd_b zq_prog_14_method_83_code_0 8 rfl rfl rfl) (zd_b zq_prog_14_method_83_code_0 9 rfl rfl rfl) (zd_b zq_prog_14_method_83_code_0 10 rfl rfl rfl)
theorem lk_Mm_304 : Cond.classLink "IronpourModel" 304 (z_an 3) ∈ z_gw := z_mj9 (i := 34) rfl (by decide +kernel)
theorem d_Mm_hasElement_11 : decode prog_14_method_83_code 11 = .ok (.iload_n 2, 1) := zo_28 (zd_b zq_prog_14_method_83_code_0 11 rfl rfl rfl)
theorem d_Mm_hasElement_12 : decode prog_14_method_83_code 12 = .ok (.laload, 1) := zo_47 (zd_b zq_prog_14_method_83_code_0 12 rfl rfl rfl)
theorem d_Mm_hasElement_13 : decode prog_14_method_83_code 13 = .ok (.ldc2_w 244, 3) := zo_20 (d := 0) (e := 244) (zd_b zq_prog_14_method_83_code_0 13 rfl rfl rfl) (zd_b zq_prog_14_method_83_code_0 14 rfl rfl rfl) (zd_b zq_prog_14_method_83_code_0 15 rfl rfl rfl)
theorem d_Mm_hasElement_16 : decode prog_14_method_83_code 16 = .ok (.lmul, 1) := zo_105 (zd_b zq_prog_14_method_83_code_0 16 rfl rfl rfl)
theorem d_Mm_hasElement_17 : decode prog_14_method_83_code 17 = .ok (.aload_n 0, 1) := zo_42 (zd_b zq_prog_14_method_83_code_0 17 rfl rfl rfl)
theorem d_Mm_hasElement_18 : decode prog_14_method_83_code 18 = .ok (.getfield 78, 3) := zo_180 (d := 0) (e := 78) (zd_b zq_prog_14_method_83_code_0 18 rfl rfl rfl) (zd_b zq_prog_14_method_83_code_0 19 rfl rfl rfl) (zd_b zq_prog_14_method_83_code_0 20 rfl rfl rfl)
theorem d_Mm_hasElement_21 : decode prog_14_method_83_code 21 = .ok (.iload_n 1, 1) := zo_27 (zd_b zq_prog_14_method_83_code_0 21 rfl rfl rfl)
theorem d_Mm_hasElement_22 : decode prog_14_method_83_code 22 = .ok (.invokevirtual 211, 3) := zo_182 (d := 0) (e := 211) (zd_b zq_prog_14_method_83_code_0 22 rfl rfl rfl) (zd_b zq_prog_14_method_83_code_0 23 rfl rfl rfl) (zd_b zq_prog_14_method_83_code_0 24 rfl rfl rfl)
theorem d_Mm_hasElement_25 : decode prog_14_method_83_code 25 = .ok (.checkcast 215, 3) := zo_192 (d := 0) (e := 215) (zd_b zq_prog_14_method_83_code_0 25 rfl rfl rfl) (zd_b zq_prog_14_method_83_code_0 26 rfl rfl rfl) (zd_b zq_prog_14_method_83_code_0 27 rfl rfl rfl)
theorem d_Mm_hasElement_28 : decode prog_14_method_83_code 28 = .ok (.iconst 0, 1) := zo_3 (zd_b zq_prog_14_method_83_code_0 28 rfl rfl rfl)
theorem d_Mm_hasElement_29 : decode prog_14_method_83_code 29 = .ok (.iaload, 1) := zo_46 (zd_b zq_prog_14_method_83_code_0 29 rfl rfl rfl)
theorem d_Mm_hasElement_30 : decode prog_14_method_83_code 30 = .ok (.i2l, 1) := zo_133 (zd_b zq_prog_14_method_83_code_0 30 rfl rfl rfl)
theorem d_Mm_hasElement_31 : decode prog_14_method_83_code 31 = .ok (.ldiv, 1) := zo_109 (zd_b zq_prog_14_method_83_code_0 31 rfl rfl rfl)
theorem d_Mm_hasElement_32 : decode prog_14_method_83_code 32 = .ok (.l2i, 1) := zo_136 (zd_b zq_prog_14_method_83_code_1 0 rfl rfl rfl)
theorem d_Mm_hasElement_33 : decode prog_14_method_83_code 33 = .ok (.ireturn, 1) := zo_172 (zd_b zq_prog_14_method_83_code_1 1 rfl rfl rfl)
set_option maxHeartbeats 4000000 in
set_option maxRecDepth 100000 in
theorem Q_hasElement {g : zG} {ad : Nat → Nat} {t : zTT} {u : zNN} {w : zW} (hI : IV g ad t u w) (k e : Nat) (hk : k < u.1 5) (he : e < 4) : zMB g M_Mm_hasElement [.ref (ad 52), .int (nI k), .int (nI e)] w (fun o w1 => (∃ v : Int32, o = .inl (some (.int v))) ∧ w1 = w) 0 0 := by
  obtain ⟨e_m, wf_m, k_m⟩ := hI.1.2 52 (by decide)
  obtain ⟨v_m_th, rfl⟩ := kd_52.mp k_m
  have hJ := hI.1.I [52] [((ad 52), .inr (12, [.int v_m_th, .ref (ad 53), .int (nI ((t.1 52).2.2 0)), .ref (ad 54), .ref (ad 55), .ref (ad 56), .ref (ad 57), .ref (ad 58), .ref (ad 59), .ref (ad 60), .ref (ad 61), .int ((t.1 52).1 0), .int ((t.1 52).1 1), .int ((t.1 52).1 2), .int ((t.1 52).1 3), .int ((t.1 52).1 4), .int ((t.1 52).1 5), .ref (ad 62), .ref (ad 63), .ref (ad 64), .int ((t.1 52).1 6), .int ((t.1 52).1 7), .int ((t.1 52).1 8), .int ((t.1 52).1 9), .int ((t.1 52).1 10), .ref (ad 65), .ref (ad 66), .ref (ad 67), .ref (ad 68), .long ((t.1 52).2.1 0), .long ((t.1 52).2.1 1)]))] rfl (by decide) (by decide) (List.forall_mem_cons.mpr ⟨wf_m, (fun _ h => nomatch h)⟩)
  refine y_of (by decide) rfl (Nat.le_of_ble_eq_true rfl) (y_base (cs := [((ad 52), .inr (12, [.int v_m_th, .ref (ad 53), .int (nI ((t.1 52).2.2 0)), .ref (ad 54), .ref (ad 55), .ref (ad 56), .ref (ad 57), .ref (ad 58), .ref (ad 59), .ref (ad 60), .ref (ad 61), .int ((t.1 52).1 0), .int ((t.1 52).1 1), .int ((t.1 52).1 2), .int ((t.1 52).1 3), .int ((t.1 52).1 4), .int ((t.1 52).1 5), .ref (ad 62), .ref (ad 63), .ref (ad 64), .int ((t.1 52).1 6), .int ((t.1 52).1 7), .int ((t.1 52).1 8), .int ((t.1 52).1 9), .int ((t.1 52).1 10), .ref (ad 65), .ref (ad 66), .ref (ad 67), .ref (ad 68), .long ((t.1 52).2.1 0), .long ((t.1 52).2.1 1)]))]) hJ ?_)
  refine y_lvE (lv2 := [(0, .ref (ad 52)), (1, .int (nI k)), (2, .int (nI e))]) rfl ?_
  refine y_aload_n d_Mm_hasElement_0 rfl 0 rfl ?_
  refine y_get fs_Mm_81 d_Mm_hasElement_1 (q0 := 0) rfl rfl ?_
  refine y_iload_n d_Mm_hasElement_4 rfl 1 rfl ?_
  refine yw_callVL (As := [.int (nI k)]) (rest := []) (ci := 13) rfl (fun wA hA => ((hI.gen (t2 := t) (is := [52]) (L2 := []) hA rfl ⟨kd_52.mpr ⟨_, rfl⟩, trivial⟩ (by decide) (by decide) (fun _ h => nomatch h) (fun _ h => nomatch h) (fun _ _ _ => rfl) (fun h => h) rfl).2.1.1 6 (by decide)).ob) ln_Mm_211 w_im_AL_get w_se_AL_get ok_Mm_hasElement_AL_get d_Mm_hasElement_5 (fun wA hA => Q_get ((hI.gen (t2 := t) (is := [52]) (L2 := []) hA rfl ⟨kd_52.mpr ⟨_, rfl⟩, trivial⟩ (by decide) (by decide) (fun _ h => nomatch h) (fun _ h => nomatch h) (fun _ _ _ => rfl) (fun h => h) rfl).2.1.1 6 (by decide)) (by rw [hI.c56]; exact hk)) rfl rfl (Nat.le_of_ble_eq_true rfl) (by omega) (by omega) (fun wA5 hA5 E wB5 hx => ?_) (fun wA5 hA5 v wB5 hx => ?_)
  · exact absurd hx.1 (by simp)
  · obtain ⟨e1, e2⟩ := hx
    cases e1
    refine yw_st (st2 := [.ref (u.2.2 6 k)]) rfl ?_
    subst e2
    refine y_go hA5 ?_
    refine y_end (fun wC1 hC1 => ?_)
    obtain rfl := z_I.same hJ hC1
    obtain ⟨nf_g, hw_g⟩ := hI.2.1.2.1 6 (by decide) k (by rw [hI.c56]; exact hk)
    have hJ := z_I.kd (cs := [((ad 52), .inr (12, [.int v_m_th, .ref (ad 53), .int (nI ((t.1 52).2.2 0)), .ref (ad 54), .ref (ad 55), .ref (ad 56), .ref (ad 57), .ref (ad 58), .ref (ad 59), .ref (ad 60), .ref (ad 61), .int ((t.1 52).1 0), .int ((t.1 52).1 1), .int ((t.1 52).1 2), .int ((t.1 52).1 3), .int ((t.1 52).1 4), .int ((t.1 52).1 5), .ref (ad 62), .ref (ad 63), .ref (ad 64), .int ((t.1 52).1 6), .int ((t.1 52).1 7), .int ((t.1 52).1 8), .int ((t.1 52).1 9), .int ((t.1 52).1 10), .ref (ad 65), .ref (ad 66), .ref (ad 67), .ref (ad 68), .long ((t.1 52).2.1 0), .long ((t.1 52).2.1 1)])), ((u.2.2 6 k), .inl (3, 4, .inr (.inl ((t.2 6 k).2.2.1))))]) (List.forall_mem_cons.mpr ⟨wf_m, (List.forall_mem_cons.mpr ⟨hw_g, (fun _ h => nomatch h)⟩)⟩) (by simp [z_kd])
    refine y_base hJ ?_
    refine y_castA (t := 3) (by decide) lk_Mm_304 d_Mm_hasElement_8 (q0 := 1) rfl ?_
    refine y_iload_n d_Mm_hasElement_11 rfl 2 rfl ?_
    refine y_lald d_Mm_hasElement_12 (q0 := 1) rfl (vp_in_nI (by omega) (by omega)) (v := ((t.2 6 k).2.2.1) e) (by rw [nI_clamp (by omega)]) ?_
    refine y_ldc2 ct_Mm_244 d_Mm_hasElement_13 ?_
    refine y_lmul d_Mm_hasElement_16 (v := (((t.2 6 k).2.2.1) e) * 10) rfl ?_
    refine y_aload_n d_Mm_hasElement_17 rfl 0 rfl ?_
    refine y_get fs_Mm_78 d_Mm_hasElement_18 (q0 := 0) rfl rfl ?_
    refine y_iload_n d_Mm_hasElement_21 rfl 1 rfl ?_
    refine yw_callVL (As := [.int (nI k)]) (rest := [.long ((((t.2 6 k).2.2.1) e) * 10)]) (ci := 13) rfl (fun wA hA => ((hI.gen (t2 := t) (is := [52]) (L2 := [(u.2.2 6 k)]) hA rfl ⟨kd_52.mpr ⟨_, rfl⟩, trivial⟩ (by decide) (by decide) (List.forall_mem_cons.mpr ⟨nf_g, (fun _ h => nomatch h)⟩) (List.forall_mem_cons.mpr ⟨⟨_, hw_g, hA.at (q0 := 1) rfl⟩, (fun _ h => nomatch h)⟩) (fun _ _ _ => rfl) (fun h => h) rfl).2.1.1 5 (by decide)).ob) ln_Mm_211 w_im_AL_get w_se_AL_get ok_Mm_hasElement_AL_get d_Mm_hasElement_22 (fun wA hA => Q_get ((hI.gen (t2 := t) (is := [52]) (L2 := [(u.2.2 6 k)]) hA rfl ⟨kd_52.mpr ⟨_, rfl⟩, trivial⟩ (by decide) (by decide) (List.forall_mem_cons.mpr ⟨nf_g, (fun _ h => nomatch h)⟩) (List.forall_mem_cons.mpr ⟨⟨_, hw_g, hA.at (q0 := 1) rfl⟩, (fun _ h => nomatch h)⟩) (fun _ _ _ => rfl) (fun h => h) rfl).2.1.1 5 (by decide)) hk) rfl rfl (Nat.le_of_ble_eq_true rfl) (by omega) (by omega) (fun wA22 hA22 E wB22 hx => ?_) (fun wA22 hA22 v wB22 hx => ?_)
    · exact absurd hx.1 (by simp)
    · obtain ⟨e1, e2⟩ := hx
      cases e1
      refine yw_st (st2 := [.ref (u.2.2 5 k), .long ((((t.2 6 k).2.2.1) e) * 10)]) rfl ?_
      subst e2
      refine y_go hA22 ?_
      refine y_end (fun wC2 hC2 => ?_)
      obtain rfl := z_I.same hJ hC2
      obtain ⟨nf_c, hw_c, h0_c⟩ := hI.2.1.2.1 5 (by decide) k hk
      have hJ := z_I.kd (cs := [((ad 52), .inr (12, [.int v_m_th, .ref (ad 53), .int (nI ((t.1 52).2.2 0)), .ref (ad 54), .ref (ad 55), .ref (ad 56), .ref (ad 57), .ref (ad 58), .ref (ad 59), .ref (ad 60), .ref (ad 61), .int ((t.1 52).1 0), .int ((t.1 52).1 1), .int ((t.1 52).1 2), .int ((t.1 52).1 3), .int ((t.1 52).1 4), .int ((t.1 52).1 5), .ref (ad 62), .ref (ad 63), .ref (ad 64), .int ((t.1 52).1 6), .int ((t.1 52).1 7), .int ((t.1 52).1 8), .int ((t.1 52).1 9), .int ((t.1 52).1 10), .ref (ad 65), .ref (ad 66), .ref (ad 67), .ref (ad 68), .long ((t.1 52).2.1 0), .long ((t.1 52).2.1 1)])), ((u.2.2 6 k), .inl (3, 4, .inr (.inl ((t.2 6 k).2.2.1)))), ((u.2.2 5 k), .inl (0, 6, .inl ((t.2 5 k).2.1)))]) (List.forall_mem_cons.mpr ⟨wf_m, (List.forall_mem_cons.mpr ⟨hw_g, (List.forall_mem_cons.mpr ⟨hw_c, (fun _ h => nomatch h)⟩)⟩)⟩) (by simp [z_kd])
      refine y_base hJ ?_
      refine y_castA (t := 0) (by decide) lk_Mm_215 d_Mm_hasElement_25 (q0 := 2) rfl ?_
      refine y_iconst d_Mm_hasElement_28 (v := 0) (by decide) ?_
      refine y_iald d_Mm_hasElement_29 (q0 := 2) rfl (fun q => q.elim (by decide) (by decide)) (v := ((t.2 5 k).2.1) 0) rfl ?_
      refine y_i2l d_Mm_hasElement_30 (v := (((t.2 5 k).2.1) 0).toInt64) rfl ?_
      refine y_ldiv d_Mm_hasElement_31 (v := ((((t.2 6 k).2.2.1) e) * 10) / ((((t.2 5 k).2.1) 0).toInt64)) (z_l0 h0_c) rfl ?_
      refine y_l2i d_Mm_hasElement_32 (v := (((((t.2 6 k).2.2.1) e) * 10) / ((((t.2 5 k).2.1) 0).toInt64)).toInt32) rfl ?_
      refine y_iret d_Mm_hasElement_33 rfl rfl ?_
      exact fun w1 h1 => ⟨⟨_, rfl⟩, z_I.same hJ h1⟩
end
