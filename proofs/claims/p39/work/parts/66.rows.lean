theorem y_ofM {g : zG} {M : zM} {args : List Value} {w : zW} {Ψ : zO → zW → Prop} {mc ms : Nat} (hp : plainName M.1.cls = true) (hh : M.2.2.2.2.2.2 = []) (hn : (lg_sl args).length ≤ M.2.2.1) (k : DW g M Ψ w 0 (lv_args 0 args) [] mc ms) : z_Met g M args w Ψ mc ms := by
  intro l ws sz hlt hR
  refine vx_ofW (cc := M.2.1) (maxL := M.2.2.1) (ret := M.2.2.2.1) (ws' := z_gw) hp (by rw [z_ws, z_cd, if_pos hh]) ?_
  intro p e s m a below meth c s₁ B hml hx hv
  obtain ⟨rfl, hsz, hP, hD0, hE⟩ := hv
  subst hsz
  have hts := atoms_spec (ws := z_ws M) B.pre
  have hA : ∀ q, s.heap.size ≤ q → va_A ws s.heap.size q := fun q h => Or.inr h
  have hl := lv_entry args hn
  rw [lg_entry_eq]
  refine k p l e (z_rm M mc ms) s m args.toArray below meth c (va_A ws s.heap.size) mc ms s.heap [] 0 0 _ ws ⟨⟨B.exec, B.bytes, hml, findClass_of_methodNamed B.named, fun w h => hts w (List.mem_cons_of_mem _ h)⟩, ⟨hlt, hE, hA⟩, ⟨Nat.le_refl _, Nat.le_refl _, Nat.le_refl _, Nat.le_refl _⟩, ⟨B.returns, B.notSynchronized, ?_, (name_of_methodNamed B.named B.method).1⟩⟩ ⟨hP, hD0.self, va_S.rf, hR, hl, by omega, by omega⟩
  rw [hh]
  cases h : c.exceptionTable.toList with
  | nil => rfl
  | cons z zs => exact (hx z (by rw [h]; exact List.mem_cons_self)).elim
def CP (g : zG) (M : zM) (args : List Value) (cs : zC) (P : zW → Prop) (Φ : zO → zC → Prop) (mc ms : Nat) : Prop := ∀ w, z_I w w cs.length cs → P w → z_Met g M args w (z_PF Φ w cs.length) mc ms
theorem CP.at {g : zG} {M : zM} {args : List Value} {cs : zC} {P : zW → Prop} {Φ : zO → zC → Prop} {mc ms : Nat} {w : zW} (h : CP g M args cs P Φ mc ms) (hI : z_I w w cs.length cs) (hP : P w) : zMB g M args w (z_PF Φ w cs.length) mc ms := ⟨mc, ms, Nat.le_refl _, Nat.le_refl _, h w hI hP⟩
theorem y_go {g : zG} {M : zM} {Ψ : zO → zW → Prop} {w0 w : zW} {n pc : Nat} {lv : List (Nat × Value)} {st : List Value} {cs : zC} {kc ks : Nat} (hI : z_I w0 w n cs) (k : DU g M Ψ w0 n pc lv st cs kc ks) : DW g M Ψ w pc lv st kc ks := fun p l e R s m args below meth c A mc ms H locs cells slots ls ws C T => k w p l e R s m args below meth c A mc ms H locs cells slots ls ws hI C T
theorem z_I.kd {w : zW} {cs : zC} (h : ∀ p ∈ cs, w p.1 = some p.2) (hn : (cs.map (fun p => z_kd p.2)).Nodup) : z_I w w cs.length cs := by
  refine ⟨h, fun _ _ => rfl, ?_, fun p hp => ?_, Nat.le_refl _⟩
  · refine List.pairwise_iff_getElem.mpr fun i j hi hj hij e => ?_
    rw [List.length_map] at hi hj
    rw [List.getElem_map, List.getElem_map] at e
    have h1 := h _ (List.getElem_mem hi)
    have h2 := h _ (List.getElem_mem hj)
    rw [e, h2] at h1
    have h3 := List.pairwise_iff_getElem.mp hn i j (by simpa using hi) (by simpa using hj) hij
    rw [List.getElem_map, List.getElem_map] at h3
    exact h3 (congrArg z_kd (Option.some.inj h1)).symm
  · rw [List.drop_of_length_le (Nat.le_refl _)] at hp
    cases hp
theorem z_I.mk {w : zW} {cs : zC} (h : ∀ p ∈ cs, w p.1 = some p.2) (hn : (cs.map Prod.fst).Nodup) : z_I w w cs.length cs := by
  refine ⟨h, fun _ _ => rfl, hn, fun p hp => ?_, Nat.le_refl _⟩
  rw [List.drop_of_length_le (Nat.le_refl _)] at hp
  cases hp
def z_obs (w : zW) (m : Nat) (f : Nat → Option Nat) (sp : Nat) : Prop := ∀ i, i < m → ∀ y, f (sp + i) = some y → ∃ ek, w y = some ek ∧ z_ob ek
theorem z_ob5 {ek : zE} (h : z_ob ek) : (z_kd ek).1 = 1 ∨ (z_kd ek).2.1 < 5 := by
  match ek, h with
  | .inl a, h => exact Or.inr h.1
  | .inr o, h => exact Or.inl rfl
section
variable {g : zG} {M : zM} {Ψ : zO → zW → Prop} {w0 : zW} {n pc : Nat} {lv lv' : List (Nat × Value)} {st : List Value} {cs cs' : zC} {kc ks : Nat}
set_option maxHeartbeats 1000000 in
theorem yp_callS {M2 : zM} {idx nA : Nat} {As rest st0 : List Value} {csC : zC} {is : List Nat} {Φ2 : zO → zC → Prop} {mc2 ms2 : Nat} (hl : Cond.methodLink M.1.cls idx M2.1 ∈ z_gw) (hm2 : Cond.static M2.1 ∈ z_gw) (ho : z_ok M M2 nA) (hd : decode M.2.1 pc = .ok (.invokestatic idx, 3)) (hM : ∀ w, z_I w0 w n cs → z_I w w csC.length csC → z_Met g M2 As w (z_PF Φ2 w csC.length) mc2 ms2) (hA : As.length = nA) (hst : As.reverse ++ rest = st0) (hr : (rest.map fun v => v.category).sum ≤ 8) (hs : is.map (fun i => cs[i]?) = csC.map some) (hn : is.Nodup) (h1 : mc2 ≤ kc) (h2 : ms2 ≤ ks) (kx : ∀ (E : String) (cs1 : zC), Φ2 (.inr E) cs1 → (cs1.map Prod.fst).take csC.length = csC.map Prod.fst ∧ ∀ w : zW, z_I w0 w n (z_rep cs is cs1 ++ cs1.drop is.length) → Ψ (.inr E) w) (kk : ∀ (v : Option Value) (cs1 : zC), Φ2 (.inl v) cs1 → (cs1.map Prod.fst).take csC.length = csC.map Prod.fst ∧ DU g M Ψ w0 n (pc + 3) lv (v.toList ++ rest) (z_rep cs is cs1 ++ cs1.drop is.length) (kc - mc2) (ks - ms2)) : DU g M Ψ w0 n pc lv st0 cs kc ks := by
  intro w p l e R s m args below meth c A mc ms H locs cells slots ls ws I C T
  subst hst
  obtain ⟨o1, o2, o3, o4, o5, o6⟩ := ho
  have b1 := C.2.2.1.1
  have b2 := C.2.2.1.2.1
  have b3 := C.2.2.1.2.2.1
  have b4 := C.2.2.1.2.2.2
  have b5 := T.2.2.2.2.2.1
  have b6 := T.2.2.2.2.2.2
  have hI : z_I w w csC.length csC := I.sub hs hn
  have hm := hM w I hI l ws H.size C.2.1.1 T.2.2.2.1
  refine y_aft (As := As) I C T o6 hs hn h1 h2 (vx_runS (As := As) ⟨C.1.1, C.1.2.1, C.1.2.2.1, C.1.2.2.2.1, C.1.2.2.2.2⟩ hm (va_cwS nA C.1.2.2.2.2 (z_good (ws := va_wsS M.1.cls idx M2.1 (z_ws M2)) (fun x hx => (List.mem_append.mp hx).elim (fun hx => by simp only [List.mem_cons, List.not_mem_nil, or_false] at hx; rcases hx with rfl | rfl | rfl <;> assumption) (fun hx => z_wsg o1 x hx))) (z_hw o2) rfl rfl o3 ⟨Nat.le_trans o4.1 b1, Nat.le_trans o4.2 b2⟩) ⟨z_blind, fun U hU hW => z_pre C.2.1.2.1 C.2.1.2.2 T.1 T.2.1 T.2.2.1 hU hW⟩ rfl hA T.2.2.2.2.1.1 rfl (lv_room hr) hd ⟨by omega, by omega⟩) rfl kx kk
set_option maxHeartbeats 1000000 in
theorem yp_callV {M2 : zM} {idx nA : Nat} {As rest st0 : List Value} {csC : zC} {is : List Nat} {Φ2 : zO → zC → Prop} {mc2 ms2 : Nat} {q0 a ci : Nat} {fs : List Value} {F : u_T} {N : Nat} (hcl : vwCl[ci]? = some (M2.1.cls, F, N)) (hq : cs[q0]? = some (a, .inr (ci, fs))) (hl : Cond.methodLink M.1.cls idx M2.1 ∈ z_gw) (hm2 : Cond.instanceMethod M2.1 ∈ z_gw) (hm3 : Cond.selects M2.1.cls M2.1 M2.1 ∈ z_gw) (ho : z_ok M M2 nA) (hd : decode M.2.1 pc = .ok (.invokevirtual idx, 3)) (hM : ∀ w, z_I w0 w n cs → z_I w w csC.length csC → z_Met g M2 (.ref a :: As) w (z_PF Φ2 w csC.length) mc2 ms2) (hA : As.length = nA) (hst : As.reverse ++ .ref a :: rest = st0) (hr : (rest.map fun v => v.category).sum ≤ 8) (hs : is.map (fun i => cs[i]?) = csC.map some) (hn : is.Nodup) (h1 : mc2 ≤ kc) (h2 : ms2 ≤ ks) (kx : ∀ (E : String) (cs1 : zC), Φ2 (.inr E) cs1 → (cs1.map Prod.fst).take csC.length = csC.map Prod.fst ∧ ∀ w : zW, z_I w0 w n (z_rep cs is cs1 ++ cs1.drop is.length) → Ψ (.inr E) w) (kk : ∀ (v : Option Value) (cs1 : zC), Φ2 (.inl v) cs1 → (cs1.map Prod.fst).take csC.length = csC.map Prod.fst ∧ DU g M Ψ w0 n (pc + 3) lv (v.toList ++ rest) (z_rep cs is cs1 ++ cs1.drop is.length) (kc - mc2) (ks - ms2)) : DU g M Ψ w0 n pc lv st0 cs kc ks := by
  intro w p l e R s m args below meth c A mc ms H locs cells slots ls ws I C T
  subst hst
  obtain ⟨o1, o2, o3, o4, o5, o6⟩ := ho
  have b1 := C.2.2.1.1
  have b2 := C.2.2.1.2.1
  have b3 := C.2.2.1.2.2.1
  have b4 := C.2.2.1.2.2.2
  have b5 := T.2.2.2.2.2.1
  have b6 := T.2.2.2.2.2.2
  have hI : z_I w w csC.length csC := I.sub hs hn
  have hm := hM w I hI l ws H.size C.2.1.1 T.2.2.2.1
  obtain ⟨q9, hq9⟩ := T.2.2.2.1 a _ (I.at hq)
  refine y_aft (As := As) I C T o6 hs hn h1 h2 (vx_runV (As := As) ⟨C.1.1, C.1.2.1, C.1.2.2.1, C.1.2.2.2.1, C.1.2.2.2.2⟩ hm (cwV (C := M2.1.cls) nA C.1.2.2.2.2 (z_good (ws := wsV M.1.cls idx M2.1.cls M2.1 (z_ws M2)) (fun x hx => (List.mem_append.mp hx).elim (fun hx => by simp only [List.mem_cons, List.not_mem_nil, or_false] at hx; rcases hx with rfl | rfl | rfl | rfl <;> assumption) (fun hx => z_wsg o1 x hx))) (z_hw o2) rfl rfl ⟨rfl, o3⟩ ⟨Nat.le_trans o4.1 b1, Nat.le_trans o4.2 b2⟩) ⟨z_blind, va_recv C.2.1.2.1.1 T.1 hcl hq9, fun U hU hW => z_pre C.2.1.2.1 C.2.1.2.2 T.1 T.2.1 T.2.2.1 hU hW⟩ rfl hA T.2.2.2.2.1.1 rfl (lv_room hr) hd ⟨by omega, by omega⟩) rfl kx kk
set_option maxHeartbeats 1000000 in
theorem yw_callVL {M2 : zM} {idx nA : Nat} {As rest st0 : List Value} {Ψ2 : zW → zO → zW → Prop} {mc2 ms2 : Nat} {a ci : Nat} {F : u_T} {N : Nat} (hcl : vwCl[ci]? = some (M2.1.cls, F, N)) (hq : ∀ w, z_I w0 w n cs → ∃ fs : List Value, w a = some (.inr (ci, fs))) (hl : Cond.methodLink M.1.cls idx M2.1 ∈ z_gw) (hm2 : Cond.instanceMethod M2.1 ∈ z_gw) (hm3 : Cond.selects M2.1.cls M2.1 M2.1 ∈ z_gw) (ho : z_ok M M2 nA) (hd : decode M.2.1 pc = .ok (.invokevirtual idx, 3)) (hM : ∀ w, z_I w0 w n cs → zMB g M2 (.ref a :: As) w (Ψ2 w) mc2 ms2) (hA : As.length = nA) (hst : As.reverse ++ .ref a :: rest = st0) (hr : (rest.map fun v => v.category).sum ≤ 8) (h1 : mc2 ≤ kc) (h2 : ms2 ≤ ks) (kx : ∀ w, z_I w0 w n cs → ∀ (E : String) (w1 : zW), Ψ2 w (.inr E) w1 → Ψ (.inr E) w1) (kk : ∀ w, z_I w0 w n cs → ∀ (v : Option Value) (w1 : zW), Ψ2 w (.inl v) w1 → DW g M Ψ w1 (pc + 3) lv (v.toList ++ rest) (kc - mc2) (ks - ms2)) : DU g M Ψ w0 n pc lv st0 cs kc ks := by
  intro w p l e R s m args below meth c A mc ms H locs cells slots ls ws I C T
  subst hst
  obtain ⟨o1, o2, o3, o4, o5, o6⟩ := ho
  have b1 := C.2.2.1.1
  have b2 := C.2.2.1.2.1
  have b3 := C.2.2.1.2.2.1
  have b4 := C.2.2.1.2.2.2
  have b5 := T.2.2.2.2.2.1
  have b6 := T.2.2.2.2.2.2
  obtain ⟨mc3, ms3, d1, d2, d3⟩ := hM w I
  have hm := d3 l ws H.size C.2.1.1 T.2.2.2.1
  obtain ⟨fs, hfs⟩ := hq w I
  obtain ⟨q9, hq9⟩ := T.2.2.2.1 a _ hfs
  refine yw_aft (As := As) C T o6 d1 d2 h1 h2 (vx_runV (As := As) ⟨C.1.1, C.1.2.1, C.1.2.2.1, C.1.2.2.2.1, C.1.2.2.2.2⟩ hm (cwV (C := M2.1.cls) nA C.1.2.2.2.2 (z_good (ws := wsV M.1.cls idx M2.1.cls M2.1 (z_ws M2)) (fun x hx => (List.mem_append.mp hx).elim (fun hx => by simp only [List.mem_cons, List.not_mem_nil, or_false] at hx; rcases hx with rfl | rfl | rfl | rfl <;> assumption) (fun hx => z_wsg o1 x hx))) (z_hw o2) rfl rfl ⟨rfl, o3⟩ ⟨Nat.le_trans o4.1 b1, Nat.le_trans o4.2 b2⟩) ⟨z_blind, va_recv C.2.1.2.1.1 T.1 hcl hq9, fun U hU hW => z_pre C.2.1.2.1 C.2.1.2.2 T.1 T.2.1 T.2.2.1 hU hW⟩ rfl hA T.2.2.2.2.1.1 rfl (lv_room hr) hd ⟨by omega, by omega⟩) rfl (kx w I) (kk w I)
theorem y_acmp_ne {x y : Nat} {off : Int} {tgt : Nat} (hd : decode M.2.1 pc = .ok (.if_acmp .ne off, 3)) (ht : (pc : Int) + off = (tgt : Int)) (kt : ¬ x = y → DU g M Ψ w0 n tgt lv st cs kc ks) (kf : x = y → DU g M Ψ w0 n (pc + 3) lv st cs kc ks) : DU g M Ψ w0 n pc lv (.ref y :: .ref x :: st) cs kc ks :=
  fun w p l e R s m args below meth c A mc ms H locs cells slots ls ws I C T => lv_acmp_ne (rx := some x) (ry := some y) C.1.1 C.1.2.1 hd ht (fun h => kt (fun e9 => h (congrArg some e9)) w p l e R s m args below meth c A mc ms H locs cells slots ls ws I C T) (fun h => kf (Option.some.inj h) w p l e R s m args below meth c A mc ms H locs cells slots ls ws I C T)
theorem y_ldcM {idx : Nat} (hl : Cond.classLink M.1.cls idx "[Ljava/lang/Object;" ∈ z_gw) (hd : decode M.2.1 pc = .ok (.ldc idx, 2)) (k : DU g M Ψ w0 n (pc + 2) lv (.ref (g.2.2 42) :: st) cs kc ks) : DU g M Ψ w0 n pc lv st cs kc ks := by
  intro w p l e R s m args below meth c A mc ms H locs cells slots ls ws I C T
  exact va_ldcM C.1.1 C.1.2.1 C.1.2.2.2.1 (C.1.2.2.2.2 _ hl) C.2.1.2.1.2.2.2.2.2.2.2.2.2.2.2.2.1 hd (k w p l e R s m args below meth c A mc ms H locs cells slots ls ws I C T)
theorem y_getC {q0 a N idx : Nat} {f : Nat → Option Nat} (hl : Cond.methodLink M.1.cls idx ⟨"java/lang/Object", "getClass", "()Ljava/lang/Class;"⟩ ∈ z_gw) (h2 : Cond.declares ⟨"java/lang/Object", "getClass", "()Ljava/lang/Class;"⟩ ∈ z_nw) (h3 : Cond.selects "[Ljava/lang/Object;" ⟨"java/lang/Object", "getClass", "()Ljava/lang/Class;"⟩ ⟨"java/lang/Object", "getClass", "()Ljava/lang/Class;"⟩ ∈ z_gw) (h4 : Cond.instanceMethod ⟨"java/lang/Object", "getClass", "()Ljava/lang/Class;"⟩ ∈ z_gw) (h5 : Cond.native ⟨"java/lang/Object", "getClass", "()Ljava/lang/Class;"⟩ ∈ z_gw) (hd : decode M.2.1 pc = .ok (.invokevirtual idx, 3)) (hc : cs[q0]? = some (a, .inl (5, N, .inr (.inr (.inr (.inr f)))))) (hF : 1 ≤ M.2.2.2.2.1) (hL : 40 ≤ M.2.2.2.2.2.1) (hr : (st.map fun v => v.category).sum ≤ 8) (k : DU g M Ψ w0 n (pc + 3) lv (.ref (g.2.2 42) :: st) cs kc ks) : DU g M Ψ w0 n pc lv (.ref a :: st) cs kc ks := by
  intro w p l e R s m args below meth c A mc ms H locs cells slots ls ws I C T
  have b1 := C.2.2.1.1
  have b2 := C.2.2.1.2.1
  obtain ⟨q, hq⟩ := T.2.2.2.1 a _ (I.at hc)
  exact va_getC C.1.1 C.1.2.1 (C.1.2.2.1.trans T.2.2.2.2.1.1.symm) C.1.2.2.2.1 (C.1.2.2.2.2 _ hl) ((C.2.1.2.1.2.2.2.1 _ h2).use rfl) (C.1.2.2.2.2 _ h3) (C.1.2.2.2.2 _ h4) (C.1.2.2.2.2 _ h5) C.2.1.2.1.2.2.2.2.2.2.2.2.2.2.2.2.1 ⟨_, T.1 q _ hq, rfl, va_nmO (C.2.1.2.1.1.2 5 (g.2.1 5, .object "java/lang/Object") rfl).2 rfl⟩ (by omega) (by omega) hd (k w p l e R s m args below meth c A mc ms H locs cells slots ls ws I C T)
theorem y_aastN {q0 a N : Nat} {f f' : Nat → Option Nat} {i : Int32} (hd : decode M.2.1 pc = .ok (.aastore, 1)) (hc : cs[q0]? = some (a, .inl (5, N, .inr (.inr (.inr (.inr f)))))) (hin : vp_in i N) (hf : va_up f i.toNatClampNeg none = f') (hcs : cs.set q0 (a, .inl (5, N, .inr (.inr (.inr (.inr f'))))) = cs') (k : DU g M Ψ w0 n (pc + 1) lv st cs' kc ks) : DU g M Ψ w0 n pc lv (.null :: .int i :: .ref a :: st) cs kc ks := by
  intro w p l e R s m args below meth c A mc ms H locs cells slots ls ws I C T
  subst hcs
  subst hf
  obtain ⟨q, hq⟩ := T.2.2.2.1 a _ (I.at hc)
  exact va_astqN C.1.1 C.1.2.1 C.2.1.2.1.1 T.1 T.2.1 T.2.2.1 q 5 hq rfl hin hd (fun H1 locs1 a1 a2 a3 => k _ p l e R s m args below meth c A mc ms H1 locs1 cells slots ls _ (I.set hc) C ⟨a1, a2, a3, T.2.2.2.1.set (e := .inl (5, N, .inr (.inr (.inr (.inr (va_up f i.toNatClampNeg none)))))) T.2.1 hq, T.2.2.2.2⟩)
theorem y_copyq {q0 q1 a0 a N0 N1 j : Nat} {f g' f' : Nat → Option Nat} {sp dp x : Int32} (hl : Cond.methodLink M.1.cls j arraycopyName ∈ z_gw) (w1 : Cond.native arraycopyName ∈ z_gw) (w2 : Cond.static arraycopyName ∈ z_gw) (w3 : Cond.initialized "java/lang/System" ∈ z_gw) (hd : decode M.2.1 pc = .ok (.invokestatic j, 3)) (hc0 : cs[q0]? = some (a0, .inl (5, N0, .inr (.inr (.inr (.inr f)))))) (hc1 : cs[q1]? = some (a, .inl (5, N1, .inr (.inr (.inr (.inr g')))))) (h1 : ¬ sp < 0) (h2 : ¬ dp < 0) (h3 : ¬ x < 0) (h4 : sp.toNatClampNeg + x.toNatClampNeg ≤ N0) (h5 : dp.toNatClampNeg + x.toNatClampNeg ≤ N1) (hel : ∀ w, z_I w0 w n cs → z_obs w x.toNatClampNeg f sp.toNatClampNeg) (hf : va_cpy f g' sp.toNatClampNeg dp.toNatClampNeg x.toNatClampNeg = f') (hcs : cs.set q1 (a, .inl (5, N1, .inr (.inr (.inr (.inr f'))))) = cs') (hF : 1 ≤ M.2.2.2.2.1) (hL : 8 + (nativeFrameWords "java/lang/System" "arraycopy" 5 + 11) ≤ M.2.2.2.2.2.1) (hr : (st.map fun v => v.category).sum ≤ 8) (k : DU g M Ψ w0 n (pc + 3) lv st cs' kc ks) : DU g M Ψ w0 n pc lv (.int x :: .int dp :: .ref a :: .int sp :: .ref a0 :: st) cs kc ks := by
  intro w p l e R s m9 args below meth c A mc ms H locs cells slots ls ws I C T
  subst hcs
  subst hf
  obtain ⟨q, hq⟩ := T.2.2.2.1 a0 _ (I.at hc0)
  obtain ⟨q2, hq2⟩ := T.2.2.2.1 a _ (I.at hc1)
  have b1 := C.2.2.1.1
  have b2 := C.2.2.1.2.1
  refine va_copyM C.1.1 C.1.2.1 (C.1.2.2.1.trans T.2.2.2.2.1.1.symm) C.1.2.2.2.1 (C.1.2.2.2.2 _ hl) (C.1.2.2.2.2 _ w1) (C.1.2.2.2.2 _ w2) (C.1.2.2.2.2 _ w3) C.2.1.2.1.1 T.1 T.2.1 T.2.2.1 q q2 5 5 hq hq2 rfl rfl h1 h2 h3 h4 h5 (fun i hi y hy => ?_) (by omega) (by omega) hd (fun H1 locs1 a1 a2 a3 => ?_)
  · obtain ⟨ek, e1, e2⟩ := hel w I i hi y hy
    exact zy_any C.2.1.2.1.1 C.2.1.2.1.2.2.2.1 T.1 T.2.2.2.1 e1 e2
  · exact k _ p l e R s m9 args below meth c A mc ms H1 locs1 cells slots ls _ (I.set hc1) C ⟨a1, a2, a3, T.2.2.2.1.set (e := .inl (5, N1, .inr (.inr (.inr (.inr (va_cpy f g' sp.toNatClampNeg dp.toNatClampNeg x.toNatClampNeg)))))) T.2.1 hq2, T.2.2.2.2⟩
end
theorem IVf.st2 {ad : Nat → Nat} {t t2 : zTT} {w w1 : zW} (h : IVf ad t w) {is L2 : List Nat} {cs1 : zC} {m : Nat} (h1 : z_I w w1 m cs1) (ha : (cs1.map Prod.fst).take m = is.map ad ++ L2) (hk : KDs ad t2 is cs1) (hb : ∀ i ∈ is, i < 71) (hn : ∀ q ∈ L2, z_nf ad q) (hs : ∀ i, i < 71 → i ∉ is → t2.1 i = t.1 i) : IVf ad t2 w1 := by
  refine ⟨h.1, fun i hi => ?_⟩
  by_cases hm : i ∈ is
  · obtain ⟨j, hj⟩ := List.getElem?_of_mem hm
    have e1 : ((cs1.map Prod.fst).take m)[j]? = some (ad i) := by
      rw [ha, List.getElem?_append_left (by rw [List.length_map]; exact (List.getElem?_eq_some_iff.mp hj).1), List.getElem?_map, hj]; rfl
    have hjm : j < m := by
      have := (List.getElem?_eq_some_iff.mp e1).1
      rw [List.length_take] at this
      omega
    rw [List.getElem?_take_of_lt hjm, List.getElem?_map] at e1
    cases hx : cs1[j]? with
    | none => rw [hx] at e1; cases e1
    | some x =>
      rw [hx] at e1
      have e2 : x.1 = ad i := Option.some.inj e1
      exact ⟨x.2, by rw [← e2]; exact h1.at hx, KDs.at is cs1 j i x hk hj hx⟩
  · obtain ⟨e, he, hd⟩ := h.2 i hi
    refine ⟨e, h1.ke ha (ad i) e (fun hq => ?_) he, hd.cg i _ hi (hs i hi hm)⟩
    rcases List.mem_append.mp hq with hq | hq
    · obtain ⟨j, hj, e9⟩ := List.mem_map.mp hq
      exact hm (h.1 j i (hb j hj) hi e9 ▸ hj)
    · exact hn _ hq i hi rfl
theorem IV.gen0 {g : zG} {ad : Nat → Nat} {t t2 : zTT} {u : zNN} {w w1 : zW} (h : IV g ad t u w) {is L2 : List Nat} {cs1 : zC} {m : Nat} (h1 : z_I w w1 m cs1) (ha : (cs1.map Prod.fst).take m = is.map ad ++ L2) (hk : KDs ad t2 is cs1) (hb : ∀ i ∈ is, i < 71) (hl : ∀ i ∈ is, i ∉ z_lx) (hn : ∀ q ∈ L2, z_nf ad q) (hs : ∀ i, i < 71 → i ∉ is → t2.1 i = t.1 i) (ht : tOK t → tOK t2) (hE : ∀ L, L < 7 → ∀ k, k < u.1 L → EL ad L w1 (u.2.2 L k) (t2.2 L k)) (hB : ∀ (q N : Nat) (f : Nat → Option Nat), z_nf ad q → w q = some (.inl (5, N, .inr (.inr (.inr (.inr f))))) → w1 q = some (.inl (5, N, .inr (.inr (.inr (.inr f)))))) : IV g ad t2 u w1 := by
  have hke := h1.ke ha
  refine ⟨h.1.st2 h1 ha hk hb hn hs, ⟨fun L hL => ?_, hE, h.2.1.2.2⟩, ht h.2.2⟩
  have hx : z_lx.getD L 0 < 71 ∧ z_lx.getD L 0 ∈ z_lx := (show ∀ L, L < 7 → z_lx.getD L 0 < 71 ∧ z_lx.getD L 0 ∈ z_lx by decide) L hL
  obtain ⟨md, dd, e1, e2⟩ := h.2.1.1 L hL
  have e1' : w1 (ad (z_lx.getD L 0)) = some (.inr (13, [.int md, .ref dd, .int (nI (u.1 L))])) := hke _ _ (fun h9 => by
    rcases List.mem_append.mp h9 with h9 | h9
    · obtain ⟨j, hj, e9⟩ := List.mem_map.mp h9
      have := h.1.1 j _ (hb j hj) hx.1 e9
      exact hl j hj (this ▸ hx.2)
    · exact hn _ h9 _ hx.1 rfl) e1
  refine ⟨md, dd, e1', ?_⟩
  rcases e2 with e2 | ⟨e2, N, f, e3, e4, e5, e6⟩
  · exact Or.inl e2
  · exact Or.inr ⟨e2, N, f, e3, e4, hB dd N f (h.1.n5 e5) e5, e6⟩
theorem z_smI {ad : Nat → Nat} {is L2 : List Nat} {w w1 : zW} {a : Nat} (hke : z_ke (fun q => q ∈ is.map ad ++ L2) w w1) (hb : ∀ i ∈ is, i < 71) (he : ∀ q ∈ L2, q = a ∨ ∃ e, w q = some e ∧ w1 q = some e) : ∀ q e, z_nf ad q → ¬ q = a → w q = some e → w1 q = some e := fun q e hq hqa hw => by
  by_cases hm : q ∈ L2
  · rcases he q hm with e9 | ⟨e1, a1, a2⟩
    · exact absurd e9 hqa
    · rw [hw] at a1
      cases a1
      exact a2
  · refine hke q e (fun h9 => ?_) hw
    rcases List.mem_append.mp h9 with h9 | h9
    · obtain ⟨j, hj, e9⟩ := List.mem_map.mp h9
      exact hq j (hb j hj) e9
    · exact hm h9
theorem IV.gen {g : zG} {ad : Nat → Nat} {t t2 : zTT} {u : zNN} {w w1 : zW} (h : IV g ad t u w) {is L2 : List Nat} {cs1 : zC} {m : Nat} (h1 : z_I w w1 m cs1) (ha : (cs1.map Prod.fst).take m = is.map ad ++ L2) (hk : KDs ad t2 is cs1) (hb : ∀ i ∈ is, i < 71) (hl : ∀ i ∈ is, i ∉ z_lx) (hn : ∀ q ∈ L2, z_nf ad q) (he : ∀ q ∈ L2, ∃ e, w q = some e ∧ w1 q = some e) (hs : ∀ i, i < 71 → i ∉ is → t2.1 i = t.1 i) (ht : tOK t → tOK t2) (ht2 : t2.2 = t.2) : IV g ad t2 u w1 := by
  have hke := h1.ke ha
  have hsim : ∀ q e, z_nf ad q → w q = some e → w1 q = some e := fun q e hq hw => by
    by_cases hm : q ∈ L2
    · obtain ⟨e1, a1, a2⟩ := he q hm
      rw [hw] at a1
      cases a1
      exact a2
    · refine hke q e (fun h9 => ?_) hw
      rcases List.mem_append.mp h9 with h9 | h9
      · obtain ⟨j, hj, e9⟩ := List.mem_map.mp h9
        exact hq j (hb j hj) e9
      · exact hm h9
  exact h.gen0 h1 ha hk hb hl hn hs ht (fun L hL k hk9 => by rw [ht2]; exact (h.2.1.2.1 L hL k hk9).ke3 (fun q e h0 h2 _ => hsim q e h0 h2)) (fun q N f h0 h2 => hsim q _ h0 h2)
def vup (V : Nat → Nat → zV) (M j : Nat) (v : zV) : Nat → Nat → zV := fun L k => if L = M ∧ k = j then v else V L k
theorem elk_inj : ∀ L, L < 7 → ∀ M, M < 7 → elk L = elk M → L = M := by decide
theorem IV.gen1 {g : zG} {ad : Nat → Nat} {t t2 : zTT} {u : zNN} {w w1 : zW} (h : IV g ad t u w) {M j : Nat} {v2 : zV} (hM : M < 7) (hj : j < u.1 M) (hT : M = 0 ∨ M = 1 ∨ M = 2 ∨ M = 4 ∨ M = 5) {is L2 : List Nat} {cs1 : zC} {m : Nat} (h1 : z_I w w1 m cs1) (ha : (cs1.map Prod.fst).take m = is.map ad ++ L2) (hk : KDs ad t2 is cs1) (hb : ∀ i ∈ is, i < 71) (hl : ∀ i ∈ is, i ∉ z_lx) (hn : ∀ q ∈ L2, z_nf ad q) (he : ∀ q ∈ L2, q = u.2.2 M j ∨ ∃ e, w q = some e ∧ w1 q = some e) (hs : ∀ i, i < 71 → i ∉ is → t2.1 i = t.1 i) (ht : tOK t → tOK t2) (hnew : EL ad M w1 (u.2.2 M j) v2) (ht2 : t2.2 = vup t.2 M j v2) : IV g ad t2 u w1 := by
  have hsim := z_smI (h1.ke ha) hb he
  obtain ⟨ea, hea, hta⟩ := (h.2.1.2.1 M hM j hj).tag
  have nt : ∀ e, w (u.2.2 M j) = some e → z_kd e = elk M := fun e q => by
    rw [hea] at q
    cases q
    exact hta
  refine h.gen0 h1 ha hk hb hl hn hs ht (fun L hL k hk9 => ?_) (fun q N f h0 h2 => hsim q _ h0 (fun e => ?_) h2)
  · rw [ht2]
    by_cases q : L = M ∧ k = j
    · obtain ⟨rfl, rfl⟩ := q
      rw [show vup t.2 L k v2 L k = v2 from if_pos ⟨rfl, rfl⟩]
      exact hnew
    · rw [show vup t.2 M j v2 L k = t.2 L k from if_neg q]
      refine (h.2.1.2.1 L hL k hk9).ke3 (fun q2 e h0 h2 h3 => hsim q2 e h0 (fun e9 => ?_) h2)
      have hkd := nt e (by rw [← e9]; exact h2)
      rcases h3 with h3 | h3 | h3 | h3
      · obtain ⟨eb, heb, htb⟩ := (h.2.1.2.1 L hL k hk9).tag
        rw [← h3, h2] at heb
        cases heb
        have hLM : L = M := elk_inj L hL M hM (htb.symm.trans hkd)
        subst hLM
        exact q ⟨rfl, h.2.1.2.2.1.2 L hL k j hk9 hj (h3.symm.trans e9)⟩
      all_goals
        rw [h3] at hkd
        rcases hT with rfl | rfl | rfl | rfl | rfl <;> exact absurd hkd (by decide)
  · have hkd := nt _ (by rw [← e]; exact h2)
    rcases hT with rfl | rfl | rfl | rfl | rfl
    · exact absurd (show (5 : Nat) = 7 from congrArg (fun p => p.2.1) hkd) (by decide)
    · exact absurd (show (5 : Nat) = 0 from congrArg (fun p => p.2.1) hkd) (by decide)
    · exact absurd (show (5 : Nat) = 0 from congrArg (fun p => p.2.1) hkd) (by decide)
    · exact absurd (show (5 : Nat) = 0 from congrArg (fun p => p.2.1) hkd) (by decide)
    · exact absurd (show (5 : Nat) = 0 from congrArg (fun p => p.2.1) hkd) (by decide)
