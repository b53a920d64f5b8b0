def zx_e (q : Nat × Nat × Nat × Nat) : ExceptionTableEntry := ⟨q.1, q.2.1, q.2.2.1, q.2.2.2⟩
theorem z_ofH {g : zG} {M : zM} {args : List Value} {cs : zC} {Φ : zO → zC → Prop} {mc ms : Nat} (hp : plainName M.1.cls = true) (hh : M.2.2.2.2.2.2 ≠ []) (hn : (lg_sl args).length ≤ M.2.2.1) (k : ∀ w0, DV g M Φ w0 cs.length 0 (lv_args 0 args) [] cs mc ms) : CT g M args cs Φ mc ms := by
  intro w hI l ws sz hlt hR
  refine vx_ofWH (cc := M.2.1) (maxL := M.2.2.1) (ret := M.2.2.2.1) (hh := M.2.2.2.2.2.2) (ws' := z_gw) hp (by rw [z_ws, z_cd, if_neg hh]) ?_
  intro p e s m a below meth c s₁ B hml hv
  obtain ⟨rfl, hsz, hP, hD0, hE⟩ := hv
  subst hsz
  have hts := atoms_spec (ws := z_ws M) B.pre
  have hcw : (Cond.codeWith M.1 M.2.1 M.2.2.1 M.2.2.2.1 M.2.2.2.2.2.2).before args.toArray s = true := by
    have h9 := hts (z_cd M) List.mem_cons_self
    rw [z_cd, if_neg hh] at h9
    exact h9
  have hA : ∀ q, s.heap.size ≤ q → va_A ws s.heap.size q := fun q h => Or.inr h
  have hl := lv_entry args hn
  rw [lg_entry_eq]
  exact k w w p l e (z_rm M mc ms) s m args.toArray below meth c (va_A ws s.heap.size) mc ms s.heap [] 0 0 _ ws hI ⟨⟨B.exec, B.bytes, hml, findClass_of_methodNamed B.named, fun w h => hts w (List.mem_cons_of_mem _ h)⟩, ⟨hlt, hE, hA⟩, ⟨Nat.le_refl _, Nat.le_refl _, Nat.le_refl _, Nat.le_refl _⟩, ⟨B.returns, B.notSynchronized, vx_table (x := M.1) B hcw, (name_of_methodNamed B.named B.method).1⟩⟩ ⟨hP, hD0.self, va_S.rf, hR, hl, by omega, by omega⟩
section
variable {g : zG} {M : zM} {Φ : zO → zC → Prop} {w0 : zW} {n pc : Nat} {lv lv' : List (Nat × Value)} {st : List Value} {cs cs' : zC} {kc ks : Nat}
def zx_K (g : zG) (M : zM) (Φ : zO → zC → Prop) (w0 : zW) (n pc : Nat) (lv : List (Nat × Value)) (E : String) (cs2 : zC) (kc2 ks2 : Nat) : Prop :=
  ∃ (nm : String) (pre suf : List (Nat × Nat × Nat × Nat)) (x : Nat × Nat × Nat × Nat), M.2.2.2.2.2.2 = pre ++ x :: suf ∧ (∀ z ∈ pre, covers (zx_e z) pc = false ∨ (z.2.2.2 ≠ 0 ∧ ∃ nm2, Cond.classLink M.1.cls z.2.2.2 nm2 ∈ z_gw ∧ (E, nm2) ∈ z_ncL)) ∧ covers (zx_e x) pc = true ∧ x.2.2.2 ≠ 0 ∧ Cond.classLink M.1.cls x.2.2.2 nm ∈ z_gw ∧ Cond.castable E nm ∈ z_nw ∧ ∀ q, DV g M Φ w0 n x.2.2.1 lv [.ref q] cs2 kc2 ks2
theorem zx_tab : ∀ (pre suf : List (Nat × Nat × Nat × Nat)) (x : Nat × Nat × Nat × Nat), tableOf (pre ++ x :: suf) = pre.map zx_e ++ zx_e x :: suf.map zx_e := fun pre suf x => by
  show (pre ++ x :: suf).map zx_e = _
  rw [List.map_append]; rfl
theorem z_aftH {p : Program} {l : Launch} {e : Env} {R : Room} {s : State} {m : MethodId} {args : Array Value} {below : List Frame} {meth : Method} {c : Code} {A : Nat → Prop} {mc ms : Nat} {H : Heap} {locs : List Loc} {cells slots : Nat} {ls : Array Slot} {ws : va_W} {w : zW} {csC : zC} {is : List Nat} {As rest st0 : List Value} {a : Array Value} {Φ2 : zO → zC → Prop} {mc2 ms2 : Nat} {XX : String → State → State → Prop}
    (I : z_I w0 w n cs) (C : z_Cx g M p l R s m args meth c A mc ms) (T : z_St g M s A mc ms H locs cells slots ls ws lv w kc ks) (hs : is.map (fun i => cs[i]?) = csC.map some) (hn : is.Nodup) (h1 : mc2 ≤ kc) (h2 : ms2 ≤ ks)
    (hr : vx_Run p l e R s m args below meth c H locs cells slots mc2 ms2 (F0 m pc ls st0) rest (z_Qc g (z_PF Φ2 w csC.length) (va_A ws H.size) a) XX (va_A ws H.size)) (hXX : XX = z_XC g (z_PF Φ2 w csC.length) (va_A ws H.size))
    (kx : ∀ (E : String) (cs1 : zC), Φ2 (.inr E) cs1 → (cs1.map Prod.fst).take csC.length = csC.map Prod.fst ∧ zx_K g M Φ w0 n pc lv E (z_rep cs is cs1 ++ cs1.drop is.length) (kc - mc2) (ks - ms2))
    (kk : ∀ (v : Option Value) (cs1 : zC), Φ2 (.inl v) cs1 → (cs1.map Prod.fst).take csC.length = csC.map Prod.fst ∧ DV g M Φ w0 n (pc + 3) lv (v.toList ++ rest) (z_rep cs is cs1 ++ cs1.drop is.length) (kc - mc2) (ks - ms2)) :
    W p l e R s m args below meth c H locs cells slots (vx_MQ below (z_Qc g (z_PF Φ w0 n) A) (z_XC g (z_PF Φ w0 n) A) args s mc ms A) (F0 m pc ls st0) := by
  obtain ⟨hP, hD, hS, hR, hl, b1, b2⟩ := T
  have hAA : ∀ q, va_A ws H.size q → A q := fun q h => by
    rcases h with ⟨k, e9, h⟩ | h
    · exact hD.2 k _ h
    · exact C.2.1.2.2 q (Nat.le_trans hS.1 h)
  refine z_go hr hXX hS hAA (fun E q9 ce w1 ws1 H1 locs1 a1 a2 a3 a4 a5 a6 a7 a8 => ?_) (fun v w1 ws1 H1 locs1 a1 a2 a3 a4 a5 => ?_)
  · obtain ⟨cs1, f1, f2⟩ := a1
    obtain ⟨g1, nm, pre, suf, x, e1, e2, e3, e4, e5, e6, g2⟩ := kx E cs1 f1
    have htb : c.exceptionTable.toList = pre.map zx_e ++ zx_e x :: suf.map zx_e := by rw [C.2.2.2.2.2.1, e1]; exact zx_tab pre suf x
    refine vx_catch (own := M.1.cls) (name := nm) (E := E) C.1.2.2.2.1 (pre.map zx_e) (zx_e x) (suf.map zx_e) htb (fun z hz => ?_) e3 e4 (C.1.2.2.2.2 _ e5) ((C.2.1.2.1.2.2.2.1 _ e6).use rfl) a6 a7 a8 ?_
    · obtain ⟨z0, h0, rfl⟩ := List.mem_map.mp hz
      rcases e2 z0 h0 with h | ⟨h3, nm2, h4, h5⟩
      · exact Or.inl h
      · exact Or.inr ⟨h3, nm2, C.1.2.2.2.2 _ h4, C.2.1.2.1.2.2.2.2.2.2.2.2.2.2.1 _ h5⟩
    · exact g2 q9 w1 p l e R s m args below meth c A mc ms H1 locs1 _ _ ls ws1 (I.call hs hn f2 g1) C ⟨a3, a4.weaken (fun k q _ h => hAA q.1 h), a5, a2, hl, by omega, by omega⟩
  · obtain ⟨cs1, f1, f2⟩ := a1
    obtain ⟨g1, g2⟩ := kk v cs1 f1
    exact g2 w1 p l e R s m args below meth c A mc ms H1 locs1 _ _ ls ws1 (I.call hs hn f2 g1) C ⟨a3, a4.weaken (fun k q _ h => hAA q.1 h), a5, a2, hl, by omega, by omega⟩
def z_okH (M M2 : zM) (nA : Nat) : Prop := z_cd M2 ∈ z_gw ∧ M2.2.2.2.2.2.2 = [] ∧ (M2.1.cls ≠ "java/lang/invoke/MethodHandle" ∧ M2.1.cls ≠ "java/lang/invoke/VarHandle" ∧ (parseMethodDescriptor M2.1.desc).map (fun d => d.parameters.length) = some nA) ∧ (M2.2.2.2.2.1 + 1 ≤ M.2.2.2.2.1 ∧ 8 + (M2.2.2.1 + 11) + M2.2.2.2.2.2.1 ≤ M.2.2.2.2.2.1) ∧ Cond.initialized M2.1.cls ∈ z_gw
def z_okX (M M2 : zM) (nA : Nat) : Prop := z_cd M2 ∈ z_gw ∧ M2.2.2.2.2.2.2 ≠ [] ∧ (M2.1.cls ≠ "java/lang/invoke/MethodHandle" ∧ M2.1.cls ≠ "java/lang/invoke/VarHandle" ∧ (parseMethodDescriptor M2.1.desc).map (fun d => d.parameters.length) = some nA) ∧ (M2.2.2.2.2.1 + 1 ≤ M.2.2.2.2.1 ∧ 8 + (M2.2.2.1 + 11) + M2.2.2.2.2.2.1 ≤ M.2.2.2.2.2.1) ∧ Cond.initialized M2.1.cls ∈ z_gw ∧ M.2.2.2.2.2.2 = []
theorem z_hwX {M2 : zM} (h : M2.2.2.2.2.2.2 ≠ []) : z_ws M2 = Cond.codeWith M2.1 M2.2.1 M2.2.2.1 M2.2.2.2.1 M2.2.2.2.2.2.2 :: z_gw := by rw [z_ws, z_cd, if_neg h]
set_option maxHeartbeats 1000000 in
theorem r_callVH {M2 : zM} {idx nA : Nat} {As rest st0 : List Value} {csC : zC} {is : List Nat} {Φ2 : zO → zC → Prop} {mc2 ms2 : Nat} {q0 a ci : Nat} {fs : List Value} {F : u_T} {N : Nat} (hcl : vwCl[ci]? = some (M2.1.cls, F, N)) (hq : cs[q0]? = some (a, .inr (ci, fs))) (hl : Cond.methodLink M.1.cls idx M2.1 ∈ z_gw) (hm2 : Cond.instanceMethod M2.1 ∈ z_gw) (hm3 : Cond.selects M2.1.cls M2.1 M2.1 ∈ z_gw) (ho : z_okH M M2 nA) (hd : decode M.2.1 pc = .ok (.invokevirtual idx, 3)) (hM : CT g M2 (.ref a :: As) csC Φ2 mc2 ms2) (hA : As.length = nA) (hst : As.reverse ++ .ref a :: rest = st0) (hr : (rest.map fun v => v.category).sum ≤ 8) (hs : is.map (fun i => cs[i]?) = csC.map some) (hn : is.Nodup) (h1 : mc2 ≤ kc) (h2 : ms2 ≤ ks) (kx : ∀ (E : String) (cs1 : zC), Φ2 (.inr E) cs1 → (cs1.map Prod.fst).take csC.length = csC.map Prod.fst ∧ zx_K g M Φ w0 n pc lv E (z_rep cs is cs1 ++ cs1.drop is.length) (kc - mc2) (ks - ms2)) (kk : ∀ (v : Option Value) (cs1 : zC), Φ2 (.inl v) cs1 → (cs1.map Prod.fst).take csC.length = csC.map Prod.fst ∧ DV g M Φ w0 n (pc + 3) lv (v.toList ++ rest) (z_rep cs is cs1 ++ cs1.drop is.length) (kc - mc2) (ks - ms2)) : DV g M Φ w0 n pc lv st0 cs kc ks := by
  intro w p l e R s m args below meth c A mc ms H locs cells slots ls ws I C T
  subst hst
  obtain ⟨o1, o2, o3, o4, o5⟩ := ho
  have b1 := C.2.2.1.1
  have b2 := C.2.2.1.2.1
  have b3 := C.2.2.1.2.2.1
  have b4 := C.2.2.1.2.2.2
  have b5 := T.2.2.2.2.2.1
  have b6 := T.2.2.2.2.2.2
  have hI : z_I w w csC.length csC := I.sub hs hn
  have hm := hM w hI l ws H.size C.2.1.1 T.2.2.2.1
  obtain ⟨q9, hq9⟩ := T.2.2.2.1 a _ (I.at hq)
  refine z_aftH (As := As) I C T hs hn h1 h2 (vx_runV (As := As) ⟨C.1.1, C.1.2.1, C.1.2.2.1, C.1.2.2.2.1, C.1.2.2.2.2⟩ hm (cwV (C := M2.1.cls) nA C.1.2.2.2.2 (z_good (ws := wsV M.1.cls idx M2.1.cls M2.1 (z_ws M2)) (fun x hx => (List.mem_append.mp hx).elim (fun hx => by simp only [List.mem_cons, List.not_mem_nil, or_false] at hx; rcases hx with rfl | rfl | rfl | rfl <;> assumption) (fun hx => z_wsg o1 x hx))) (z_hw o2) rfl rfl ⟨rfl, o3⟩ ⟨Nat.le_trans o4.1 b1, Nat.le_trans o4.2 b2⟩) ⟨z_blind, va_recv C.2.1.2.1.1 T.1 hcl hq9, fun U hU hW => z_pre C.2.1.2.1 C.2.1.2.2 T.1 T.2.1 T.2.2.1 hU hW⟩ rfl hA T.2.2.2.2.1.1 rfl (lv_room hr) hd ⟨by omega, by omega⟩) rfl kx kk
set_option maxHeartbeats 1000000 in
theorem r_callSX {M2 : zM} {idx nA : Nat} {As rest st0 : List Value} {csC : zC} {is : List Nat} {Φ2 : zO → zC → Prop} {mc2 ms2 : Nat} (hl : Cond.methodLink M.1.cls idx M2.1 ∈ z_gw) (hm2 : Cond.static M2.1 ∈ z_gw) (ho : z_okX M M2 nA) (hd : decode M.2.1 pc = .ok (.invokestatic idx, 3)) (hM : CT g M2 As csC Φ2 mc2 ms2) (hA : As.length = nA) (hst : As.reverse ++ rest = st0) (hr : (rest.map fun v => v.category).sum ≤ 8) (hs : is.map (fun i => cs[i]?) = csC.map some) (hn : is.Nodup) (h1 : mc2 ≤ kc) (h2 : ms2 ≤ ks) (kx : ∀ (E : String) (cs1 : zC), Φ2 (.inr E) cs1 → (cs1.map Prod.fst).take csC.length = csC.map Prod.fst ∧ Φ (.inr E) (z_rep cs is cs1 ++ cs1.drop is.length)) (kk : ∀ (v : Option Value) (cs1 : zC), Φ2 (.inl v) cs1 → (cs1.map Prod.fst).take csC.length = csC.map Prod.fst ∧ DV g M Φ w0 n (pc + 3) lv (v.toList ++ rest) (z_rep cs is cs1 ++ cs1.drop is.length) (kc - mc2) (ks - ms2)) : DV g M Φ w0 n pc lv st0 cs kc ks := by
  intro w p l e R s m args below meth c A mc ms H locs cells slots ls ws I C T
  subst hst
  obtain ⟨o1, o2, o3, o4, o5, o6⟩ := ho
  have b1 := C.2.2.1.1
  have b2 := C.2.2.1.2.1
  have b3 := C.2.2.1.2.2.1
  have b4 := C.2.2.1.2.2.2
  have b5 := T.2.2.2.2.2.1
  have b6 := T.2.2.2.2.2.2
  have hI : z_I w w csC.length csC := I.sub hs hn
  have hm := hM w hI l ws H.size C.2.1.1 T.2.2.2.1
  refine z_aft (As := As) I C T o6 hs hn h1 h2 (vx_runSX (As := As) ⟨C.1.1, C.1.2.1, C.1.2.2.1, C.1.2.2.2.1, C.1.2.2.2.2⟩ hm (vx_cwSW nA C.1.2.2.2.2 (z_good (ws := va_wsS M.1.cls idx M2.1 (z_ws M2)) (fun x hx => (List.mem_append.mp hx).elim (fun hx => by simp only [List.mem_cons, List.not_mem_nil, or_false] at hx; rcases hx with rfl | rfl | rfl <;> assumption) (fun hx => z_wsg o1 x hx))) (z_hwX o2) rfl rfl o3 ⟨Nat.le_trans o4.1 b1, Nat.le_trans o4.2 b2⟩) ⟨z_blind, fun U hU hW => z_pre C.2.1.2.1 C.2.1.2.2 T.1 T.2.1 T.2.2.1 hU hW⟩ rfl hA T.2.2.2.2.1.1 rfl (lv_room hr) hd ⟨by omega, by omega⟩) rfl kx kk
end
