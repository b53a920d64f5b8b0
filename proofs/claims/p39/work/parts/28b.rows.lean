def z_an : Nat → String
  | 0 => "[I"
  | 1 => "[C"
  | 2 => "[Z"
  | 3 => "[J"
  | _ => "[D"
def z_ob : zE → Prop
  | .inl a => a.1 < 5 ∧ Cond.castable (z_an a.1) "java/lang/Object" ∈ z_nw
  | .inr o => ∃ r, vwCl[o.1]? = some r ∧ Cond.castable r.1 "java/lang/Object" ∈ z_nw
theorem zy_fc {g : zG} {s : State} (hK : va_K g.1 vwCl (z_ty g.2.1) s) (t : Nat) (ht : t < 5) : s.vm.findClass (z_an t) = some (g.2.1 t) := by
  match t, ht with
  | 0, _ => rw [show z_an 0 = "[" ++ FieldType.int.toString by decide]; exact (hK.2 0 (g.2.1 0, .int) rfl).2
  | 1, _ => rw [show z_an 1 = "[" ++ FieldType.char.toString by decide]; exact (hK.2 1 (g.2.1 1, .char) rfl).2
  | 2, _ => rw [show z_an 2 = "[" ++ FieldType.boolean.toString by decide]; exact (hK.2 2 (g.2.1 2, .boolean) rfl).2
  | 3, _ => rw [show z_an 3 = "[" ++ FieldType.long.toString by decide]; exact (hK.2 3 (g.2.1 3, .long) rfl).2
  | 4, _ => rw [show z_an 4 = "[" ++ FieldType.double.toString by decide]; exact (hK.2 4 (g.2.1 4, .double) rfl).2
  | t + 5, h => exact absurd h (by omega)
theorem zy_any {g : zG} {s : State} {H : Heap} {ws : va_W} {w : zW} {v : Nat} {ek : zE} (hK : va_K g.1 vwCl (z_ty g.2.1) s) (hN : ∀ x ∈ z_nw, va_Nw x s) (hP : va_P g.1 vwCl ws H) (hR : z_Rp g.2.1 w ws) (hw : w v = some ek) (ho : z_ob ek) : va_Any "java/lang/Object" s H v := by
  obtain ⟨q, hq⟩ := hR v _ hw
  match ek, ho, hq with
  | .inr (ci, fs), ho, hq =>
    obtain ⟨r, hr, hc⟩ := ho
    refine va_rAny hK hP hq hr (fun comp c0 h1 h2 => ?_)
    obtain ⟨c3, t0, f1, f2, f3⟩ := Cond.castable_spec (va_Nw.use (A := #[]) rfl (hN _ hc))
    cases h2.symm.trans f1
    cases h1.symm.trans f2
    exact f3
  | .inl (t, x), ho, hq =>
    obtain ⟨ht, hc⟩ := ho
    have hf := zy_fc hK t ht
    have h0 := hP q _ hq
    have hvm0 : (vp_cell (g.2.1 t) x).vm = .none := by
      obtain ⟨n, f | f | f | f | f⟩ := x <;> rfl
    have hcl0 : (vp_cell (g.2.1 t) x).cls = g.2.1 t := by
      obtain ⟨n, f | f | f | f | f⟩ := x <;> rfl
    obtain ⟨kC, hkC, -⟩ := Vm.findClass_spec hf
    refine ⟨vp_cell (g.2.1 t) x, h0, by rw [hvm0]; rfl, ⟨kC, by rw [hcl0]; exact hkC⟩, fun comp h1 => ?_⟩
    obtain ⟨c3, t0, f1, f2, f3⟩ := Cond.castable_spec (va_Nw.use (A := #[]) rfl (hN _ hc))
    cases hf.symm.trans f1
    cases h1.symm.trans f2
    rw [hcl0]
    exact f3
section
variable {g : zG} {M : zM} {Φ : zO → zC → Prop} {w0 : zW} {n pc : Nat} {lv lv' : List (Nat × Value)} {st : List Value} {cs cs' : zC} {kc ks : Nat}
theorem r_aast {q0 qk a v N : Nat} {f f' : Nat → Option Nat} {ek : zE} {i : Int32} (hd : decode M.2.1 pc = .ok (.aastore, 1)) (hc : cs[q0]? = some (a, .inl (5, N, .inr (.inr (.inr (.inr f)))))) (hk : cs[qk]? = some (v, ek)) (ho : z_ob ek) (hin : vp_in i N) (hf : va_up f i.toNatClampNeg (some v) = f') (hcs : cs.set q0 (a, .inl (5, N, .inr (.inr (.inr (.inr f'))))) = cs') (k : DV g M Φ w0 n (pc + 1) lv st cs' kc ks) : DV g M Φ w0 n pc lv (.ref v :: .int i :: .ref a :: st) cs kc ks := by
  intro w p l e R s m args below meth c A mc ms H locs cells slots ls ws I C T
  subst hcs
  subst hf
  obtain ⟨q, hq⟩ := T.2.2.2.1 a _ (I.at hc)
  exact va_astqM C.1.1 C.1.2.1 C.2.1.2.1.1 T.1 T.2.1 T.2.2.1 q 5 hq rfl (zy_any C.2.1.2.1.1 C.2.1.2.1.2.2.2.1 T.1 T.2.2.2.1 (I.at hk) ho) hin hd (fun H1 locs1 a1 a2 a3 => k _ p l e R s m args below meth c A mc ms H1 locs1 cells slots ls _ (I.set hc) C ⟨a1, a2, a3, T.2.2.2.1.set (e := .inl (5, N, .inr (.inr (.inr (.inr (va_up f i.toNatClampNeg (some v))))))) T.2.1 hq, T.2.2.2.2⟩)
theorem r_acmp_eq {x y : Nat} {off : Int} {tgt : Nat} (hd : decode M.2.1 pc = .ok (.if_acmp .eq off, 3)) (ht : (pc : Int) + off = (tgt : Int)) (kt : x = y → DV g M Φ w0 n tgt lv st cs kc ks) (kf : ¬ x = y → DV g M Φ w0 n (pc + 3) lv st cs kc ks) : DV g M Φ w0 n pc lv (.ref y :: .ref x :: st) cs kc ks :=
  fun w p l e R s m args below meth c A mc ms H locs cells slots ls ws I C T => lv_acmp_eq (rx := some x) (ry := some y) C.1.1 C.1.2.1 hd ht (fun h => kt (Option.some.inj h) w p l e R s m args below meth c A mc ms H locs cells slots ls ws I C T) (fun h => kf (fun e9 => h (congrArg some e9)) w p l e R s m args below meth c A mc ms H locs cells slots ls ws I C T)
theorem r_astore_nN {q : Fin 4} {i : Nat} (hd : decode M.2.1 pc = .ok (.astore_n q, 1)) (hi : (q : Nat) = i) (hn : i < M.2.2.1) (hl : (i, Value.null) :: lv.filter (fun q => !(q.1 == i) && !(q.1 + 1 == i && q.2.category == 2)) = lv') (k : DV g M Φ w0 n (pc + 1) lv' st cs kc ks) : DV g M Φ w0 n pc lv (.null :: st) cs kc ks :=
  fun w p l e R s m args below meth c A mc ms H locs cells slots ls ws I C T => lv_astore_nN C.1.1 C.1.2.1 hd hi T.2.2.2.2.1 hn hl (fun ls9 hl9 => k w p l e R s m args below meth c A mc ms H locs cells slots ls9 ws I C ⟨T.1, T.2.1, T.2.2.1, T.2.2.2.1, hl9, T.2.2.2.2.2⟩)
theorem r_dupx1 {va vb : Value} (hd : decode M.2.1 pc = .ok (.dup_x1, 1)) (h1 : va.category = 1) (h2 : vb.category = 1) (k : DV g M Φ w0 n (pc + 1) lv (va :: vb :: va :: st) cs kc ks) : DV g M Φ w0 n pc lv (va :: vb :: st) cs kc ks :=
  fun w p l e R s m args below meth c A mc ms H locs cells slots ls ws I C T => lv_dup_x1 C.1.1 C.1.2.1 hd h1 h2 (k w p l e R s m args below meth c A mc ms H locs cells slots ls ws I C T)
theorem r_anewa {idx : Nat} {i : Int32} {N : Nat} (hl : Cond.classLink M.1.cls idx "java/lang/Object" ∈ z_gw) (hd : decode M.2.1 pc = .ok (.anewarray idx, 3)) (hn : ¬ i < 0) (hN : i.toNatClampNeg = N) (hb : N ≤ 65536) (h1 : 1 ≤ kc) (h2 : N ≤ ks) (k : ∀ q : Nat, DV g M Φ w0 n (pc + 3) lv (.ref q :: st) (cs ++ [(q, .inl (5, N, .inr (.inr (.inr (.inr (fun _ => none))))))]) (kc - 1) (ks - N)) : DV g M Φ w0 n pc lv (.int i :: st) cs kc ks := by
  intro w p l e R s m args below meth c A mc ms H locs cells slots ls ws I C T
  have b1 := C.2.2.1.2.2.1
  have b2 := C.2.2.1.2.2.2
  have b3 := T.2.2.2.2.2.1
  have b4 := T.2.2.2.2.2.2
  refine va_newq C.1.1 C.1.2.1 C.1.2.2.2.1 (C.1.2.2.2.2 _ hl) C.2.1.2.1.2.2.2.2.2.2.2.2.2.2.2.1 C.2.1.2.1.1 T.1 T.2.1 T.2.2.1 C.2.1.2.2 hn hN (by omega) (by omega) (by omega) hd (fun q cA H1 c0 c1 c2 c3 => ?_)
  obtain ⟨-, -, -, -, -, e1⟩ := (c0.2 6 (cA, .object "java/lang/Object") rfl).2
  obtain ⟨-, -, -, -, -, e2⟩ := (C.2.1.2.1.1.2 5 (g.2.1 5, .object "java/lang/Object") rfl).2
  have e3 : cA = g.2.1 5 := Option.some.inj (e1.symm.trans e2)
  subst e3
  exact k q (z_up w q (.inl (5, N, .inr (.inr (.inr (.inr (fun _ => none))))))) p l e R s m args below meth c A mc ms H1 locs (cells + 1) (slots + N) ls _ (I.push (T.2.2.2.1.fresh c2)) C ⟨c1, c2, c3, T.2.2.2.1.push (e := .inl (5, N, .inr (.inr (.inr (.inr (fun _ => none)))))), T.2.2.2.2.1, by omega, by omega⟩
end
theorem cst_0 : Cond.castable (z_an 0) "java/lang/Object" ∈ z_nw := z_mk9 (i := 111) rfl (by decide +kernel)
theorem cst_1 : Cond.castable (z_an 1) "java/lang/Object" ∈ z_nw := z_mk9 (i := 109) rfl (by decide +kernel)
theorem cst_3 : Cond.castable (z_an 3) "java/lang/Object" ∈ z_nw := z_mk9 (i := 112) rfl (by decide +kernel)
