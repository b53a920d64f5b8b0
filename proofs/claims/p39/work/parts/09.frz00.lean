theorem prow_t {k : Int32} {b j : Nat} {s : (Nat → Int32) × Nat} (h : (prow k b s j).1 (b + j) = k) : prow k b s (j + 1) = prow k b s j := if_pos h
theorem prow_f {k : Int32} {b j : Nat} {s : (Nat → Int32) × Nat} (h : ¬ (prow k b s j).1 (b + j) = k) : prow k b s (j + 1) = (upd (prow k b s j).1 (b + j) k, (prow k b s j).2 + 1) := if_neg h
theorem z_kind_of {k : Int32} (h : 0 ≤ z_ix 0 k) : z_kind k := by
  unfold z_ix at h
  have hz : z_by 0 = [46, 99, 114, 103, 111, 107] := rfl
  rw [hz] at h
  simp only [List.findIdx?_cons, List.findIdx?_nil] at h
  unfold z_kind
  by_cases h1 : (46 : Int32) = k
  · exact Or.inl h1.symm
  by_cases h2 : (99 : Int32) = k
  · exact Or.inr (Or.inl h2.symm)
  by_cases h3 : (114 : Int32) = k
  · exact Or.inr (Or.inr (Or.inl h3.symm))
  by_cases h4 : (103 : Int32) = k
  · exact Or.inr (Or.inr (Or.inr (Or.inl h4.symm)))
  by_cases h5 : (111 : Int32) = k
  · exact Or.inr (Or.inr (Or.inr (Or.inr (Or.inl h5.symm))))
  by_cases h6 : (107 : Int32) = k
  · exact Or.inr (Or.inr (Or.inr (Or.inr (Or.inr h6.symm))))
  exfalso
  simp [h1, h2, h3, h4, h5, h6] at h
def z_dr (k x y w h : Int32) : Option (Nat × Nat × Nat × Nat) := if 0 ≤ z_ix 0 k ∧ (0 ≤ x ∧ x < 12 ∧ 0 ≤ y ∧ y < 9) ∧ 1 ≤ w ∧ w ≤ 12 - x ∧ 1 ≤ h ∧ h ≤ 9 - y then some (x.toNatClampNeg, y.toNatClampNeg, w.toNatClampNeg, h.toNatClampNeg) else none
theorem z_dr_in {k x y w h : Int32} (q : 0 ≤ z_ix 0 k ∧ (0 ≤ x ∧ x < 12 ∧ 0 ≤ y ∧ y < 9) ∧ 1 ≤ w ∧ w ≤ 12 - x ∧ 1 ≤ h ∧ h ≤ 9 - y) : ∃ a b u v : Nat, a + u ≤ 12 ∧ b + v ≤ 9 ∧ a < 12 ∧ b < 9 ∧ x = nI a ∧ y = nI b ∧ w = nI u ∧ h = nI v ∧ z_kind k ∧ z_dr k x y w h = some (a, b, u, v) := by
  have q0 := q
  obtain ⟨q1, q2, q3, q4, q5, q6⟩ := q
  obtain ⟨a, b, ha, hb, rfl, rfl, -⟩ := z_cl_in q2
  have w0 : 0 ≤ w := Int32.le_trans (by decide) q3
  have h0 : 0 ≤ h := Int32.le_trans (by decide) q5
  have e1 := z_nn w0
  have e2 := z_nn h0
  have f1 : w.toNatClampNeg < 2 ^ 31 := by have := fb_rng w; have := z_clamp w0; omega
  have f2 : h.toNatClampNeg < 2 ^ 31 := by have := fb_rng h; have := z_clamp h0; omega
  rw [e1, show (12 : Int32) = nI 12 from rfl, pk_sub (by omega)] at q4
  rw [e2, show (9 : Int32) = nI 9 from rfl, pk_sub (by omega)] at q6
  have g1 := z_le (by omega) f1 q4
  have g2 := z_le (by omega) f2 q6
  refine ⟨a, b, _, _, by omega, by omega, ha, hb, rfl, rfl, e1, e2, z_kind_of q1, ?_⟩
  rw [z_dr, if_pos q0, nI_clamp (by omega), nI_clamp (by omega)]
theorem oI_pos {o : Option Nat} (h : 0 ≤ oI o) : ∃ k, o = some k := by
  cases o with
  | none => exact absurd h (by decide)
  | some k => exact ⟨k, rfl⟩
theorem oI_neg {c s : Nat} (hc : c < 108) (h : ¬ 0 ≤ oI (bs c s)) : bs c s = none := by
  cases e : bs c s with
  | none => rfl
  | some k => rw [e] at h; exact absurd (nI_pos' (by have := bs_lt hc e; omega)) h
theorem bgS_t {ce fi : Nat → Int32} {h : Int32} {s0 : zS4} {i : Nat} (q : fi i < 0) : bgS ce fi h s0 (i + 1) = (upd (bgS ce fi h s0 i).1 i 20, upd (bgS ce fi h s0 i).2.1 i 300, upd (bgS ce fi h s0 i).2.2.1 i (-1), (bgS ce fi h s0 i).2.2.2) := if_pos q
theorem bgS_f {ce fi : Nat → Int32} {h : Int32} {s0 : zS4} {i : Nat} (q : ¬ fi i < 0) : bgS ce fi h s0 (i + 1) = bhS i (z_hwf h (fi i)) 0 ((bgS ce fi h s0 i).1, upd (bgS ce fi h s0 i).2.1 i 300, upd (bgS ce fi h s0 i).2.2.1 i 401, (bgS ce fi h s0 i).2.2.2 + 1) := if_neg q
theorem toS_x {ce fi f0 : Nat → Int32} {sd i : Nat} {o : Option Nat} (h : bs i sd = o) : toS ce fi sd f0 (i + 1) = upd (toS ce fi sd f0 i) i (o.elim 0 (fun k => pbS ce fi i k)) := by subst h; rfl
theorem z_eqn {a b : Nat} (ha : a < 2 ^ 31) (hb : b < 2 ^ 31) (h : nI a = nI b) : a = b := (nI_eq ha hb).mp h
theorem z_nen {a b : Nat} (ha : a < 2 ^ 31) (hb : b < 2 ^ 31) (h : ¬ nI a = nI b) : ¬ a = b := fun e => h (by rw [e])
abbrev M_Pa_paint : zM := (⟨"Ironpour$Pattern", "paint", "(CIIII)I"⟩, prog_10_method_2_code, 10, (Option.some FieldType.int), 2, 40, [])
theorem d_Pa_paint_33 : decode prog_10_method_2_code 33 = .ok (.iload 8, 2) := zo_21 (d := 8) (zd_b zq_prog_10_method_2_code_1 1 rfl rfl rfl) (zd_b zq_prog_10_method_2_code_1 2 rfl rfl rfl)
theorem d_Pa_paint_35 : decode prog_10_method_2_code 35 = .ok (.iload_n 2, 1) := zo_28 (zd_b zq_prog_10_method_2_code_1 3 rfl rfl rfl)
theorem d_Pa_paint_36 : decode prog_10_method_2_code 36 = .ok (.iload 4, 2) := zo_21 (d := 4) (zd_b zq_prog_10_method_2_code_1 4 rfl rfl rfl) (zd_b zq_prog_10_method_2_code_1 5 rfl rfl rfl)
theorem d_Pa_paint_38 : decode prog_10_method_2_code 38 = .ok (.iadd, 1) := zo_96 (zd_b zq_prog_10_method_2_code_1 6 rfl rfl rfl)
theorem d_Pa_paint_39 : decode prog_10_method_2_code 39 = .ok (.if_icmp .ge 48, 3) := zo_162 (d := 0) (e := 48) (zd_b zq_prog_10_method_2_code_1 7 rfl rfl rfl) (zd_b zq_prog_10_method_2_code_1 8 rfl rfl rfl) (zd_b zq_prog_10_method_2_code_1 9 rfl rfl rfl) (by decide +kernel)
theorem d_Pa_paint_42 : decode prog_10_method_2_code 42 = .ok (.iload 8, 2) := zo_21 (d := 8) (zd_b zq_prog_10_method_2_code_1 10 rfl rfl rfl) (zd_b zq_prog_10_method_2_code_1 11 rfl rfl rfl)
theorem d_Pa_paint_44 : decode prog_10_method_2_code 44 = .ok (.bipush 12, 2) := zo_16 (d := 12) (zd_b zq_prog_10_method_2_code_1 12 rfl rfl rfl) (zd_b zq_prog_10_method_2_code_1 13 rfl rfl rfl) (by decide +kernel)
theorem d_Pa_paint_46 : decode prog_10_method_2_code 46 = .ok (.if_icmp .ge 41, 3) := zo_162 (d := 0) (e := 41) (zd_b zq_prog_10_method_2_code_1 14 rfl rfl rfl) (zd_b zq_prog_10_method_2_code_1 15 rfl rfl rfl) (zd_b zq_prog_10_method_2_code_1 16 rfl rfl rfl) (by decide +kernel)
theorem d_Pa_paint_49 : decode prog_10_method_2_code 49 = .ok (.iload 7, 2) := zo_21 (d := 7) (zd_b zq_prog_10_method_2_code_1 17 rfl rfl rfl) (zd_b zq_prog_10_method_2_code_1 18 rfl rfl rfl)
theorem d_Pa_paint_51 : decode prog_10_method_2_code 51 = .ok (.bipush 12, 2) := zo_16 (d := 12) (zd_b zq_prog_10_method_2_code_1 19 rfl rfl rfl) (zd_b zq_prog_10_method_2_code_1 20 rfl rfl rfl) (by decide +kernel)
theorem d_Pa_paint_53 : decode prog_10_method_2_code 53 = .ok (.imul, 1) := zo_104 (zd_b zq_prog_10_method_2_code_1 21 rfl rfl rfl)
theorem d_Pa_paint_54 : decode prog_10_method_2_code 54 = .ok (.iload 8, 2) := zo_21 (d := 8) (zd_b zq_prog_10_method_2_code_1 22 rfl rfl rfl) (zd_b zq_prog_10_method_2_code_1 23 rfl rfl rfl)
theorem d_Pa_paint_56 : decode prog_10_method_2_code 56 = .ok (.iadd, 1) := zo_96 (zd_b zq_prog_10_method_2_code_1 24 rfl rfl rfl)
theorem d_Pa_paint_57 : decode prog_10_method_2_code 57 = .ok (.istore 9, 2) := zo_54 (d := 9) (zd_b zq_prog_10_method_2_code_1 25 rfl rfl rfl) (zd_b zq_prog_10_method_2_code_1 26 rfl rfl rfl)
theorem d_Pa_paint_59 : decode prog_10_method_2_code 59 = .ok (.aload_n 0, 1) := zo_42 (zd_b zq_prog_10_method_2_code_1 27 rfl rfl rfl)
theorem d_Pa_paint_60 : decode prog_10_method_2_code 60 = .ok (.getfield 9, 3) := zo_180 (d := 0) (e := 9) (zd_b zq_prog_10_method_2_code_1 28 rfl rfl rfl) (zd_b zq_prog_10_method_2_code_1 29 rfl rfl rfl) (zd_b zq_prog_10_method_2_code_1 30 rfl rfl rfl)
theorem d_Pa_paint_63 : decode prog_10_method_2_code 63 = .ok (.iload 9, 2) := zo_21 (d := 9) (zd_b zq_prog_10_method_2_code_1 31 rfl rfl rfl) (zd_b zq_prog_10_method_2_code_2 0 rfl rfl rfl)
theorem d_Pa_paint_65 : decode prog_10_method_2_code 65 = .ok (.caload, 1) := zo_52 (zd_b zq_prog_10_method_2_code_2 1 rfl rfl rfl)
theorem d_Pa_paint_66 : decode prog_10_method_2_code 66 = .ok (.iload_n 1, 1) := zo_27 (zd_b zq_prog_10_method_2_code_2 2 rfl rfl rfl)
theorem d_Pa_paint_67 : decode prog_10_method_2_code 67 = .ok (.if_icmp .eq 14, 3) := zo_159 (d := 0) (e := 14) (zd_b zq_prog_10_method_2_code_2 3 rfl rfl rfl) (zd_b zq_prog_10_method_2_code_2 4 rfl rfl rfl) (zd_b zq_prog_10_method_2_code_2 5 rfl rfl rfl) (by decide +kernel)
theorem d_Pa_paint_81 : decode prog_10_method_2_code 81 = .ok (.iinc 8 1, 3) := by decide +kernel
theorem d_Pa_paint_84 : decode prog_10_method_2_code 84 = .ok (.goto (-51), 3) := zo_167 (d := 255) (e := 205) (zd_b zq_prog_10_method_2_code_2 20 rfl rfl rfl) (zd_b zq_prog_10_method_2_code_2 21 rfl rfl rfl) (zd_b zq_prog_10_method_2_code_2 22 rfl rfl rfl) (by decide +kernel)
theorem d_Pa_paint_70 : decode prog_10_method_2_code 70 = .ok (.aload_n 0, 1) := zo_42 (zd_b zq_prog_10_method_2_code_2 6 rfl rfl rfl)
theorem d_Pa_paint_71 : decode prog_10_method_2_code 71 = .ok (.getfield 9, 3) := zo_180 (d := 0) (e := 9) (zd_b zq_prog_10_method_2_code_2 7 rfl rfl rfl) (zd_b zq_prog_10_method_2_code_2 8 rfl rfl rfl) (zd_b zq_prog_10_method_2_code_2 9 rfl rfl rfl)
theorem d_Pa_paint_74 : decode prog_10_method_2_code 74 = .ok (.iload 9, 2) := zo_21 (d := 9) (zd_b zq_prog_10_method_2_code_2 10 rfl rfl rfl) (zd_b zq_prog_10_method_2_code_2 11 rfl rfl rfl)
theorem d_Pa_paint_76 : decode prog_10_method_2_code 76 = .ok (.iload_n 1, 1) := zo_27 (zd_b zq_prog_10_method_2_code_2 12 rfl rfl rfl)
theorem d_Pa_paint_77 : decode prog_10_method_2_code 77 = .ok (.castore, 1) := zo_85 (zd_b zq_prog_10_method_2_code_2 13 rfl rfl rfl)
theorem d_Pa_paint_78 : decode prog_10_method_2_code 78 = .ok (.iinc 6 1, 3) := by decide +kernel
theorem d_Pa_paint_10 : decode prog_10_method_2_code 10 = .ok (.iload 7, 2) := zo_21 (d := 7) (zd_b zq_prog_10_method_2_code_0 10 rfl rfl rfl) (zd_b zq_prog_10_method_2_code_0 11 rfl rfl rfl)
theorem d_Pa_paint_12 : decode prog_10_method_2_code 12 = .ok (.iload_n 3, 1) := zo_29 (zd_b zq_prog_10_method_2_code_0 12 rfl rfl rfl)
theorem d_Pa_paint_13 : decode prog_10_method_2_code 13 = .ok (.iload 5, 2) := zo_21 (d := 5) (zd_b zq_prog_10_method_2_code_0 13 rfl rfl rfl) (zd_b zq_prog_10_method_2_code_0 14 rfl rfl rfl)
theorem d_Pa_paint_15 : decode prog_10_method_2_code 15 = .ok (.iadd, 1) := zo_96 (zd_b zq_prog_10_method_2_code_0 15 rfl rfl rfl)
theorem d_Pa_paint_16 : decode prog_10_method_2_code 16 = .ok (.if_icmp .ge 77, 3) := zo_162 (d := 0) (e := 77) (zd_b zq_prog_10_method_2_code_0 16 rfl rfl rfl) (zd_b zq_prog_10_method_2_code_0 17 rfl rfl rfl) (zd_b zq_prog_10_method_2_code_0 18 rfl rfl rfl) (by decide +kernel)
theorem d_Pa_paint_93 : decode prog_10_method_2_code 93 = .ok (.iload 6, 2) := zo_21 (d := 6) (zd_b zq_prog_10_method_2_code_2 29 rfl rfl rfl) (zd_b zq_prog_10_method_2_code_2 30 rfl rfl rfl)
theorem d_Pa_paint_95 : decode prog_10_method_2_code 95 = .ok (.ireturn, 1) := zo_172 (zd_b zq_prog_10_method_2_code_2 31 rfl rfl rfl)
theorem d_Pa_paint_19 : decode prog_10_method_2_code 19 = .ok (.iload 7, 2) := zo_21 (d := 7) (zd_b zq_prog_10_method_2_code_0 19 rfl rfl rfl) (zd_b zq_prog_10_method_2_code_0 20 rfl rfl rfl)
theorem d_Pa_paint_21 : decode prog_10_method_2_code 21 = .ok (.bipush 9, 2) := zo_16 (d := 9) (zd_b zq_prog_10_method_2_code_0 21 rfl rfl rfl) (zd_b zq_prog_10_method_2_code_0 22 rfl rfl rfl) (by decide +kernel)
theorem d_Pa_paint_23 : decode prog_10_method_2_code 23 = .ok (.if_icmp .ge 70, 3) := zo_162 (d := 0) (e := 70) (zd_b zq_prog_10_method_2_code_0 23 rfl rfl rfl) (zd_b zq_prog_10_method_2_code_0 24 rfl rfl rfl) (zd_b zq_prog_10_method_2_code_0 25 rfl rfl rfl) (by decide +kernel)
theorem d_Pa_paint_26 : decode prog_10_method_2_code 26 = .ok (.iload_n 2, 1) := zo_28 (zd_b zq_prog_10_method_2_code_0 26 rfl rfl rfl)
theorem d_Pa_paint_27 : decode prog_10_method_2_code 27 = .ok (.iconst 0, 1) := zo_3 (zd_b zq_prog_10_method_2_code_0 27 rfl rfl rfl)
theorem d_Pa_paint_28 : decode prog_10_method_2_code 28 = .ok (.invokestatic 27, 3) := zo_184 (d := 0) (e := 27) (zd_b zq_prog_10_method_2_code_0 28 rfl rfl rfl) (zd_b zq_prog_10_method_2_code_0 29 rfl rfl rfl) (zd_b zq_prog_10_method_2_code_0 30 rfl rfl rfl)
theorem ln_Pa_27 : Cond.methodLink "Ironpour$Pattern" 27 Lib.Math.max.name ∈ z_gw := z_mj3 (i := 221) rfl (by decide +kernel)
theorem d_Pa_paint_31 : decode prog_10_method_2_code 31 = .ok (.istore 8, 2) := zo_54 (d := 8) (zd_b zq_prog_10_method_2_code_0 31 rfl rfl rfl) (zd_b zq_prog_10_method_2_code_1 0 rfl rfl rfl)
theorem d_Pa_paint_87 : decode prog_10_method_2_code 87 = .ok (.iinc 7 1, 3) := by decide +kernel
theorem d_Pa_paint_90 : decode prog_10_method_2_code 90 = .ok (.goto (-80), 3) := zo_167 (d := 255) (e := 176) (zd_b zq_prog_10_method_2_code_2 26 rfl rfl rfl) (zd_b zq_prog_10_method_2_code_2 27 rfl rfl rfl) (zd_b zq_prog_10_method_2_code_2 28 rfl rfl rfl) (by decide +kernel)
theorem d_Pa_paint_0 : decode prog_10_method_2_code 0 = .ok (.iconst 0, 1) := zo_3 (zd_b zq_prog_10_method_2_code_0 0 rfl rfl rfl)
theorem d_Pa_paint_1 : decode prog_10_method_2_code 1 = .ok (.istore 6, 2) := zo_54 (d := 6) (zd_b zq_prog_10_method_2_code_0 1 rfl rfl rfl) (zd_b zq_prog_10_method_2_code_0 2 rfl rfl rfl)
theorem d_Pa_paint_3 : decode prog_10_method_2_code 3 = .ok (.iload_n 3, 1) := zo_29 (zd_b zq_prog_10_method_2_code_0 3 rfl rfl rfl)
theorem d_Pa_paint_4 : decode prog_10_method_2_code 4 = .ok (.iconst 0, 1) := zo_3 (zd_b zq_prog_10_method_2_code_0 4 rfl rfl rfl)
theorem d_Pa_paint_5 : decode prog_10_method_2_code 5 = .ok (.invokestatic 27, 3) := zo_184 (d := 0) (e := 27) (zd_b zq_prog_10_method_2_code_0 5 rfl rfl rfl) (zd_b zq_prog_10_method_2_code_0 6 rfl rfl rfl) (zd_b zq_prog_10_method_2_code_0 7 rfl rfl rfl)
theorem d_Pa_paint_8 : decode prog_10_method_2_code 8 = .ok (.istore 7, 2) := zo_54 (d := 7) (zd_b zq_prog_10_method_2_code_0 8 rfl rfl rfl) (zd_b zq_prog_10_method_2_code_0 9 rfl rfl rfl)
set_option maxHeartbeats 4000000 in
set_option maxRecDepth 100000 in
theorem L_Pa_paint_33 (g : zG) (a a1 a2 a3 : Nat) (f sn qu : Nat → Int32) (part : Int32) (k : Int32) (hk : z_kind k) (x y u v : Nat) (hx : x + u ≤ 12) (hy : y + v ≤ 9) (w0 : zW) (n : Nat) (i : Nat) (hi : i < v) (K : DV g M_Pa_paint (fun o cs1 => o = .inl (some (.int (nI (prect k x y u (f, 0) v).2))) ∧ cs1 = [(a, .inr (8, [.ref a1, .ref a2, .ref a3, .int part])), (a1, .inl (1, 108, .inl ((prect k x y u (f, 0) v).1))), (a2, .inl (2, 108, .inl sn)), (a3, .inl (0, 108, .inl qu))]) w0 n 87 [(8, .int (nI (x + u))), (6, .int (nI (prow k (12 * (y + i) + x) (prect k x y u (f, 0) i) u).2)), (7, .int (nI (y + i))), (5, .int (nI v)), (4, .int (nI u)), (3, .int (nI y)), (2, .int (nI x)), (1, .int k), (0, .ref a)] [] [(a, .inr (8, [.ref a1, .ref a2, .ref a3, .int part])), (a1, .inl (1, 108, .inl ((prow k (12 * (y + i) + x) (prect k x y u (f, 0) i) u).1))), (a2, .inl (2, 108, .inl sn)), (a3, .inl (0, 108, .inl qu))] 0 0) : ∀ (d j : Nat), j ≤ u → u < j + d → DV g M_Pa_paint (fun o cs1 => o = .inl (some (.int (nI (prect k x y u (f, 0) v).2))) ∧ cs1 = [(a, .inr (8, [.ref a1, .ref a2, .ref a3, .int part])), (a1, .inl (1, 108, .inl ((prect k x y u (f, 0) v).1))), (a2, .inl (2, 108, .inl sn)), (a3, .inl (0, 108, .inl qu))]) w0 n 33 [(8, .int (nI (x + j))), (6, .int (nI (prow k (12 * (y + i) + x) (prect k x y u (f, 0) i) j).2)), (7, .int (nI (y + i))), (5, .int (nI v)), (4, .int (nI u)), (3, .int (nI y)), (2, .int (nI x)), (1, .int k), (0, .ref a)] [] [(a, .inr (8, [.ref a1, .ref a2, .ref a3, .int part])), (a1, .inl (1, 108, .inl ((prow k (12 * (y + i) + x) (prect k x y u (f, 0) i) j).1))), (a2, .inl (2, 108, .inl sn)), (a3, .inl (0, 108, .inl qu))] 0 0 := by
  intro d
  induction d with
  | zero => intro j h1 h2 ; exact absurd h2 (by omega)
  | succ d ih =>
    intro j h1 h2 
    refine r_iload d_Pa_paint_33 0 rfl ?_
    refine r_iload_n d_Pa_paint_35 rfl 6 rfl ?_
    refine r_iload d_Pa_paint_36 4 rfl ?_
    refine r_iadd d_Pa_paint_38 (v := nI (x + u)) (nI_add _ _) ?_
    refine r_icmp_ge (tgt := 87) d_Pa_paint_39 (by decide) (fun c_39 => ?_) (fun c_39 => ?_)
    · have hn := z_le (a := x + u) (by omega) (by omega) c_39
      have hv : j = u := by omega
      subst hv
      exact K
    · have hn := z_nle (a := x + u) (by omega) (by omega) c_39
      refine r_iload d_Pa_paint_42 0 rfl ?_
      refine r_bipush d_Pa_paint_44 (v := 12) (by decide) ?_
      refine r_icmp_ge (tgt := 87) d_Pa_paint_46 (by decide) (fun c_46 => ?_) (fun c_46 => ?_)
      · exact absurd (z_le (a := 12) (by omega) (by decide) c_46) (by omega)
      · refine r_iload d_Pa_paint_49 2 rfl ?_
        refine r_bipush d_Pa_paint_51 (v := 12) (by decide) ?_
        refine r_imul d_Pa_paint_53 (v := nI ((y + i) * 12)) (pk_mul _ _) ?_
        refine r_iload d_Pa_paint_54 0 rfl ?_
        refine r_iadd d_Pa_paint_56 (v := nI (12 * (y + i) + x + j)) (by rw [nI_add]; congr 1; omega) ?_
        refine r_istore (lv' := [(9, .int (nI (12 * (y + i) + x + j))), (8, .int (nI (x + j))), (6, .int (nI (prow k (12 * (y + i) + x) (prect k x y u (f, 0) i) j).2)), (7, .int (nI (y + i))), (5, .int (nI v)), (4, .int (nI u)), (3, .int (nI y)), (2, .int (nI x)), (1, .int k), (0, .ref a)]) d_Pa_paint_57 (by decide) rfl ?_
        refine r_aload_n d_Pa_paint_59 rfl 9 rfl ?_
        refine r_get fs_Pa_9 d_Pa_paint_60 (q0 := 0) rfl rfl ?_
        refine r_iload d_Pa_paint_63 0 rfl ?_
        refine r_cald d_Pa_paint_65 (q0 := 1) rfl (vp_in_nI (by omega) (by omega)) (v := ((prow k (12 * (y + i) + x) (prect k x y u (f, 0) i) j).1) (12 * (y + i) + x + j)) (by rw [nI_clamp (by omega)]) ?_
        refine r_iload_n d_Pa_paint_66 rfl 8 rfl ?_
        refine r_icmp_eq (tgt := 81) d_Pa_paint_67 (by decide) (fun c_67 => ?_) (fun c_67 => ?_)
        · refine r_iinc (lv' := [(8, .int (nI ((x + j) + 1))), (9, .int (nI (12 * (y + i) + x + j))), (6, .int (nI (prow k (12 * (y + i) + x) (prect k x y u (f, 0) i) j).2)), (7, .int (nI (y + i))), (5, .int (nI v)), (4, .int (nI u)), (3, .int (nI y)), (2, .int (nI x)), (1, .int k), (0, .ref a)]) (v := nI ((x + j) + 1)) d_Pa_paint_81 (j := 1) rfl (nI_add _ _) (by decide) rfl ?_
          refine r_goto (tgt := 33) d_Pa_paint_84 (by decide) ?_
          refine r_lv (lv' := [(8, .int (nI ((x + j) + 1))), (6, .int (nI (prow k (12 * (y + i) + x) (prect k x y u (f, 0) i) j).2)), (7, .int (nI (y + i))), (5, .int (nI v)), (4, .int (nI u)), (3, .int (nI y)), (2, .int (nI x)), (1, .int k), (0, .ref a)]) [0, 2, 3, 4, 5, 6, 7, 8, 9] rfl ?_
          refine r_lvE (lv2 := [(8, .int (nI (x + (j + 1)))), (6, .int (nI (prow k (12 * (y + i) + x) (prect k x y u (f, 0) i) (j + 1)).2)), (7, .int (nI (y + i))), (5, .int (nI v)), (4, .int (nI u)), (3, .int (nI y)), (2, .int (nI x)), (1, .int k), (0, .ref a)]) (by first | (rw [prow_t c_67] <;> rfl) | (rw [prow_f c_67] <;> rfl)) ?_
          refine r_cs (cs2 := [(a, .inr (8, [.ref a1, .ref a2, .ref a3, .int part])), (a1, .inl (1, 108, .inl ((prow k (12 * (y + i) + x) (prect k x y u (f, 0) i) (j + 1)).1))), (a2, .inl (2, 108, .inl sn)), (a3, .inl (0, 108, .inl qu))]) (by first | (rw [prow_t c_67] <;> rfl) | (rw [prow_f c_67] <;> rfl)) ?_
          exact ih (j + 1) (by omega) (by omega)
        · refine r_aload_n d_Pa_paint_70 rfl 9 rfl ?_
          refine r_get fs_Pa_9 d_Pa_paint_71 (q0 := 0) rfl rfl ?_
          refine r_iload d_Pa_paint_74 0 rfl ?_
          refine r_iload_n d_Pa_paint_76 rfl 8 rfl ?_
          refine r_cast d_Pa_paint_77 (q0 := 1) rfl (vp_in_nI (by omega) (by omega)) (f' := upd (prow k (12 * (y + i) + x) (prect k x y u (f, 0) i) j).1 (12 * (y + i) + x + j) k) (by rw [z_kind_c hk, nI_clamp (by omega)]) (cs' := [(a, .inr (8, [.ref a1, .ref a2, .ref a3, .int part])), (a1, .inl (1, 108, .inl (upd (prow k (12 * (y + i) + x) (prect k x y u (f, 0) i) j).1 (12 * (y + i) + x + j) k))), (a2, .inl (2, 108, .inl sn)), (a3, .inl (0, 108, .inl qu))]) rfl ?_
          refine r_iinc (lv' := [(6, .int (nI ((prow k (12 * (y + i) + x) (prect k x y u (f, 0) i) j).2 + 1))), (9, .int (nI (12 * (y + i) + x + j))), (8, .int (nI (x + j))), (7, .int (nI (y + i))), (5, .int (nI v)), (4, .int (nI u)), (3, .int (nI y)), (2, .int (nI x)), (1, .int k), (0, .ref a)]) (v := nI ((prow k (12 * (y + i) + x) (prect k x y u (f, 0) i) j).2 + 1)) d_Pa_paint_78 (j := 2) rfl (nI_add _ _) (by decide) rfl ?_
          refine r_iinc (lv' := [(8, .int (nI ((x + j) + 1))), (6, .int (nI ((prow k (12 * (y + i) + x) (prect k x y u (f, 0) i) j).2 + 1))), (9, .int (nI (12 * (y + i) + x + j))), (7, .int (nI (y + i))), (5, .int (nI v)), (4, .int (nI u)), (3, .int (nI y)), (2, .int (nI x)), (1, .int k), (0, .ref a)]) (v := nI ((x + j) + 1)) d_Pa_paint_81 (j := 2) rfl (nI_add _ _) (by decide) rfl ?_
          refine r_goto (tgt := 33) d_Pa_paint_84 (by decide) ?_
          refine r_lv (lv' := [(8, .int (nI ((x + j) + 1))), (6, .int (nI ((prow k (12 * (y + i) + x) (prect k x y u (f, 0) i) j).2 + 1))), (7, .int (nI (y + i))), (5, .int (nI v)), (4, .int (nI u)), (3, .int (nI y)), (2, .int (nI x)), (1, .int k), (0, .ref a)]) [0, 1, 3, 4, 5, 6, 7, 8, 9] rfl ?_
          refine r_lvE (lv2 := [(8, .int (nI (x + (j + 1)))), (6, .int (nI (prow k (12 * (y + i) + x) (prect k x y u (f, 0) i) (j + 1)).2)), (7, .int (nI (y + i))), (5, .int (nI v)), (4, .int (nI u)), (3, .int (nI y)), (2, .int (nI x)), (1, .int k), (0, .ref a)]) (by first | (rw [prow_t c_67] <;> rfl) | (rw [prow_f c_67] <;> rfl)) ?_
          refine r_cs (cs2 := [(a, .inr (8, [.ref a1, .ref a2, .ref a3, .int part])), (a1, .inl (1, 108, .inl ((prow k (12 * (y + i) + x) (prect k x y u (f, 0) i) (j + 1)).1))), (a2, .inl (2, 108, .inl sn)), (a3, .inl (0, 108, .inl qu))]) (by first | (rw [prow_t c_67] <;> rfl) | (rw [prow_f c_67] <;> rfl)) ?_
          exact ih (j + 1) (by omega) (by omega)
