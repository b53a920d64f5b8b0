section
theorem prow_t {k : Int32} {b j : Nat} {s : (Nat → Int32) × Nat} (h : (prow k b s j).1 (b + j) = k) : prow k b s (j + 1) = prow k b s j := if_pos h
theorem prow_f {k : Int32} {b j : Nat} {s : (Nat → Int32) × Nat} (h : ¬ (prow k b s j).1 (b + j) = k) : prow k b s (j + 1) = (upd (prow k b s j).1 (b + j) k, (prow k b s j).2 + 1) := if_neg h
theorem z_kind_of {k : Int32} (h : 0 ≤ z_ix 0 k) : z_kind k := by
  unfold z_ix at h
  have hz : z_by 0 = [46, 99, 114, 103, 111, 107] := rfl
  rw [hz] at h
  simp only [List.findIdx?_cons, List.findIdx?_nil] at h
  unfold z_kind
  by_cases h1 : (46 : Int32) = k
  · exact Or.inl h1.symm
  by_cases h2 : (99 : Int32) = k
  · exact Or.inr (Or.inl h2.symm)
  by_cases h3 : (114 : Int32) = k
  · exact Or.inr (Or.inr (Or.inl h3.symm))
  by_cases h4 : (103 : Int32) = k
  · exact Or.inr (Or.inr (Or.inr (Or.inl h4.symm)))
  by_cases h5 : (111 : Int32) = k
  · exact Or.inr (Or.inr (Or.inr (Or.inr (Or.inl h5.symm))))
  by_cases h6 : (107 : Int32) = k
  · exact Or.inr (Or.inr (Or.inr (Or.inr (Or.inr h6.symm))))
  exfalso
  simp [h1, h2, h3, h4, h5, h6] at h
def z_dr (k x y w h : Int32) : Option (Nat × Nat × Nat × Nat) := if 0 ≤ z_ix 0 k ∧ (0 ≤ x ∧ x < 12 ∧ 0 ≤ y ∧ y < 9) ∧ 1 ≤ w ∧ w ≤ 12 - x ∧ 1 ≤ h ∧ h ≤ 9 - y then some (x.toNatClampNeg, y.toNatClampNeg, w.toNatClampNeg, h.toNatClampNeg) else none
theorem z_dr_in {k x y w h : Int32} (q : 0 ≤ z_ix 0 k ∧ (0 ≤ x ∧ x < 12 ∧ 0 ≤ y ∧ y < 9) ∧ 1 ≤ w ∧ w ≤ 12 - x ∧ 1 ≤ h ∧ h ≤ 9 - y) : ∃ a b u v : Nat, a + u ≤ 12 ∧ b + v ≤ 9 ∧ a < 12 ∧ b < 9 ∧ x = nI a ∧ y = nI b ∧ w = nI u ∧ h = nI v ∧ z_kind k ∧ z_dr k x y w h = some (a, b, u, v) := by
  have q0 := q
  obtain ⟨q1, q2, q3, q4, q5, q6⟩ := q
  obtain ⟨a, b, ha, hb, rfl, rfl, -⟩ := z_cl_in q2
  have w0 : 0 ≤ w := Int32.le_trans (by decide) q3
  have h0 : 0 ≤ h := Int32.le_trans (by decide) q5
  have e1 := z_nn w0
  have e2 := z_nn h0
  have f1 : w.toNatClampNeg < 2 ^ 31 := by have := fb_rng w; have := z_clamp w0; omega
  have f2 : h.toNatClampNeg < 2 ^ 31 := by have := fb_rng h; have := z_clamp h0; omega
  rw [e1, show (12 : Int32) = nI 12 from rfl, pk_sub (by omega)] at q4
  rw [e2, show (9 : Int32) = nI 9 from rfl, pk_sub (by omega)] at q6
  have g1 := z_le (by omega) f1 q4
  have g2 := z_le (by omega) f2 q6
  refine ⟨a, b, _, _, by omega, by omega, ha, hb, rfl, rfl, e1, e2, z_kind_of q1, ?_⟩
  rw [z_dr, if_pos q0, nI_clamp (by omega), nI_clamp (by omega)]
theorem oI_pos {o : Option Nat} (h : 0 ≤ oI o) : ∃ k, o = some k := by
  cases o with
  | none => exact absurd h (by decide)
  | some k => exact ⟨k, rfl⟩
theorem oI_neg {c s : Nat} (hc : c < 108) (h : ¬ 0 ≤ oI (bs c s)) : bs c s = none := by
  cases e : bs c s with
  | none => rfl
  | some k => rw [e] at h; exact absurd (nI_pos' (by have := bs_lt hc e; omega)) h
theorem bgS_t {ce fi : Nat → Int32} {h : Int32} {s0 : zS4} {i : Nat} (q : fi i < 0) : bgS ce fi h s0 (i + 1) = (upd (bgS ce fi h s0 i).1 i 20, upd (bgS ce fi h s0 i).2.1 i 300, upd (bgS ce fi h s0 i).2.2.1 i (-1), (bgS ce fi h s0 i).2.2.2) := if_pos q
theorem bgS_f {ce fi : Nat → Int32} {h : Int32} {s0 : zS4} {i : Nat} (q : ¬ fi i < 0) : bgS ce fi h s0 (i + 1) = bhS i (z_hwf h (fi i)) 0 ((bgS ce fi h s0 i).1, upd (bgS ce fi h s0 i).2.1 i 300, upd (bgS ce fi h s0 i).2.2.1 i 401, (bgS ce fi h s0 i).2.2.2 + 1) := if_neg q
theorem toS_x {ce fi f0 : Nat → Int32} {sd i : Nat} {o : Option Nat} (h : bs i sd = o) : toS ce fi sd f0 (i + 1) = upd (toS ce fi sd f0 i) i (o.elim 0 (fun k => pbS ce fi i k)) := by subst h; rfl
theorem z_eqn {a b : Nat} (ha : a < 2 ^ 31) (hb : b < 2 ^ 31) (h : nI a = nI b) : a = b := (nI_eq ha hb).mp h
theorem z_nen {a b : Nat} (ha : a < 2 ^ 31) (hb : b < 2 ^ 31) (h : ¬ nI a = nI b) : ¬ a = b := fun e => h (by rw [e])
abbrev M_Pa_paint : zM := (⟨"Ironpour$Pattern", "paint", "(CIIII)I"⟩, prog_10_method_2_code, 10, (Option.some FieldType.int), 2, 40, [])
theorem d_Pa_paint_33 : decode prog_10_method_2_code 33 = .ok (.iload 8, 2) := zo_21 (d := 8) (zd_b zq_prog_10_method_2_code_1 1 rfl rfl rfl) (zd_b zq_prog_10_method_2_code_1 2 rfl rfl rfl)
theorem d_Pa_paint_35 : decode prog_10_method_2_code 35 = .ok (.iload_n 2, 1) := zo_28 (zd_b zq_prog_10_method_2_code_1 3 rfl rfl rfl)
theorem d_Pa_paint_36 : decode prog_10_method_2_code 36 = .ok (.iload 4, 2) := zo_21 (d := 4) (zd_b zq_prog_10_method_2_code_1 4 rfl rfl rfl) (zd_b zq_prog_10_method_2_code_1 5 rfl rfl rfl)
theorem d_Pa_paint_38 : decode prog_10_method_2_code 38 = .ok (.iadd, 1) := zo_96 (zd_b zq_prog_10_method_2_code_1 6 rfl rfl rfl)
theorem d_Pa_paint_39 : decode prog_10_method_2_code 39 = .ok (.if_icmp .ge 48, 3) := zo_162 (d := 0) (e := 48) (zd_b zq_prog_10_method_2_code_1 7 rfl rfl rfl) (zd_b zq_prog_10_method_2_code_1 8 rfl rfl rfl) (zd_b zq_prog_10_method_2_code_1 9 rfl rfl rfl) (by decide +kernel)
theorem d_Pa_paint_42 : decode prog_10_method_2_code 42 = .ok (.iload 8, 2) := zo_21 (d := 8) (zd_b zq_prog_10_method_2_code_1 10 rfl rfl rfl) (zd_b zq_prog_10_method_2_code_1 11 rfl rfl rfl)
theorem d_Pa_paint_44 : decode prog_10_method_2_code 44 = .ok (.bipush 12, 2) := zo_16 (d := 12) (zd_b zq_prog_10_method_2_code_1 12 rfl rfl rfl) (zd_b zq_prog_10_method_2_code_1 13 rfl rfl rfl) (by decide +kernel)
theorem d_Pa_paint_46 : decode prog_10_method_2_code 46 = .ok (.if_icmp .ge 41, 3) := zo_162 (d := 0) (e := 41) (zd_b zq_prog_10_method_2_code_1 14 rfl rfl rfl) (zd_b zq_prog_10_method_2_code_1 15 rfl rfl rfl) (zd_b zq_prog_10_method_2_code_1 16 rfl rfl rfl) (by decide +kernel)
theorem d_Pa_paint_49 : decode prog_10_method_2_code 49 = .ok (.iload 7, 2) := zo_21 (d := 7) (zd_b zq_prog_10_method_2_code_1 17 rfl rfl rfl) (zd_b zq_prog_10_method_2_code_1 18 rfl rfl rfl)
theorem d_Pa_paint_51 : decode prog_10_method_2_code 51 = .ok (.bipush 12, 2) := zo_16 (d := 12) (zd_b zq_prog_10_method_2_code_1 19 rfl rfl rfl) (zd_b zq_prog_10_method_2_code_1 20 rfl rfl rfl) (by decide +kernel)
theorem d_Pa_paint_53 : decode prog_10_method_2_code 53 = .ok (.imul, 1) := zo_104 (zd_b zq_prog_10_method_2_code_1 21 rfl rfl rfl)
theorem d_Pa_paint_54 : decode prog_10_method_2_code 54 = .ok (.iload 8, 2) := zo_21 (d := 8) (zd_b zq_prog_10_method_2_code_1 22 rfl rfl rfl) (zd_b zq_prog_10_method_2_code_1 23 rfl rfl rfl)
theorem d_Pa_paint_56 : decode prog_10_method_2_code 56 = .ok (.iadd, 1) := zo_96 (zd_b zq_prog_10_method_2_code_1 24 rfl rfl rfl)
theorem d_Pa_paint_57 : decode prog_10_method_2_code 57 = .ok (.istore 9, 2) := zo_54 (d := 9) (zd_b zq_prog_10_method_2_code_1 25 rfl rfl rfl) (zd_b zq_prog_10_method_2_code_1 26 rfl rfl rfl)
theorem d_Pa_paint_59 : decode prog_10_method_2_code 59 = .ok (.aload_n 0, 1) := zo_42 (zd_b zq_prog_10_method_2_code_1 27 rfl rfl rfl)
theorem d_Pa_paint_60 : decode prog_10_method_2_code 60 = .ok (.getfield 9, 3) := zo_180 (d := 0) (e := 9) (zd_b zq_prog_10_method_2_code_1 28 rfl rfl rfl) (zd_b zq_prog_10_method_2_code_1 29 rfl rfl rfl) (zd_b zq_prog_10_method_2_code_1 30 rfl rfl rfl)
theorem d_Pa_paint_63 : decode prog_10_method_2_code 63 = .ok (.iload 9, 2) := zo_21 (d := 9) (zd_b zq_prog_10_method_2_code_1 31 rfl rfl rfl) (zd_b zq_prog_10_method_2_code_2 0 rfl rfl rfl)
theorem d_Pa_paint_65 : decode prog_10_method_2_code 65 = .ok (.caload, 1) := zo_52 (zd_b zq_prog_10_method_2_code_2 1 rfl rfl rfl)
theorem d_Pa_paint_66 : decode prog_10_method_2_code 66 = .ok (.iload_n 1, 1) := zo_27 (zd_b zq_prog_10_method_2_code_2 2 rfl rfl rfl)
theorem d_Pa_paint_67 : decode prog_10_method_2_code 67 = .ok (.if_icmp .eq 14, 3) := zo_159 (d := 0) (e := 14) (zd_b zq_prog_10_method_2_code_2 3 rfl rfl rfl) (zd_b zq_prog_10_method_2_code_2 4 rfl rfl rfl) (zd_b zq_prog_10_method_2_code_2 5 rfl rfl rfl) (by decide +kernel)
theorem d_Pa_paint_81 : decode prog_10_method_2_code 81 = .ok (.iinc 8 1, 3) := by decide +kernel
theorem d_Pa_paint_84 : decode prog_10_method_2_code 84 = .ok (.goto (-51), 3) := zo_167 (d := 255) (e := 205) (zd_b zq_prog_10_method_2_code_2 20 rfl rfl rfl) (zd_b zq_prog_10_method_2_code_2 21 rfl rfl rfl) (zd_b zq_prog_10_method_2_code_2 22 rfl rfl rfl) (by decide +kernel)
theorem d_Pa_paint_70 : decode prog_10_method_2_code 70 = .ok (.aload_n 0, 1) := zo_42 (zd_b zq_prog_10_method_2_code_2 6 rfl rfl rfl)
theorem d_Pa_paint_71 : decode prog_10_method_2_code 71 = .ok (.getfield 9, 3) := zo_180 (d := 0) (e := 9) (zd_b zq_prog_10_method_2_code_2 7 rfl rfl rfl) (zd_b zq_prog_10_method_2_code_2 8 rfl rfl rfl) (zd_b zq_prog_10_method_2_code_2 9 rfl rfl rfl)
theorem d_Pa_paint_74 : decode prog_10_method_2_code 74 = .ok (.iload 9, 2) := zo_21 (d := 9) (zd_b zq_prog_10_method_2_code_2 10 rfl rfl rfl) (zd_b zq_prog_10_method_2_code_2 11 rfl rfl rfl)
theorem d_Pa_paint_76 : decode prog_10_method_2_code 76 = .ok (.iload_n 1, 1) := zo_27 (zd_b zq_prog_10_method_2_code_2 12 rfl rfl rfl)
theorem d_Pa_paint_77 : decode prog_10_method_2_code 77 = .ok (.castore, 1) := zo_85 (zd_b zq_prog_10_method_2_code_2 13 rfl rfl rfl)
theorem d_Pa_paint_78 : decode prog_10_method_2_code 78 = .ok (.iinc 6 1, 3) := by decide +kernel
theorem d_Pa_paint_10 : decode prog_10_method_2_code 10 = .ok (.iload 7, 2) := zo_21 (d := 7) (zd_b zq_prog_10_method_2_code_0 10 rfl rfl rfl) (zd_b zq_prog_10_method_2_code_0 11 rfl rfl rfl)
theorem d_Pa_paint_12 : decode prog_10_method_2_code 12 = .ok (.iload_n 3, 1) := zo_29 (zd_b zq_prog_10_method_2_code_0 12 rfl rfl rfl)
theorem d_Pa_paint_13 : decode prog_10_method_2_code 13 = .ok (.iload 5, 2) := zo_21 (d := 5) (zd_b zq_prog_10_method_2_code_0 13 rfl rfl rfl) (zd_b zq_prog_10_method_2_code_0 14 rfl rfl rfl)
theorem d_Pa_paint_15 : decode prog_10_method_2_code 15 = .ok (.iadd, 1) := zo_96 (zd_b zq_prog_10_method_2_code_0 15 rfl rfl rfl)
theorem d_Pa_paint_16 : decode prog_10_method_2_code 16 = .ok (.if_icmp .ge 77, 3) := zo_162 (d := 0) (e := 77) (zd_b zq_prog_10_method_2_code_0 16 rfl rfl rfl) (zd_b zq_prog_10_method_2_code_0 17 rfl rfl rfl) (zd_b zq_prog_10_method_2_code_0 18 rfl rfl rfl) (by decide +kernel)
theorem d_Pa_paint_93 : decode prog_10_method_2_code 93 = .ok (.iload 6, 2) := zo_21 (d := 6) (zd_b zq_prog_10_method_2_code_2 29 rfl rfl rfl) (zd_b zq_prog_10_method_2_code_2 30 rfl rfl rfl)
theorem d_Pa_paint_95 : decode prog_10_method_2_code 95 = .ok (.ireturn, 1) := zo_172 (zd_b zq_prog_10_method_2_code_2 31 rfl rfl rfl)
theorem d_Pa_paint_19 : decode prog_10_method_2_code 19 = .ok (.iload 7, 2) := zo_21 (d := 7) (zd_b zq_prog_10_method_2_code_0 19 rfl rfl rfl) (zd_b zq_prog_10_method_2_code_0 20 rfl rfl rfl)
theorem d_Pa_paint_21 : decode prog_10_method_2_code 21 = .ok (.bipush 9, 2) := zo_16 (d := 9) (zd_b zq_prog_10_method_2_code_0 21 rfl rfl rfl) (zd_b zq_prog_10_method_2_code_0 22 rfl rfl rfl) (by decide +kernel)
theorem d_Pa_paint_23 : decode prog_10_method_2_code 23 = .ok (.if_icmp .ge 70, 3) := zo_162 (d := 0) (e := 70) (zd_b zq_prog_10_method_2_code_0 23 rfl rfl rfl) (zd_b zq_prog_10_method_2_code_0 24 rfl rfl rfl) (zd_b zq_prog_10_method_2_code_0 25 rfl rfl rfl) (by decide +kernel)
theorem d_Pa_paint_26 : decode prog_10_method_2_code 26 = .ok (.iload_n 2, 1) := zo_28 (zd_b zq_prog_10_method_2_code_0 26 rfl rfl rfl)
theorem d_Pa_paint_27 : decode prog_10_method_2_code 27 = .ok (.iconst 0, 1) := zo_3 (zd_b zq_prog_10_method_2_code_0 27 rfl rfl rfl)
theorem d_Pa_paint_28 : decode prog_10_method_2_code 28 = .ok (.invokestatic 27, 3) := zo_184 (d := 0) (e := 27) (zd_b zq_prog_10_method_2_code_0 28 rfl rfl rfl) (zd_b zq_prog_10_method_2_code_0 29 rfl rfl rfl) (zd_b zq_prog_10_method_2_code_0 30 rfl rfl rfl)
theorem ln_Pa_27 : Cond.methodLink "Ironpour$Pattern" 27 Lib.Math.max.name ∈ z_gw := z_mj3 (i := 221) rfl (by decide +kernel)
theorem d_Pa_paint_31 : decode prog_10_method_2_code 31 = .ok (.istore 8, 2) := zo_54 (d := 8) (zd_b zq_prog_10_method_2_code_0 31 rfl rfl rfl) (zd_b zq_prog_10_method_2_code_1 0 rfl rfl rfl)
theorem d_Pa_paint_87 : decode prog_10_method_2_code 87 = .ok (.iinc 7 1, 3) := by decide +kernel
theorem d_Pa_paint_90 : decode prog_10_method_2_code 90 = .ok (.goto (-80), 3) := zo_167 (d := 255) (e := 176) (zd_b zq_prog_10_method_2_code_2 26 rfl rfl rfl) (zd_b zq_prog_10_method_2_code_2 27 rfl rfl rfl) (zd_b zq_prog_10_method_2_code_2 28 rfl rfl rfl) (by decide +kernel)
theorem d_Pa_paint_0 : decode prog_10_method_2_code 0 = .ok (.iconst 0, 1) := zo_3 (zd_b zq_prog_10_method_2_code_0 0 rfl rfl rfl)
theorem d_Pa_paint_1 : decode prog_10_method_2_code 1 = .ok (.istore 6, 2) := zo_54 (d := 6) (zd_b zq_prog_10_method_2_code_0 1 rfl rfl rfl) (zd_b zq_prog_10_method_2_code_0 2 rfl rfl rfl)
theorem d_Pa_paint_3 : decode prog_10_method_2_code 3 = .ok (.iload_n 3, 1) := zo_29 (zd_b zq_prog_10_method_2_code_0 3 rfl rfl rfl)
theorem d_Pa_paint_4 : decode prog_10_method_2_code 4 = .ok (.iconst 0, 1) := zo_3 (zd_b zq_prog_10_method_2_code_0 4 rfl rfl rfl)
theorem d_Pa_paint_5 : decode prog_10_method_2_code 5 = .ok (.invokestatic 27, 3) := zo_184 (d := 0) (e := 27) (zd_b zq_prog_10_method_2_code_0 5 rfl rfl rfl) (zd_b zq_prog_10_method_2_code_0 6 rfl rfl rfl) (zd_b zq_prog_10_method_2_code_0 7 rfl rfl rfl)
theorem d_Pa_paint_8 : decode prog_10_method_2_code 8 = .ok (.istore 7, 2) := zo_54 (d := 7) (zd_b zq_prog_10_method_2_code_0 8 rfl rfl rfl) (zd_b zq_prog_10_method_2_code_0 9 rfl rfl rfl)
set_option maxHeartbeats 4000000 in
set_option maxRecDepth 100000 in
theorem L_Pa_paint_33 (g : zG) (a a1 a2 a3 : Nat) (f sn qu : Nat → Int32) (part : Int32) (k : Int32) (hk : z_kind k) (x y u v : Nat) (hx : x + u ≤ 12) (hy : y + v ≤ 9) (w0 : zW) (n : Nat) (i : Nat) (hi : i < v) (K : DV g M_Pa_paint (fun o cs1 => o = .inl (some (.int (nI (prect k x y u (f, 0) v).2))) ∧ cs1 = [(a, .inr (8, [.ref a1, .ref a2, .ref a3, .int part])), (a1, .inl (1, 108, .inl ((prect k x y u (f, 0) v).1))), (a2, .inl (2, 108, .inl sn)), (a3, .inl (0, 108, .inl qu))]) w0 n 87 [(8, .int (nI (x + u))), (6, .int (nI (prow k (12 * (y + i) + x) (prect k x y u (f, 0) i) u).2)), (7, .int (nI (y + i))), (5, .int (nI v)), (4, .int (nI u)), (3, .int (nI y)), (2, .int (nI x)), (1, .int k), (0, .ref a)] [] [(a, .inr (8, [.ref a1, .ref a2, .ref a3, .int part])), (a1, .inl (1, 108, .inl ((prow k (12 * (y + i) + x) (prect k x y u (f, 0) i) u).1))), (a2, .inl (2, 108, .inl sn)), (a3, .inl (0, 108, .inl qu))] 0 0) : ∀ (d j : Nat), j ≤ u → u < j + d → DV g M_Pa_paint (fun o cs1 => o = .inl (some (.int (nI (prect k x y u (f, 0) v).2))) ∧ cs1 = [(a, .inr (8, [.ref a1, .ref a2, .ref a3, .int part])), (a1, .inl (1, 108, .inl ((prect k x y u (f, 0) v).1))), (a2, .inl (2, 108, .inl sn)), (a3, .inl (0, 108, .inl qu))]) w0 n 33 [(8, .int (nI (x + j))), (6, .int (nI (prow k (12 * (y + i) + x) (prect k x y u (f, 0) i) j).2)), (7, .int (nI (y + i))), (5, .int (nI v)), (4, .int (nI u)), (3, .int (nI y)), (2, .int (nI x)), (1, .int k), (0, .ref a)] [] [(a, .inr (8, [.ref a1, .ref a2, .ref a3, .int part])), (a1, .inl (1, 108, .inl ((prow k (12 * (y + i) + x) (prect k x y u (f, 0) i) j).1))), (a2, .inl (2, 108, .inl sn)), (a3, .inl (0, 108, .inl qu))] 0 0 := by
  intro d
  induction d with
  | zero => intro j h1 h2 ; exact absurd h2 (by omega)
  | succ d ih =>
    intro j h1 h2 
    refine r_iload d_Pa_paint_33 0 rfl ?_
    refine r_iload_n d_Pa_paint_35 rfl 6 rfl ?_
    refine r_iload d_Pa_paint_36 4 rfl ?_
    refine r_iadd d_Pa_paint_38 (v := nI (x + u)) (nI_add _ _) ?_
    refine r_icmp_ge (tgt := 87) d_Pa_paint_39 (by decide) (fun c_39 => ?_) (fun c_39 => ?_)
    · have hn := z_le (a := x + u) (by omega) (by omega) c_39
      have hv : j = u := by omega
      subst hv
      exact K
    · have hn := z_nle (a := x + u) (by omega) (by omega) c_39
      refine r_iload d_Pa_paint_42 0 rfl ?_
      refine r_bipush d_Pa_paint_44 (v := 12) (by decide) ?_
      refine r_icmp_ge (tgt := 87) d_Pa_paint_46 (by decide) (fun c_46 => ?_) (fun c_46 => ?_)
      · exact absurd (z_le (a := 12) (by omega) (by decide) c_46) (by omega)
      · refine r_iload d_Pa_paint_49 2 rfl ?_
        refine r_bipush d_Pa_paint_51 (v := 12) (by decide) ?_
        refine r_imul d_Pa_paint_53 (v := nI ((y + i) * 12)) (pk_mul _ _) ?_
        refine r_iload d_Pa_paint_54 0 rfl ?_
        refine r_iadd d_Pa_paint_56 (v := nI (12 * (y + i) + x + j)) (by rw [nI_add]; congr 1; omega) ?_
        refine r_istore (lv' := [(9, .int (nI (12 * (y + i) + x + j))), (8, .int (nI (x + j))), (6, .int (nI (prow k (12 * (y + i) + x) (prect k x y u (f, 0) i) j).2)), (7, .int (nI (y + i))), (5, .int (nI v)), (4, .int (nI u)), (3, .int (nI y)), (2, .int (nI x)), (1, .int k), (0, .ref a)]) d_Pa_paint_57 (by decide) rfl ?_
        refine r_aload_n d_Pa_paint_59 rfl 9 rfl ?_
        refine r_get fs_Pa_9 d_Pa_paint_60 (q0 := 0) rfl rfl ?_
        refine r_iload d_Pa_paint_63 0 rfl ?_
        refine r_cald d_Pa_paint_65 (q0 := 1) rfl (vp_in_nI (by omega) (by omega)) (v := ((prow k (12 * (y + i) + x) (prect k x y u (f, 0) i) j).1) (12 * (y + i) + x + j)) (by rw [nI_clamp (by omega)]) ?_
        refine r_iload_n d_Pa_paint_66 rfl 8 rfl ?_
        refine r_icmp_eq (tgt := 81) d_Pa_paint_67 (by decide) (fun c_67 => ?_) (fun c_67 => ?_)
        · refine r_iinc (lv' := [(8, .int (nI ((x + j) + 1))), (9, .int (nI (12 * (y + i) + x + j))), (6, .int (nI (prow k (12 * (y + i) + x) (prect k x y u (f, 0) i) j).2)), (7, .int (nI (y + i))), (5, .int (nI v)), (4, .int (nI u)), (3, .int (nI y)), (2, .int (nI x)), (1, .int k), (0, .ref a)]) (v := nI ((x + j) + 1)) d_Pa_paint_81 (j := 1) rfl (nI_add _ _) (by decide) rfl ?_
          refine r_goto (tgt := 33) d_Pa_paint_84 (by decide) ?_
          refine r_lv (lv' := [(8, .int (nI ((x + j) + 1))), (6, .int (nI (prow k (12 * (y + i) + x) (prect k x y u (f, 0) i) j).2)), (7, .int (nI (y + i))), (5, .int (nI v)), (4, .int (nI u)), (3, .int (nI y)), (2, .int (nI x)), (1, .int k), (0, .ref a)]) [0, 2, 3, 4, 5, 6, 7, 8, 9] rfl ?_
          refine r_lvE (lv2 := [(8, .int (nI (x + (j + 1)))), (6, .int (nI (prow k (12 * (y + i) + x) (prect k x y u (f, 0) i) (j + 1)).2)), (7, .int (nI (y + i))), (5, .int (nI v)), (4, .int (nI u)), (3, .int (nI y)), (2, .int (nI x)), (1, .int k), (0, .ref a)]) (by first | (rw [prow_t c_67] <;> rfl) | (rw [prow_f c_67] <;> rfl)) ?_
          refine r_cs (cs2 := [(a, .inr (8, [.ref a1, .ref a2, .ref a3, .int part])), (a1, .inl (1, 108, .inl ((prow k (12 * (y + i) + x) (prect k x y u (f, 0) i) (j + 1)).1))), (a2, .inl (2, 108, .inl sn)), (a3, .inl (0, 108, .inl qu))]) (by first | (rw [prow_t c_67] <;> rfl) | (rw [prow_f c_67] <;> rfl)) ?_
          exact ih (j + 1) (by omega) (by omega)
        · refine r_aload_n d_Pa_paint_70 rfl 9 rfl ?_
          refine r_get fs_Pa_9 d_Pa_paint_71 (q0 := 0) rfl rfl ?_
          refine r_iload d_Pa_paint_74 0 rfl ?_
          refine r_iload_n d_Pa_paint_76 rfl 8 rfl ?_
          refine r_cast d_Pa_paint_77 (q0 := 1) rfl (vp_in_nI (by omega) (by omega)) (f' := upd (prow k (12 * (y + i) + x) (prect k x y u (f, 0) i) j).1 (12 * (y + i) + x + j) k) (by rw [z_kind_c hk, nI_clamp (by omega)]) (cs' := [(a, .inr (8, [.ref a1, .ref a2, .ref a3, .int part])), (a1, .inl (1, 108, .inl (upd (prow k (12 * (y + i) + x) (prect k x y u (f, 0) i) j).1 (12 * (y + i) + x + j) k))), (a2, .inl (2, 108, .inl sn)), (a3, .inl (0, 108, .inl qu))]) rfl ?_
          refine r_iinc (lv' := [(6, .int (nI ((prow k (12 * (y + i) + x) (prect k x y u (f, 0) i) j).2 + 1))), (9, .int (nI (12 * (y + i) + x + j))), (8, .int (nI (x + j))), (7, .int (nI (y + i))), (5, .int (nI v)), (4, .int (nI u)), (3, .int (nI y)), (2, .int (nI x)), (1, .int k), (0, .ref a)]) (v := nI ((prow k (12 * (y + i) + x) (prect k x y u (f, 0) i) j).2 + 1)) d_Pa_paint_78 (j := 2) rfl (nI_add _ _) (by decide) rfl ?_
          refine r_iinc (lv' := [(8, .int (nI ((x + j) + 1))), (6, .int (nI ((prow k (12 * (y + i) + x) (prect k x y u (f, 0) i) j).2 + 1))), (9, .int (nI (12 * (y + i) + x + j))), (7, .int (nI (y + i))), (5, .int (nI v)), (4, .int (nI u)), (3, .int (nI y)), (2, .int (nI x)), (1, .int k), (0, .ref a)]) (v := nI ((x + j) + 1)) d_Pa_paint_81 (j := 2) rfl (nI_add _ _) (by decide) rfl ?_
          refine r_goto (tgt := 33) d_Pa_paint_84 (by decide) ?_
          refine r_lv (lv' := [(8, .int (nI ((x + j) + 1))), (6, .int (nI ((prow k (12 * (y + i) + x) (prect k x y u (f, 0) i) j).2 + 1))), (7, .int (nI (y + i))), (5, .int (nI v)), (4, .int (nI u)), (3, .int (nI y)), (2, .int (nI x)), (1, .int k), (0, .ref a)]) [0, 1, 3, 4, 5, 6, 7, 8, 9] rfl ?_
          refine r_lvE (lv2 := [(8, .int (nI (x + (j + 1)))), (6, .int (nI (prow k (12 * (y + i) + x) (prect k x y u (f, 0) i) (j + 1)).2)), (7, .int (nI (y + i))), (5, .int (nI v)), (4, .int (nI u)), (3, .int (nI y)), (2, .int (nI x)), (1, .int k), (0, .ref a)]) (by first | (rw [prow_t c_67] <;> rfl) | (rw [prow_f c_67] <;> rfl)) ?_
          refine r_cs (cs2 := [(a, .inr (8, [.ref a1, .ref a2, .ref a3, .int part])), (a1, .inl (1, 108, .inl ((prow k (12 * (y + i) + x) (prect k x y u (f, 0) i) (j + 1)).1))), (a2, .inl (2, 108, .inl sn)), (a3, .inl (0, 108, .inl qu))]) (by first | (rw [prow_t c_67] <;> rfl) | (rw [prow_f c_67] <;> rfl)) ?_
          exact ih (j + 1) (by omega) (by omega)
set_option maxHeartbeats 4000000 in
set_option maxRecDepth 100000 in
theorem L_Pa_paint_10 (g : zG) (a a1 a2 a3 : Nat) (f sn qu : Nat → Int32) (part : Int32) (k : Int32) (hk : z_kind k) (x y u v : Nat) (hx : x + u ≤ 12) (hy : y + v ≤ 9) (w0 : zW) (n : Nat) : ∀ (d i : Nat), i ≤ v → v < i + d → DV g M_Pa_paint (fun o cs1 => o = .inl (some (.int (nI (prect k x y u (f, 0) v).2))) ∧ cs1 = [(a, .inr (8, [.ref a1, .ref a2, .ref a3, .int part])), (a1, .inl (1, 108, .inl ((prect k x y u (f, 0) v).1))), (a2, .inl (2, 108, .inl sn)), (a3, .inl (0, 108, .inl qu))]) w0 n 10 [(6, .int (nI (prect k x y u (f, 0) i).2)), (7, .int (nI (y + i))), (5, .int (nI v)), (4, .int (nI u)), (3, .int (nI y)), (2, .int (nI x)), (1, .int k), (0, .ref a)] [] [(a, .inr (8, [.ref a1, .ref a2, .ref a3, .int part])), (a1, .inl (1, 108, .inl ((prect k x y u (f, 0) i).1))), (a2, .inl (2, 108, .inl sn)), (a3, .inl (0, 108, .inl qu))] 0 0 := by
  intro d
  induction d with
  | zero => intro i h1 h2 ; exact absurd h2 (by omega)
  | succ d ih =>
    intro i h1 h2 
    refine r_iload d_Pa_paint_10 1 rfl ?_
    refine r_iload_n d_Pa_paint_12 rfl 4 rfl ?_
    refine r_iload d_Pa_paint_13 2 rfl ?_
    refine r_iadd d_Pa_paint_15 (v := nI (y + v)) (nI_add _ _) ?_
    refine r_icmp_ge (tgt := 93) d_Pa_paint_16 (by decide) (fun c_16 => ?_) (fun c_16 => ?_)
    · have hn := z_le (a := y + v) (by omega) (by omega) c_16
      have hv : i = v := by omega
      subst hv
      refine r_iload d_Pa_paint_93 0 rfl ?_
      refine r_iret d_Pa_paint_95 rfl rfl ?_
      exact ⟨rfl, rfl⟩
    · have hn := z_nle (a := y + v) (by omega) (by omega) c_16
      refine r_iload d_Pa_paint_19 1 rfl ?_
      refine r_bipush d_Pa_paint_21 (v := 9) (by decide) ?_
      refine r_icmp_ge (tgt := 93) d_Pa_paint_23 (by decide) (fun c_23 => ?_) (fun c_23 => ?_)
      · exact absurd (z_le (a := 9) (by omega) (by decide) c_23) (by omega)
      · refine r_iload_n d_Pa_paint_26 rfl 5 rfl ?_
        refine r_iconst d_Pa_paint_27 (v := 0) (by decide) ?_
        refine r_max (v := nI x) ln_Pa_27 w_mmax w_mi w_cmax d_Pa_paint_28 (by decide) (by decide) (Nat.le_of_ble_eq_true rfl) (by rw [if_neg (nI_pos (by omega))]) ?_
        refine r_istore (lv' := [(8, .int (nI x)), (6, .int (nI (prect k x y u (f, 0) i).2)), (7, .int (nI (y + i))), (5, .int (nI v)), (4, .int (nI u)), (3, .int (nI y)), (2, .int (nI x)), (1, .int k), (0, .ref a)]) d_Pa_paint_31 (by decide) rfl ?_
        refine r_lvE (lv2 := [(8, .int (nI (x + 0))), (6, .int (nI (prow k (12 * (y + i) + x) (prect k x y u (f, 0) i) 0).2)), (7, .int (nI (y + i))), (5, .int (nI v)), (4, .int (nI u)), (3, .int (nI y)), (2, .int (nI x)), (1, .int k), (0, .ref a)]) (rfl) ?_
        refine r_cs (cs2 := [(a, .inr (8, [.ref a1, .ref a2, .ref a3, .int part])), (a1, .inl (1, 108, .inl ((prow k (12 * (y + i) + x) (prect k x y u (f, 0) i) 0).1))), (a2, .inl (2, 108, .inl sn)), (a3, .inl (0, 108, .inl qu))]) (rfl) ?_
        refine L_Pa_paint_33 g a a1 a2 a3 f sn qu part k hk x y u v hx hy w0 _ i (by omega) (?_) (u + 1) 0 (Nat.zero_le _) (by omega)
        refine r_iinc (lv' := [(7, .int (nI ((y + i) + 1))), (8, .int (nI (x + u))), (6, .int (nI (prow k (12 * (y + i) + x) (prect k x y u (f, 0) i) u).2)), (5, .int (nI v)), (4, .int (nI u)), (3, .int (nI y)), (2, .int (nI x)), (1, .int k), (0, .ref a)]) (v := nI ((y + i) + 1)) d_Pa_paint_87 (j := 2) rfl (nI_add _ _) (by decide) rfl ?_
        refine r_goto (tgt := 10) d_Pa_paint_90 (by decide) ?_
        refine r_lv (lv' := [(6, .int (nI (prow k (12 * (y + i) + x) (prect k x y u (f, 0) i) u).2)), (7, .int (nI ((y + i) + 1))), (5, .int (nI v)), (4, .int (nI u)), (3, .int (nI y)), (2, .int (nI x)), (1, .int k), (0, .ref a)]) [2, 0, 3, 4, 5, 6, 7, 8] rfl ?_
        refine r_lvE (lv2 := [(6, .int (nI (prect k x y u (f, 0) (i + 1)).2)), (7, .int (nI (y + (i + 1)))), (5, .int (nI v)), (4, .int (nI u)), (3, .int (nI y)), (2, .int (nI x)), (1, .int k), (0, .ref a)]) (rfl) ?_
        refine r_cs (cs2 := [(a, .inr (8, [.ref a1, .ref a2, .ref a3, .int part])), (a1, .inl (1, 108, .inl ((prect k x y u (f, 0) (i + 1)).1))), (a2, .inl (2, 108, .inl sn)), (a3, .inl (0, 108, .inl qu))]) (rfl) ?_
        exact ih (i + 1) (by omega) (by omega)
set_option maxHeartbeats 4000000 in
set_option maxRecDepth 100000 in
theorem C_Pa_paint (g : zG) (a a1 a2 a3 : Nat) (f sn qu : Nat → Int32) (part : Int32) (k : Int32) (hk : z_kind k) (x y u v : Nat) (hx : x + u ≤ 12) (hy : y + v ≤ 9) : CT g M_Pa_paint [.ref a, .int k, .int (nI x), .int (nI y), .int (nI u), .int (nI v)] [(a, .inr (8, [.ref a1, .ref a2, .ref a3, .int part])), (a1, .inl (1, 108, .inl f)), (a2, .inl (2, 108, .inl sn)), (a3, .inl (0, 108, .inl qu))] (fun o cs1 => o = .inl (some (.int (nI (prect k x y u (f, 0) v).2))) ∧ cs1 = [(a, .inr (8, [.ref a1, .ref a2, .ref a3, .int part])), (a1, .inl (1, 108, .inl ((prect k x y u (f, 0) v).1))), (a2, .inl (2, 108, .inl sn)), (a3, .inl (0, 108, .inl qu))]) 0 0 := by
  refine z_of (by decide) rfl (Nat.le_of_ble_eq_true rfl) (fun w0 => ?_)
  refine r_lvE (lv2 := [(0, .ref a), (1, .int k), (2, .int (nI x)), (3, .int (nI y)), (4, .int (nI u)), (5, .int (nI v))]) rfl ?_
  refine r_iconst d_Pa_paint_0 (v := 0) (by decide) ?_
  refine r_istore (lv' := [(6, .int 0), (0, .ref a), (1, .int k), (2, .int (nI x)), (3, .int (nI y)), (4, .int (nI u)), (5, .int (nI v))]) d_Pa_paint_1 (by decide) rfl ?_
  refine r_iload_n d_Pa_paint_3 rfl 4 rfl ?_
  refine r_iconst d_Pa_paint_4 (v := 0) (by decide) ?_
  refine r_max (v := nI y) ln_Pa_27 w_mmax w_mi w_cmax d_Pa_paint_5 (by decide) (by decide) (Nat.le_of_ble_eq_true rfl) (by rw [if_neg (nI_pos (by omega))]) ?_
  refine r_istore (lv' := [(7, .int (nI y)), (6, .int 0), (0, .ref a), (1, .int k), (2, .int (nI x)), (3, .int (nI y)), (4, .int (nI u)), (5, .int (nI v))]) d_Pa_paint_8 (by decide) rfl ?_
  refine r_lv (lv' := [(6, .int 0), (7, .int (nI y)), (5, .int (nI v)), (4, .int (nI u)), (3, .int (nI y)), (2, .int (nI x)), (1, .int k), (0, .ref a)]) [1, 0, 7, 6, 5, 4, 3, 2] rfl ?_
  refine r_lvE (lv2 := [(6, .int (nI (prect k x y u (f, 0) 0).2)), (7, .int (nI (y + 0))), (5, .int (nI v)), (4, .int (nI u)), (3, .int (nI y)), (2, .int (nI x)), (1, .int k), (0, .ref a)]) (rfl) ?_
  refine r_cs (cs2 := [(a, .inr (8, [.ref a1, .ref a2, .ref a3, .int part])), (a1, .inl (1, 108, .inl ((prect k x y u (f, 0) 0).1))), (a2, .inl (2, 108, .inl sn)), (a3, .inl (0, 108, .inl qu))]) (rfl) ?_
  exact L_Pa_paint_10 g a a1 a2 a3 f sn qu part k hk x y u v hx hy w0 _  (v + 1) 0 (Nat.zero_le _) (by omega)
abbrev M_Fz_heatWhenFilled : zM := (⟨"Ironpour$Freezing", "heatWhenFilled", "(II)I"⟩, prog_4_method_2_code, 2, (Option.some FieldType.int), 1, 20, [])
theorem d_Fz_heatWhenFilled_0 : decode prog_4_method_2_code 0 = .ok (.iload_n 0, 1) := zo_26 (zd_b zq_prog_4_method_2_code_0 0 rfl rfl rfl)
theorem d_Fz_heatWhenFilled_1 : decode prog_4_method_2_code 1 = .ok (.iconst 2, 1) := zo_5 (zd_b zq_prog_4_method_2_code_0 1 rfl rfl rfl)
theorem d_Fz_heatWhenFilled_2 : decode prog_4_method_2_code 2 = .ok (.iload_n 1, 1) := zo_27 (zd_b zq_prog_4_method_2_code_0 2 rfl rfl rfl)
theorem d_Fz_heatWhenFilled_3 : decode prog_4_method_2_code 3 = .ok (.imul, 1) := zo_104 (zd_b zq_prog_4_method_2_code_0 3 rfl rfl rfl)
theorem d_Fz_heatWhenFilled_4 : decode prog_4_method_2_code 4 = .ok (.isub, 1) := zo_100 (zd_b zq_prog_4_method_2_code_0 4 rfl rfl rfl)
theorem d_Fz_heatWhenFilled_5 : decode prog_4_method_2_code 5 = .ok (.ireturn, 1) := zo_172 (zd_b zq_prog_4_method_2_code_0 5 rfl rfl rfl)
set_option maxHeartbeats 4000000 in
set_option maxRecDepth 100000 in
theorem C_Fz_hwf (g : zG) (h s : Int32) : CT g M_Fz_heatWhenFilled [.int h, .int s] [] (fun o cs1 => o = .inl (some (.int (z_hwf h s))) ∧ cs1 = []) 0 0 := by
  refine z_of (by decide) rfl (Nat.le_of_ble_eq_true rfl) (fun w0 => ?_)
  refine r_lvE (lv2 := [(0, .int h), (1, .int s)]) rfl ?_
  refine r_iload_n d_Fz_heatWhenFilled_0 rfl 0 rfl ?_
  refine r_iconst d_Fz_heatWhenFilled_1 (v := 2) (by decide) ?_
  refine r_iload_n d_Fz_heatWhenFilled_2 rfl 1 rfl ?_
  refine r_imul d_Fz_heatWhenFilled_3 (v := 2 * s) rfl ?_
  refine r_isub d_Fz_heatWhenFilled_4 (v := h - (2 * s)) rfl ?_
  refine r_iret d_Fz_heatWhenFilled_5 rfl rfl ?_
  exact ⟨rfl, rfl⟩
abbrev M_Fz_becomeHeat : zM := (⟨"Ironpour$Freezing", "becomeHeat", "(III)V"⟩, prog_4_method_8_code, 4, (Option.none : Option FieldType), 1, 20, [])
theorem d_Fz_becomeHeat_0 : decode prog_4_method_8_code 0 = .ok (.aload_n 0, 1) := zo_42 (zd_b zq_prog_4_method_8_code_0 0 rfl rfl rfl)
theorem d_Fz_becomeHeat_1 : decode prog_4_method_8_code 1 = .ok (.getfield 21, 3) := zo_180 (d := 0) (e := 21) (zd_b zq_prog_4_method_8_code_0 1 rfl rfl rfl) (zd_b zq_prog_4_method_8_code_0 2 rfl rfl rfl) (zd_b zq_prog_4_method_8_code_0 3 rfl rfl rfl)
theorem fs_Fz_21 : z_fs "Ironpour$Freezing" 21 2 3 := ⟨R_Fz, "Ironpour$Freezing", F_Fz, 7, rfl, u_Fz, by decide, Or.inl ⟨z_mj1 (i := 87) rfl (by decide +kernel), Or.inl rfl⟩⟩
theorem d_Fz_becomeHeat_4 : decode prog_4_method_8_code 4 = .ok (.iload_n 1, 1) := zo_27 (zd_b zq_prog_4_method_8_code_0 4 rfl rfl rfl)
theorem d_Fz_becomeHeat_5 : decode prog_4_method_8_code 5 = .ok (.iaload, 1) := zo_46 (zd_b zq_prog_4_method_8_code_0 5 rfl rfl rfl)
theorem d_Fz_becomeHeat_6 : decode prog_4_method_8_code 6 = .ok (.sipush 401, 3) := zo_17 (d := 1) (e := 145) (zd_b zq_prog_4_method_8_code_0 6 rfl rfl rfl) (zd_b zq_prog_4_method_8_code_0 7 rfl rfl rfl) (zd_b zq_prog_4_method_8_code_0 8 rfl rfl rfl) (by decide +kernel)
theorem d_Fz_becomeHeat_9 : decode prog_4_method_8_code 9 = .ok (.if_icmp .ne 10, 3) := zo_160 (d := 0) (e := 10) (zd_b zq_prog_4_method_8_code_0 9 rfl rfl rfl) (zd_b zq_prog_4_method_8_code_0 10 rfl rfl rfl) (zd_b zq_prog_4_method_8_code_0 11 rfl rfl rfl) (by decide +kernel)
theorem d_Fz_becomeHeat_19 : decode prog_4_method_8_code 19 = .ok (.aload_n 0, 1) := zo_42 (zd_b zq_prog_4_method_8_code_0 19 rfl rfl rfl)
theorem d_Fz_becomeHeat_20 : decode prog_4_method_8_code 20 = .ok (.getfield 9, 3) := zo_180 (d := 0) (e := 9) (zd_b zq_prog_4_method_8_code_0 20 rfl rfl rfl) (zd_b zq_prog_4_method_8_code_0 21 rfl rfl rfl) (zd_b zq_prog_4_method_8_code_0 22 rfl rfl rfl)
theorem fs_Fz_9 : z_fs "Ironpour$Freezing" 9 2 0 := ⟨R_Fz, "Ironpour$Freezing", F_Fz, 7, rfl, u_Fz, by decide, Or.inl ⟨z_mj1 (i := 83) rfl (by decide +kernel), Or.inl rfl⟩⟩
theorem d_Fz_becomeHeat_23 : decode prog_4_method_8_code 23 = .ok (.iload_n 1, 1) := zo_27 (zd_b zq_prog_4_method_8_code_0 23 rfl rfl rfl)
theorem d_Fz_becomeHeat_24 : decode prog_4_method_8_code 24 = .ok (.iload_n 2, 1) := zo_28 (zd_b zq_prog_4_method_8_code_0 24 rfl rfl rfl)
theorem d_Fz_becomeHeat_25 : decode prog_4_method_8_code 25 = .ok (.iastore, 1) := zo_79 (zd_b zq_prog_4_method_8_code_0 25 rfl rfl rfl)
theorem d_Fz_becomeHeat_26 : decode prog_4_method_8_code 26 = .ok (.return_, 1) := zo_177 (zd_b zq_prog_4_method_8_code_0 26 rfl rfl rfl)
theorem d_Fz_becomeHeat_12 : decode prog_4_method_8_code 12 = .ok (.iload_n 2, 1) := zo_28 (zd_b zq_prog_4_method_8_code_0 12 rfl rfl rfl)
theorem d_Fz_becomeHeat_13 : decode prog_4_method_8_code 13 = .ok (.sipush 1150, 3) := zo_17 (d := 4) (e := 126) (zd_b zq_prog_4_method_8_code_0 13 rfl rfl rfl) (zd_b zq_prog_4_method_8_code_0 14 rfl rfl rfl) (zd_b zq_prog_4_method_8_code_0 15 rfl rfl rfl) (by decide +kernel)
theorem d_Fz_becomeHeat_16 : decode prog_4_method_8_code 16 = .ok (.if_icmp .lt 11, 3) := zo_161 (d := 0) (e := 11) (zd_b zq_prog_4_method_8_code_0 16 rfl rfl rfl) (zd_b zq_prog_4_method_8_code_0 17 rfl rfl rfl) (zd_b zq_prog_4_method_8_code_0 18 rfl rfl rfl) (by decide +kernel)
theorem d_Fz_becomeHeat_27 : decode prog_4_method_8_code 27 = .ok (.aload_n 0, 1) := zo_42 (zd_b zq_prog_4_method_8_code_0 27 rfl rfl rfl)
theorem d_Fz_becomeHeat_28 : decode prog_4_method_8_code 28 = .ok (.getfield 9, 3) := zo_180 (d := 0) (e := 9) (zd_b zq_prog_4_method_8_code_0 28 rfl rfl rfl) (zd_b zq_prog_4_method_8_code_0 29 rfl rfl rfl) (zd_b zq_prog_4_method_8_code_0 30 rfl rfl rfl)
theorem d_Fz_becomeHeat_31 : decode prog_4_method_8_code 31 = .ok (.iload_n 1, 1) := zo_27 (zd_b zq_prog_4_method_8_code_0 31 rfl rfl rfl)
theorem d_Fz_becomeHeat_32 : decode prog_4_method_8_code 32 = .ok (.sipush 1150, 3) := zo_17 (d := 4) (e := 126) (zd_b zq_prog_4_method_8_code_1 0 rfl rfl rfl) (zd_b zq_prog_4_method_8_code_1 1 rfl rfl rfl) (zd_b zq_prog_4_method_8_code_1 2 rfl rfl rfl) (by decide +kernel)
theorem d_Fz_becomeHeat_35 : decode prog_4_method_8_code 35 = .ok (.iastore, 1) := zo_79 (zd_b zq_prog_4_method_8_code_1 3 rfl rfl rfl)
theorem d_Fz_becomeHeat_36 : decode prog_4_method_8_code 36 = .ok (.aload_n 0, 1) := zo_42 (zd_b zq_prog_4_method_8_code_1 4 rfl rfl rfl)
theorem d_Fz_becomeHeat_37 : decode prog_4_method_8_code 37 = .ok (.getfield 18, 3) := zo_180 (d := 0) (e := 18) (zd_b zq_prog_4_method_8_code_1 5 rfl rfl rfl) (zd_b zq_prog_4_method_8_code_1 6 rfl rfl rfl) (zd_b zq_prog_4_method_8_code_1 7 rfl rfl rfl)
theorem fs_Fz_18 : z_fs "Ironpour$Freezing" 18 2 2 := ⟨R_Fz, "Ironpour$Freezing", F_Fz, 7, rfl, u_Fz, by decide, Or.inl ⟨z_mj1 (i := 86) rfl (by decide +kernel), Or.inl rfl⟩⟩
theorem d_Fz_becomeHeat_40 : decode prog_4_method_8_code 40 = .ok (.iload_n 1, 1) := zo_27 (zd_b zq_prog_4_method_8_code_1 8 rfl rfl rfl)
theorem d_Fz_becomeHeat_41 : decode prog_4_method_8_code 41 = .ok (.dup2, 1) := zo_92 (zd_b zq_prog_4_method_8_code_1 9 rfl rfl rfl)
theorem d_Fz_becomeHeat_42 : decode prog_4_method_8_code 42 = .ok (.iaload, 1) := zo_46 (zd_b zq_prog_4_method_8_code_1 10 rfl rfl rfl)
theorem d_Fz_becomeHeat_43 : decode prog_4_method_8_code 43 = .ok (.sipush 1150, 3) := zo_17 (d := 4) (e := 126) (zd_b zq_prog_4_method_8_code_1 11 rfl rfl rfl) (zd_b zq_prog_4_method_8_code_1 12 rfl rfl rfl) (zd_b zq_prog_4_method_8_code_1 13 rfl rfl rfl) (by decide +kernel)
theorem d_Fz_becomeHeat_46 : decode prog_4_method_8_code 46 = .ok (.iload_n 2, 1) := zo_28 (zd_b zq_prog_4_method_8_code_1 14 rfl rfl rfl)
theorem d_Fz_becomeHeat_47 : decode prog_4_method_8_code 47 = .ok (.isub, 1) := zo_100 (zd_b zq_prog_4_method_8_code_1 15 rfl rfl rfl)
theorem d_Fz_becomeHeat_48 : decode prog_4_method_8_code 48 = .ok (.isub, 1) := zo_100 (zd_b zq_prog_4_method_8_code_1 16 rfl rfl rfl)
theorem d_Fz_becomeHeat_49 : decode prog_4_method_8_code 49 = .ok (.iastore, 1) := zo_79 (zd_b zq_prog_4_method_8_code_1 17 rfl rfl rfl)
theorem d_Fz_becomeHeat_50 : decode prog_4_method_8_code 50 = .ok (.aload_n 0, 1) := zo_42 (zd_b zq_prog_4_method_8_code_1 18 rfl rfl rfl)
theorem d_Fz_becomeHeat_51 : decode prog_4_method_8_code 51 = .ok (.getfield 18, 3) := zo_180 (d := 0) (e := 18) (zd_b zq_prog_4_method_8_code_1 19 rfl rfl rfl) (zd_b zq_prog_4_method_8_code_1 20 rfl rfl rfl) (zd_b zq_prog_4_method_8_code_1 21 rfl rfl rfl)
theorem d_Fz_becomeHeat_54 : decode prog_4_method_8_code 54 = .ok (.iload_n 1, 1) := zo_27 (zd_b zq_prog_4_method_8_code_1 22 rfl rfl rfl)
theorem d_Fz_becomeHeat_55 : decode prog_4_method_8_code 55 = .ok (.iaload, 1) := zo_46 (zd_b zq_prog_4_method_8_code_1 23 rfl rfl rfl)
theorem d_Fz_becomeHeat_56 : decode prog_4_method_8_code 56 = .ok (.ifCond .gt 20, 3) := zo_157 (d := 0) (e := 20) (zd_b zq_prog_4_method_8_code_1 24 rfl rfl rfl) (zd_b zq_prog_4_method_8_code_1 25 rfl rfl rfl) (zd_b zq_prog_4_method_8_code_1 26 rfl rfl rfl) (by decide +kernel)
theorem d_Fz_becomeHeat_76 : decode prog_4_method_8_code 76 = .ok (.return_, 1) := zo_177 (zd_b zq_prog_4_method_8_code_2 12 rfl rfl rfl)
theorem d_Fz_becomeHeat_59 : decode prog_4_method_8_code 59 = .ok (.aload_n 0, 1) := zo_42 (zd_b zq_prog_4_method_8_code_1 27 rfl rfl rfl)
theorem d_Fz_becomeHeat_60 : decode prog_4_method_8_code 60 = .ok (.getfield 21, 3) := zo_180 (d := 0) (e := 21) (zd_b zq_prog_4_method_8_code_1 28 rfl rfl rfl) (zd_b zq_prog_4_method_8_code_1 29 rfl rfl rfl) (zd_b zq_prog_4_method_8_code_1 30 rfl rfl rfl)
theorem d_Fz_becomeHeat_63 : decode prog_4_method_8_code 63 = .ok (.iload_n 1, 1) := zo_27 (zd_b zq_prog_4_method_8_code_1 31 rfl rfl rfl)
theorem d_Fz_becomeHeat_64 : decode prog_4_method_8_code 64 = .ok (.iload_n 3, 1) := zo_29 (zd_b zq_prog_4_method_8_code_2 0 rfl rfl rfl)
theorem d_Fz_becomeHeat_65 : decode prog_4_method_8_code 65 = .ok (.iastore, 1) := zo_79 (zd_b zq_prog_4_method_8_code_2 1 rfl rfl rfl)
theorem d_Fz_becomeHeat_66 : decode prog_4_method_8_code 66 = .ok (.aload_n 0, 1) := zo_42 (zd_b zq_prog_4_method_8_code_2 2 rfl rfl rfl)
theorem d_Fz_becomeHeat_67 : decode prog_4_method_8_code 67 = .ok (.dup, 1) := zo_89 (zd_b zq_prog_4_method_8_code_2 3 rfl rfl rfl)
theorem d_Fz_becomeHeat_68 : decode prog_4_method_8_code 68 = .ok (.getfield 30, 3) := zo_180 (d := 0) (e := 30) (zd_b zq_prog_4_method_8_code_2 4 rfl rfl rfl) (zd_b zq_prog_4_method_8_code_2 5 rfl rfl rfl) (zd_b zq_prog_4_method_8_code_2 6 rfl rfl rfl)
theorem fs_Fz_30 : z_fs "Ironpour$Freezing" 30 2 6 := ⟨R_Fz, "Ironpour$Freezing", F_Fz, 7, rfl, u_Fz, by decide, Or.inl ⟨z_mj1 (i := 92) rfl (by decide +kernel), Or.inl rfl⟩⟩
theorem d_Fz_becomeHeat_71 : decode prog_4_method_8_code 71 = .ok (.iconst 1, 1) := zo_4 (zd_b zq_prog_4_method_8_code_2 7 rfl rfl rfl)
theorem d_Fz_becomeHeat_72 : decode prog_4_method_8_code 72 = .ok (.isub, 1) := zo_100 (zd_b zq_prog_4_method_8_code_2 8 rfl rfl rfl)
theorem d_Fz_becomeHeat_73 : decode prog_4_method_8_code 73 = .ok (.putfield 30, 3) := zo_181 (d := 0) (e := 30) (zd_b zq_prog_4_method_8_code_2 9 rfl rfl rfl) (zd_b zq_prog_4_method_8_code_2 10 rfl rfl rfl) (zd_b zq_prog_4_method_8_code_2 11 rfl rfl rfl)
theorem fp_Fz_30 : z_fp "Ironpour$Freezing" 30 2 6 false .int := ⟨R_Fz, "Ironpour$Freezing", F_Fz, 7, t_Fz, rfl, u_Fz, by decide, t_Fz_ok, n_Fz, rfl, rfl, Or.inl ⟨z_mj1 (i := 92) rfl (by decide +kernel), Or.inl rfl, fun h => nomatch h⟩⟩
set_option maxHeartbeats 4000000 in
set_option maxRecDepth 100000 in
theorem C_Fz_becomeHeat (g : zG) (a a1 a2 a3 a4 a5 a6 : Nat) (F1 F2 F3 F4 F5 F6 : Nat → Int32) (liq : Int32) (c : Nat) (hc : c < 108) (nx st : Int32) : CT g M_Fz_becomeHeat [.ref a, .int (nI c), .int nx, .int st] [(a, .inr (2, [.ref a1, .ref a2, .ref a3, .ref a4, .ref a5, .ref a6, .int liq])), (a1, .inl (0, 108, .inl F1)), (a2, .inl (0, 108, .inl F2)), (a3, .inl (0, 108, .inl F3)), (a4, .inl (0, 108, .inl F4)), (a5, .inl (0, 108, .inl F5)), (a6, .inl (0, 108, .inl F6))] (fun o cs1 => o = .inl none ∧ cs1 = [(a, .inr (2, [.ref a1, .ref a2, .ref a3, .ref a4, .ref a5, .ref a6, .int ((bhS c nx st (F1, F3, F4, liq)).2.2.2)])), (a1, .inl (0, 108, .inl ((bhS c nx st (F1, F3, F4, liq)).1))), (a2, .inl (0, 108, .inl F2)), (a3, .inl (0, 108, .inl ((bhS c nx st (F1, F3, F4, liq)).2.1))), (a4, .inl (0, 108, .inl ((bhS c nx st (F1, F3, F4, liq)).2.2.1))), (a5, .inl (0, 108, .inl F5)), (a6, .inl (0, 108, .inl F6))]) 0 0 := by
  refine z_of (by decide) rfl (Nat.le_of_ble_eq_true rfl) (fun w0 => ?_)
  refine r_lvE (lv2 := [(0, .ref a), (1, .int (nI c)), (2, .int nx), (3, .int st)]) rfl ?_
  refine r_aload_n d_Fz_becomeHeat_0 rfl 0 rfl ?_
  refine r_get fs_Fz_21 d_Fz_becomeHeat_1 (q0 := 0) rfl rfl ?_
  refine r_iload_n d_Fz_becomeHeat_4 rfl 1 rfl ?_
  refine r_iald d_Fz_becomeHeat_5 (q0 := 4) rfl (vp_in_nI (by omega) (by omega)) (v := F4 c) (by rw [nI_clamp (by omega)]) ?_
  refine r_sipush d_Fz_becomeHeat_6 (v := 401) (by decide) ?_
  refine r_icmp_ne (tgt := 19) d_Fz_becomeHeat_9 (by decide) (fun c_9 => ?_) (fun c_9 => ?_)
  · refine r_aload_n d_Fz_becomeHeat_19 rfl 0 rfl ?_
    refine r_get fs_Fz_9 d_Fz_becomeHeat_20 (q0 := 0) rfl rfl ?_
    refine r_iload_n d_Fz_becomeHeat_23 rfl 1 rfl ?_
    refine r_iload_n d_Fz_becomeHeat_24 rfl 2 rfl ?_
    refine r_iast d_Fz_becomeHeat_25 (q0 := 1) rfl (vp_in_nI (by omega) (by omega)) (f' := upd F1 c nx) (by rw [nI_clamp (by omega)]) (cs' := [(a, .inr (2, [.ref a1, .ref a2, .ref a3, .ref a4, .ref a5, .ref a6, .int liq])), (a1, .inl (0, 108, .inl (upd F1 c nx))), (a2, .inl (0, 108, .inl F2)), (a3, .inl (0, 108, .inl F3)), (a4, .inl (0, 108, .inl F4)), (a5, .inl (0, 108, .inl F5)), (a6, .inl (0, 108, .inl F6))]) rfl ?_
    refine r_vret d_Fz_becomeHeat_26 rfl ?_
    refine ⟨rfl, ?_⟩
    unfold bhS
    first | (rw [if_pos (Or.inl (by assumption))] <;> rfl) | (rw [if_pos (Or.inr (by assumption))] <;> rfl) | (rw [if_neg (by rintro (h | h) <;> contradiction)]; first | (rw [if_pos (by assumption)] <;> rfl) | (rw [if_neg (by assumption)] <;> rfl))
  · refine r_iload_n d_Fz_becomeHeat_12 rfl 2 rfl ?_
    refine r_sipush d_Fz_becomeHeat_13 (v := 1150) (by decide) ?_
    refine r_icmp_lt (tgt := 27) d_Fz_becomeHeat_16 (by decide) (fun c_16 => ?_) (fun c_16 => ?_)
    · refine r_aload_n d_Fz_becomeHeat_27 rfl 0 rfl ?_
      refine r_get fs_Fz_9 d_Fz_becomeHeat_28 (q0 := 0) rfl rfl ?_
      refine r_iload_n d_Fz_becomeHeat_31 rfl 1 rfl ?_
      refine r_sipush d_Fz_becomeHeat_32 (v := 1150) (by decide) ?_
      refine r_iast d_Fz_becomeHeat_35 (q0 := 1) rfl (vp_in_nI (by omega) (by omega)) (f' := upd F1 c 1150) (by rw [nI_clamp (by omega)]) (cs' := [(a, .inr (2, [.ref a1, .ref a2, .ref a3, .ref a4, .ref a5, .ref a6, .int liq])), (a1, .inl (0, 108, .inl (upd F1 c 1150))), (a2, .inl (0, 108, .inl F2)), (a3, .inl (0, 108, .inl F3)), (a4, .inl (0, 108, .inl F4)), (a5, .inl (0, 108, .inl F5)), (a6, .inl (0, 108, .inl F6))]) rfl ?_
      refine r_aload_n d_Fz_becomeHeat_36 rfl 0 rfl ?_
      refine r_get fs_Fz_18 d_Fz_becomeHeat_37 (q0 := 0) rfl rfl ?_
      refine r_iload_n d_Fz_becomeHeat_40 rfl 1 rfl ?_
      refine r_dup2_11 d_Fz_becomeHeat_41 rfl rfl ?_
      refine r_iald d_Fz_becomeHeat_42 (q0 := 3) rfl (vp_in_nI (by omega) (by omega)) (v := F3 c) (by rw [nI_clamp (by omega)]) ?_
      refine r_sipush d_Fz_becomeHeat_43 (v := 1150) (by decide) ?_
      refine r_iload_n d_Fz_becomeHeat_46 rfl 2 rfl ?_
      refine r_isub d_Fz_becomeHeat_47 (v := 1150 - nx) rfl ?_
      refine r_isub d_Fz_becomeHeat_48 (v := (F3 c) - (1150 - nx)) rfl ?_
      refine r_iast d_Fz_becomeHeat_49 (q0 := 3) rfl (vp_in_nI (by omega) (by omega)) (f' := upd F3 c ((F3 c) - (1150 - nx))) (by rw [nI_clamp (by omega)]) (cs' := [(a, .inr (2, [.ref a1, .ref a2, .ref a3, .ref a4, .ref a5, .ref a6, .int liq])), (a1, .inl (0, 108, .inl (upd F1 c 1150))), (a2, .inl (0, 108, .inl F2)), (a3, .inl (0, 108, .inl (upd F3 c ((F3 c) - (1150 - nx))))), (a4, .inl (0, 108, .inl F4)), (a5, .inl (0, 108, .inl F5)), (a6, .inl (0, 108, .inl F6))]) rfl ?_
      refine r_aload_n d_Fz_becomeHeat_50 rfl 0 rfl ?_
      refine r_get fs_Fz_18 d_Fz_becomeHeat_51 (q0 := 0) rfl rfl ?_
      refine r_iload_n d_Fz_becomeHeat_54 rfl 1 rfl ?_
      refine r_iald d_Fz_becomeHeat_55 (q0 := 3) rfl (vp_in_nI (by omega) (by omega)) (v := F3 c - (1150 - nx)) (by rw [nI_clamp (by omega)]; exact if_pos rfl) ?_
      refine r_if_gt (tgt := 76) d_Fz_becomeHeat_56 (by decide) (fun c_56 => ?_) (fun c_56 => ?_)
      · refine r_vret d_Fz_becomeHeat_76 rfl ?_
        refine ⟨rfl, ?_⟩
        unfold bhS
        first | (rw [if_pos (Or.inl (by assumption))] <;> rfl) | (rw [if_pos (Or.inr (by assumption))] <;> rfl) | (rw [if_neg (by rintro (h | h) <;> contradiction)]; first | (rw [if_pos (by assumption)] <;> rfl) | (rw [if_neg (by assumption)] <;> rfl))
      · refine r_aload_n d_Fz_becomeHeat_59 rfl 0 rfl ?_
        refine r_get fs_Fz_21 d_Fz_becomeHeat_60 (q0 := 0) rfl rfl ?_
        refine r_iload_n d_Fz_becomeHeat_63 rfl 1 rfl ?_
        refine r_iload_n d_Fz_becomeHeat_64 rfl 3 rfl ?_
        refine r_iast d_Fz_becomeHeat_65 (q0 := 4) rfl (vp_in_nI (by omega) (by omega)) (f' := upd F4 c st) (by rw [nI_clamp (by omega)]) (cs' := [(a, .inr (2, [.ref a1, .ref a2, .ref a3, .ref a4, .ref a5, .ref a6, .int liq])), (a1, .inl (0, 108, .inl (upd F1 c 1150))), (a2, .inl (0, 108, .inl F2)), (a3, .inl (0, 108, .inl (upd F3 c ((F3 c) - (1150 - nx))))), (a4, .inl (0, 108, .inl (upd F4 c st))), (a5, .inl (0, 108, .inl F5)), (a6, .inl (0, 108, .inl F6))]) rfl ?_
        refine r_aload_n d_Fz_becomeHeat_66 rfl 0 rfl ?_
        refine r_dup d_Fz_becomeHeat_67 rfl ?_
        refine r_get fs_Fz_30 d_Fz_becomeHeat_68 (q0 := 0) rfl rfl ?_
        refine r_iconst d_Fz_becomeHeat_71 (v := 1) (by decide) ?_
        refine r_isub d_Fz_becomeHeat_72 (v := liq - 1) rfl ?_
        refine r_put fp_Fz_30 d_Fz_becomeHeat_73 (fun h => nomatch h) rfl rfl (q0 := 0) rfl (Nat.le_of_ble_eq_true rfl) (cs' := [(a, .inr (2, [.ref a1, .ref a2, .ref a3, .ref a4, .ref a5, .ref a6, .int (liq - 1)])), (a1, .inl (0, 108, .inl (upd F1 c 1150))), (a2, .inl (0, 108, .inl F2)), (a3, .inl (0, 108, .inl (upd F3 c ((F3 c) - (1150 - nx))))), (a4, .inl (0, 108, .inl (upd F4 c st))), (a5, .inl (0, 108, .inl F5)), (a6, .inl (0, 108, .inl F6))]) rfl ?_
        refine r_vret d_Fz_becomeHeat_76 rfl ?_
        refine ⟨rfl, ?_⟩
        unfold bhS
        first | (rw [if_pos (Or.inl (by assumption))] <;> rfl) | (rw [if_pos (Or.inr (by assumption))] <;> rfl) | (rw [if_neg (by rintro (h | h) <;> contradiction)]; first | (rw [if_pos (by assumption)] <;> rfl) | (rw [if_neg (by assumption)] <;> rfl))
    · refine r_aload_n d_Fz_becomeHeat_19 rfl 0 rfl ?_
      refine r_get fs_Fz_9 d_Fz_becomeHeat_20 (q0 := 0) rfl rfl ?_
      refine r_iload_n d_Fz_becomeHeat_23 rfl 1 rfl ?_
      refine r_iload_n d_Fz_becomeHeat_24 rfl 2 rfl ?_
      refine r_iast d_Fz_becomeHeat_25 (q0 := 1) rfl (vp_in_nI (by omega) (by omega)) (f' := upd F1 c nx) (by rw [nI_clamp (by omega)]) (cs' := [(a, .inr (2, [.ref a1, .ref a2, .ref a3, .ref a4, .ref a5, .ref a6, .int liq])), (a1, .inl (0, 108, .inl (upd F1 c nx))), (a2, .inl (0, 108, .inl F2)), (a3, .inl (0, 108, .inl F3)), (a4, .inl (0, 108, .inl F4)), (a5, .inl (0, 108, .inl F5)), (a6, .inl (0, 108, .inl F6))]) rfl ?_
      refine r_vret d_Fz_becomeHeat_26 rfl ?_
      refine ⟨rfl, ?_⟩
      unfold bhS
      first | (rw [if_pos (Or.inl (by assumption))] <;> rfl) | (rw [if_pos (Or.inr (by assumption))] <;> rfl) | (rw [if_neg (by rintro (h | h) <;> contradiction)]; first | (rw [if_pos (by assumption)] <;> rfl) | (rw [if_neg (by assumption)] <;> rfl))
abbrev M_Fz_exchange : zM := (⟨"Ironpour$Freezing", "exchange", "(III)V"⟩, prog_4_method_6_code, 5, (Option.none : Option FieldType), 1, 20, [])
theorem d_Fz_exchange_0 : decode prog_4_method_6_code 0 = .ok (.aload_n 0, 1) := zo_42 (zd_b zq_prog_4_method_6_code_0 0 rfl rfl rfl)
theorem d_Fz_exchange_1 : decode prog_4_method_6_code 1 = .ok (.getfield 9, 3) := zo_180 (d := 0) (e := 9) (zd_b zq_prog_4_method_6_code_0 1 rfl rfl rfl) (zd_b zq_prog_4_method_6_code_0 2 rfl rfl rfl) (zd_b zq_prog_4_method_6_code_0 3 rfl rfl rfl)
theorem d_Fz_exchange_4 : decode prog_4_method_6_code 4 = .ok (.iload_n 2, 1) := zo_28 (zd_b zq_prog_4_method_6_code_0 4 rfl rfl rfl)
theorem d_Fz_exchange_5 : decode prog_4_method_6_code 5 = .ok (.iaload, 1) := zo_46 (zd_b zq_prog_4_method_6_code_0 5 rfl rfl rfl)
theorem d_Fz_exchange_6 : decode prog_4_method_6_code 6 = .ok (.aload_n 0, 1) := zo_42 (zd_b zq_prog_4_method_6_code_0 6 rfl rfl rfl)
theorem d_Fz_exchange_7 : decode prog_4_method_6_code 7 = .ok (.getfield 9, 3) := zo_180 (d := 0) (e := 9) (zd_b zq_prog_4_method_6_code_0 7 rfl rfl rfl) (zd_b zq_prog_4_method_6_code_0 8 rfl rfl rfl) (zd_b zq_prog_4_method_6_code_0 9 rfl rfl rfl)
theorem d_Fz_exchange_10 : decode prog_4_method_6_code 10 = .ok (.iload_n 1, 1) := zo_27 (zd_b zq_prog_4_method_6_code_0 10 rfl rfl rfl)
theorem d_Fz_exchange_11 : decode prog_4_method_6_code 11 = .ok (.iaload, 1) := zo_46 (zd_b zq_prog_4_method_6_code_0 11 rfl rfl rfl)
theorem d_Fz_exchange_12 : decode prog_4_method_6_code 12 = .ok (.isub, 1) := zo_100 (zd_b zq_prog_4_method_6_code_0 12 rfl rfl rfl)
theorem d_Fz_exchange_13 : decode prog_4_method_6_code 13 = .ok (.iload_n 3, 1) := zo_29 (zd_b zq_prog_4_method_6_code_0 13 rfl rfl rfl)
theorem d_Fz_exchange_14 : decode prog_4_method_6_code 14 = .ok (.imul, 1) := zo_104 (zd_b zq_prog_4_method_6_code_0 14 rfl rfl rfl)
theorem d_Fz_exchange_15 : decode prog_4_method_6_code 15 = .ok (.bipush 64, 2) := zo_16 (d := 64) (zd_b zq_prog_4_method_6_code_0 15 rfl rfl rfl) (zd_b zq_prog_4_method_6_code_0 16 rfl rfl rfl) (by decide +kernel)
theorem d_Fz_exchange_17 : decode prog_4_method_6_code 17 = .ok (.idiv, 1) := zo_108 (zd_b zq_prog_4_method_6_code_0 17 rfl rfl rfl)
theorem d_Fz_exchange_18 : decode prog_4_method_6_code 18 = .ok (.istore 4, 2) := zo_54 (d := 4) (zd_b zq_prog_4_method_6_code_0 18 rfl rfl rfl) (zd_b zq_prog_4_method_6_code_0 19 rfl rfl rfl)
theorem d_Fz_exchange_20 : decode prog_4_method_6_code 20 = .ok (.aload_n 0, 1) := zo_42 (zd_b zq_prog_4_method_6_code_0 20 rfl rfl rfl)
theorem d_Fz_exchange_21 : decode prog_4_method_6_code 21 = .ok (.getfield 15, 3) := zo_180 (d := 0) (e := 15) (zd_b zq_prog_4_method_6_code_0 21 rfl rfl rfl) (zd_b zq_prog_4_method_6_code_0 22 rfl rfl rfl) (zd_b zq_prog_4_method_6_code_0 23 rfl rfl rfl)
theorem fs_Fz_15 : z_fs "Ironpour$Freezing" 15 2 1 := ⟨R_Fz, "Ironpour$Freezing", F_Fz, 7, rfl, u_Fz, by decide, Or.inl ⟨z_mj1 (i := 85) rfl (by decide +kernel), Or.inl rfl⟩⟩
theorem d_Fz_exchange_24 : decode prog_4_method_6_code 24 = .ok (.iload_n 1, 1) := zo_27 (zd_b zq_prog_4_method_6_code_0 24 rfl rfl rfl)
theorem d_Fz_exchange_25 : decode prog_4_method_6_code 25 = .ok (.dup2, 1) := zo_92 (zd_b zq_prog_4_method_6_code_0 25 rfl rfl rfl)
theorem d_Fz_exchange_26 : decode prog_4_method_6_code 26 = .ok (.iaload, 1) := zo_46 (zd_b zq_prog_4_method_6_code_0 26 rfl rfl rfl)
theorem d_Fz_exchange_27 : decode prog_4_method_6_code 27 = .ok (.iload 4, 2) := zo_21 (d := 4) (zd_b zq_prog_4_method_6_code_0 27 rfl rfl rfl) (zd_b zq_prog_4_method_6_code_0 28 rfl rfl rfl)
theorem d_Fz_exchange_29 : decode prog_4_method_6_code 29 = .ok (.iadd, 1) := zo_96 (zd_b zq_prog_4_method_6_code_0 29 rfl rfl rfl)
theorem d_Fz_exchange_30 : decode prog_4_method_6_code 30 = .ok (.iastore, 1) := zo_79 (zd_b zq_prog_4_method_6_code_0 30 rfl rfl rfl)
theorem d_Fz_exchange_31 : decode prog_4_method_6_code 31 = .ok (.aload_n 0, 1) := zo_42 (zd_b zq_prog_4_method_6_code_0 31 rfl rfl rfl)
theorem d_Fz_exchange_32 : decode prog_4_method_6_code 32 = .ok (.getfield 15, 3) := zo_180 (d := 0) (e := 15) (zd_b zq_prog_4_method_6_code_1 0 rfl rfl rfl) (zd_b zq_prog_4_method_6_code_1 1 rfl rfl rfl) (zd_b zq_prog_4_method_6_code_1 2 rfl rfl rfl)
theorem d_Fz_exchange_35 : decode prog_4_method_6_code 35 = .ok (.iload_n 2, 1) := zo_28 (zd_b zq_prog_4_method_6_code_1 3 rfl rfl rfl)
theorem d_Fz_exchange_36 : decode prog_4_method_6_code 36 = .ok (.dup2, 1) := zo_92 (zd_b zq_prog_4_method_6_code_1 4 rfl rfl rfl)
theorem d_Fz_exchange_37 : decode prog_4_method_6_code 37 = .ok (.iaload, 1) := zo_46 (zd_b zq_prog_4_method_6_code_1 5 rfl rfl rfl)
theorem d_Fz_exchange_38 : decode prog_4_method_6_code 38 = .ok (.iload 4, 2) := zo_21 (d := 4) (zd_b zq_prog_4_method_6_code_1 6 rfl rfl rfl) (zd_b zq_prog_4_method_6_code_1 7 rfl rfl rfl)
theorem d_Fz_exchange_40 : decode prog_4_method_6_code 40 = .ok (.isub, 1) := zo_100 (zd_b zq_prog_4_method_6_code_1 8 rfl rfl rfl)
theorem d_Fz_exchange_41 : decode prog_4_method_6_code 41 = .ok (.iastore, 1) := zo_79 (zd_b zq_prog_4_method_6_code_1 9 rfl rfl rfl)
theorem d_Fz_exchange_42 : decode prog_4_method_6_code 42 = .ok (.return_, 1) := zo_177 (zd_b zq_prog_4_method_6_code_1 10 rfl rfl rfl)
set_option maxHeartbeats 4000000 in
set_option maxRecDepth 100000 in
theorem C_Fz_exchange (g : zG) (a a1 a2 a3 a4 a5 a6 : Nat) (F1 F2 F3 F4 F5 F6 : Nat → Int32) (liq : Int32) (oo p : Nat) (ho : oo < 108) (hp : p < 108) (num : Int32) : CT g M_Fz_exchange [.ref a, .int (nI oo), .int (nI p), .int num] [(a, .inr (2, [.ref a1, .ref a2, .ref a3, .ref a4, .ref a5, .ref a6, .int liq])), (a1, .inl (0, 108, .inl F1)), (a2, .inl (0, 108, .inl F2)), (a3, .inl (0, 108, .inl F3)), (a4, .inl (0, 108, .inl F4)), (a5, .inl (0, 108, .inl F5)), (a6, .inl (0, 108, .inl F6))] (fun o cs1 => o = .inl none ∧ cs1 = [(a, .inr (2, [.ref a1, .ref a2, .ref a3, .ref a4, .ref a5, .ref a6, .int liq])), (a1, .inl (0, 108, .inl F1)), (a2, .inl (0, 108, .inl (exS F1 oo p num F2))), (a3, .inl (0, 108, .inl F3)), (a4, .inl (0, 108, .inl F4)), (a5, .inl (0, 108, .inl F5)), (a6, .inl (0, 108, .inl F6))]) 0 0 := by
  refine z_of (by decide) rfl (Nat.le_of_ble_eq_true rfl) (fun w0 => ?_)
  refine r_lvE (lv2 := [(0, .ref a), (1, .int (nI oo)), (2, .int (nI p)), (3, .int num)]) rfl ?_
  refine r_aload_n d_Fz_exchange_0 rfl 0 rfl ?_
  refine r_get fs_Fz_9 d_Fz_exchange_1 (q0 := 0) rfl rfl ?_
  refine r_iload_n d_Fz_exchange_4 rfl 2 rfl ?_
  refine r_iald d_Fz_exchange_5 (q0 := 1) rfl (vp_in_nI (by omega) (by omega)) (v := F1 p) (by rw [nI_clamp (by omega)]) ?_
  refine r_aload_n d_Fz_exchange_6 rfl 0 rfl ?_
  refine r_get fs_Fz_9 d_Fz_exchange_7 (q0 := 0) rfl rfl ?_
  refine r_iload_n d_Fz_exchange_10 rfl 1 rfl ?_
  refine r_iald d_Fz_exchange_11 (q0 := 1) rfl (vp_in_nI (by omega) (by omega)) (v := F1 oo) (by rw [nI_clamp (by omega)]) ?_
  refine r_isub d_Fz_exchange_12 (v := (F1 p) - (F1 oo)) rfl ?_
  refine r_iload_n d_Fz_exchange_13 rfl 3 rfl ?_
  refine r_imul d_Fz_exchange_14 (v := ((F1 p) - (F1 oo)) * num) rfl ?_
  refine r_bipush d_Fz_exchange_15 (v := 64) (by decide) ?_
  refine r_idiv d_Fz_exchange_17 (v := (((F1 p) - (F1 oo)) * num) / 64) (by decide) rfl ?_
  refine r_istore (lv' := [(4, .int ((((F1 p) - (F1 oo)) * num) / 64)), (0, .ref a), (1, .int (nI oo)), (2, .int (nI p)), (3, .int num)]) d_Fz_exchange_18 (by decide) rfl ?_
  refine r_aload_n d_Fz_exchange_20 rfl 1 rfl ?_
  refine r_get fs_Fz_15 d_Fz_exchange_21 (q0 := 0) rfl rfl ?_
  refine r_iload_n d_Fz_exchange_24 rfl 2 rfl ?_
  refine r_dup2_11 d_Fz_exchange_25 rfl rfl ?_
  refine r_iald d_Fz_exchange_26 (q0 := 2) rfl (vp_in_nI (by omega) (by omega)) (v := F2 oo) (by rw [nI_clamp (by omega)]) ?_
  refine r_iload d_Fz_exchange_27 0 rfl ?_
  refine r_iadd d_Fz_exchange_29 (v := (F2 oo) + ((((F1 p) - (F1 oo)) * num) / 64)) rfl ?_
  refine r_iast d_Fz_exchange_30 (q0 := 2) rfl (vp_in_nI (by omega) (by omega)) (f' := upd F2 oo ((F2 oo) + ((((F1 p) - (F1 oo)) * num) / 64))) (by rw [nI_clamp (by omega)]) (cs' := [(a, .inr (2, [.ref a1, .ref a2, .ref a3, .ref a4, .ref a5, .ref a6, .int liq])), (a1, .inl (0, 108, .inl F1)), (a2, .inl (0, 108, .inl (upd F2 oo ((F2 oo) + ((((F1 p) - (F1 oo)) * num) / 64))))), (a3, .inl (0, 108, .inl F3)), (a4, .inl (0, 108, .inl F4)), (a5, .inl (0, 108, .inl F5)), (a6, .inl (0, 108, .inl F6))]) rfl ?_
  refine r_aload_n d_Fz_exchange_31 rfl 1 rfl ?_
  refine r_get fs_Fz_15 d_Fz_exchange_32 (q0 := 0) rfl rfl ?_
  refine r_iload_n d_Fz_exchange_35 rfl 3 rfl ?_
  refine r_dup2_11 d_Fz_exchange_36 rfl rfl ?_
  refine r_iald d_Fz_exchange_37 (q0 := 2) rfl (vp_in_nI (by omega) (by omega)) (v := (upd F2 oo ((F2 oo) + ((((F1 p) - (F1 oo)) * num) / 64))) p) (by rw [nI_clamp (by omega)]) ?_
  refine r_iload d_Fz_exchange_38 0 rfl ?_
  refine r_isub d_Fz_exchange_40 (v := ((upd F2 oo ((F2 oo) + ((((F1 p) - (F1 oo)) * num) / 64))) p) - ((((F1 p) - (F1 oo)) * num) / 64)) rfl ?_
  refine r_iast d_Fz_exchange_41 (q0 := 2) rfl (vp_in_nI (by omega) (by omega)) (f' := upd (upd F2 oo ((F2 oo) + ((((F1 p) - (F1 oo)) * num) / 64))) p (((upd F2 oo ((F2 oo) + ((((F1 p) - (F1 oo)) * num) / 64))) p) - ((((F1 p) - (F1 oo)) * num) / 64))) (by rw [nI_clamp (by omega)]) (cs' := [(a, .inr (2, [.ref a1, .ref a2, .ref a3, .ref a4, .ref a5, .ref a6, .int liq])), (a1, .inl (0, 108, .inl F1)), (a2, .inl (0, 108, .inl (upd (upd F2 oo ((F2 oo) + ((((F1 p) - (F1 oo)) * num) / 64))) p (((upd F2 oo ((F2 oo) + ((((F1 p) - (F1 oo)) * num) / 64))) p) - ((((F1 p) - (F1 oo)) * num) / 64))))), (a3, .inl (0, 108, .inl F3)), (a4, .inl (0, 108, .inl F4)), (a5, .inl (0, 108, .inl F5)), (a6, .inl (0, 108, .inl F6))]) rfl ?_
  refine r_vret d_Fz_exchange_42 rfl ?_
  exact ⟨rfl, rfl⟩
abbrev M_Fz_flowFromBeyond : zM := (⟨"Ironpour$Freezing", "flowFromBeyond", "(I)I"⟩, prog_4_method_7_code, 2, (Option.some FieldType.int), 1, 20, [])
theorem d_Fz_flowFromBeyond_0 : decode prog_4_method_7_code 0 = .ok (.bipush 20, 2) := zo_16 (d := 20) (zd_b zq_prog_4_method_7_code_0 0 rfl rfl rfl) (zd_b zq_prog_4_method_7_code_0 1 rfl rfl rfl) (by decide +kernel)
theorem d_Fz_flowFromBeyond_2 : decode prog_4_method_7_code 2 = .ok (.aload_n 0, 1) := zo_42 (zd_b zq_prog_4_method_7_code_0 2 rfl rfl rfl)
theorem d_Fz_flowFromBeyond_3 : decode prog_4_method_7_code 3 = .ok (.getfield 9, 3) := zo_180 (d := 0) (e := 9) (zd_b zq_prog_4_method_7_code_0 3 rfl rfl rfl) (zd_b zq_prog_4_method_7_code_0 4 rfl rfl rfl) (zd_b zq_prog_4_method_7_code_0 5 rfl rfl rfl)
theorem d_Fz_flowFromBeyond_6 : decode prog_4_method_7_code 6 = .ok (.iload_n 1, 1) := zo_27 (zd_b zq_prog_4_method_7_code_0 6 rfl rfl rfl)
theorem d_Fz_flowFromBeyond_7 : decode prog_4_method_7_code 7 = .ok (.iaload, 1) := zo_46 (zd_b zq_prog_4_method_7_code_0 7 rfl rfl rfl)
theorem d_Fz_flowFromBeyond_8 : decode prog_4_method_7_code 8 = .ok (.isub, 1) := zo_100 (zd_b zq_prog_4_method_7_code_0 8 rfl rfl rfl)
theorem d_Fz_flowFromBeyond_9 : decode prog_4_method_7_code 9 = .ok (.iconst 4, 1) := zo_7 (zd_b zq_prog_4_method_7_code_0 9 rfl rfl rfl)
theorem d_Fz_flowFromBeyond_10 : decode prog_4_method_7_code 10 = .ok (.imul, 1) := zo_104 (zd_b zq_prog_4_method_7_code_0 10 rfl rfl rfl)
theorem d_Fz_flowFromBeyond_11 : decode prog_4_method_7_code 11 = .ok (.bipush 64, 2) := zo_16 (d := 64) (zd_b zq_prog_4_method_7_code_0 11 rfl rfl rfl) (zd_b zq_prog_4_method_7_code_0 12 rfl rfl rfl) (by decide +kernel)
theorem d_Fz_flowFromBeyond_13 : decode prog_4_method_7_code 13 = .ok (.idiv, 1) := zo_108 (zd_b zq_prog_4_method_7_code_0 13 rfl rfl rfl)
theorem d_Fz_flowFromBeyond_14 : decode prog_4_method_7_code 14 = .ok (.ireturn, 1) := zo_172 (zd_b zq_prog_4_method_7_code_0 14 rfl rfl rfl)
set_option maxHeartbeats 4000000 in
set_option maxRecDepth 100000 in
theorem C_Fz_flow (g : zG) (a a1 a2 a3 a4 a5 a6 : Nat) (F1 F2 F3 F4 F5 F6 : Nat → Int32) (liq : Int32) (oo : Nat) (ho : oo < 108) : CT g M_Fz_flowFromBeyond [.ref a, .int (nI oo)] [(a, .inr (2, [.ref a1, .ref a2, .ref a3, .ref a4, .ref a5, .ref a6, .int liq])), (a1, .inl (0, 108, .inl F1)), (a2, .inl (0, 108, .inl F2)), (a3, .inl (0, 108, .inl F3)), (a4, .inl (0, 108, .inl F4)), (a5, .inl (0, 108, .inl F5)), (a6, .inl (0, 108, .inl F6))] (fun o cs1 => o = .inl (some (.int (flS F1 oo))) ∧ cs1 = [(a, .inr (2, [.ref a1, .ref a2, .ref a3, .ref a4, .ref a5, .ref a6, .int liq])), (a1, .inl (0, 108, .inl F1)), (a2, .inl (0, 108, .inl F2)), (a3, .inl (0, 108, .inl F3)), (a4, .inl (0, 108, .inl F4)), (a5, .inl (0, 108, .inl F5)), (a6, .inl (0, 108, .inl F6))]) 0 0 := by
  refine z_of (by decide) rfl (Nat.le_of_ble_eq_true rfl) (fun w0 => ?_)
  refine r_lvE (lv2 := [(0, .ref a), (1, .int (nI oo))]) rfl ?_
  refine r_bipush d_Fz_flowFromBeyond_0 (v := 20) (by decide) ?_
  refine r_aload_n d_Fz_flowFromBeyond_2 rfl 0 rfl ?_
  refine r_get fs_Fz_9 d_Fz_flowFromBeyond_3 (q0 := 0) rfl rfl ?_
  refine r_iload_n d_Fz_flowFromBeyond_6 rfl 1 rfl ?_
  refine r_iald d_Fz_flowFromBeyond_7 (q0 := 1) rfl (vp_in_nI (by omega) (by omega)) (v := F1 oo) (by rw [nI_clamp (by omega)]) ?_
  refine r_isub d_Fz_flowFromBeyond_8 (v := 20 - (F1 oo)) rfl ?_
  refine r_iconst d_Fz_flowFromBeyond_9 (v := 4) (by decide) ?_
  refine r_imul d_Fz_flowFromBeyond_10 (v := (20 - (F1 oo)) * 4) rfl ?_
  refine r_bipush d_Fz_flowFromBeyond_11 (v := 64) (by decide) ?_
  refine r_idiv d_Fz_flowFromBeyond_13 (v := ((20 - (F1 oo)) * 4) / 64) (by decide) rfl ?_
  refine r_iret d_Fz_flowFromBeyond_14 rfl rfl ?_
  exact ⟨rfl, rfl⟩
abbrev M_Fz_passingBetween : zM := (⟨"Ironpour$Freezing", "passingBetween", "([C[III)I"⟩, prog_4_method_4_code, 7, (Option.some FieldType.int), 1, 20, [])
theorem d_Fz_passingBetween_0 : decode prog_4_method_4_code 0 = .ok (.aload_n 1, 1) := zo_43 (zd_b zq_prog_4_method_4_code_0 0 rfl rfl rfl)
theorem d_Fz_passingBetween_1 : decode prog_4_method_4_code 1 = .ok (.iload_n 2, 1) := zo_28 (zd_b zq_prog_4_method_4_code_0 1 rfl rfl rfl)
theorem d_Fz_passingBetween_2 : decode prog_4_method_4_code 2 = .ok (.iaload, 1) := zo_46 (zd_b zq_prog_4_method_4_code_0 2 rfl rfl rfl)
theorem d_Fz_passingBetween_3 : decode prog_4_method_4_code 3 = .ok (.ifCond .lt 7, 3) := zo_155 (d := 0) (e := 7) (zd_b zq_prog_4_method_4_code_0 3 rfl rfl rfl) (zd_b zq_prog_4_method_4_code_0 4 rfl rfl rfl) (zd_b zq_prog_4_method_4_code_0 5 rfl rfl rfl) (by decide +kernel)
theorem d_Fz_passingBetween_10 : decode prog_4_method_4_code 10 = .ok (.iconst 0, 1) := zo_3 (zd_b zq_prog_4_method_4_code_0 10 rfl rfl rfl)
theorem d_Fz_passingBetween_11 : decode prog_4_method_4_code 11 = .ok (.istore 4, 2) := zo_54 (d := 4) (zd_b zq_prog_4_method_4_code_0 11 rfl rfl rfl) (zd_b zq_prog_4_method_4_code_0 12 rfl rfl rfl)
theorem d_Fz_passingBetween_13 : decode prog_4_method_4_code 13 = .ok (.aload_n 1, 1) := zo_43 (zd_b zq_prog_4_method_4_code_0 13 rfl rfl rfl)
theorem d_Fz_passingBetween_14 : decode prog_4_method_4_code 14 = .ok (.iload_n 3, 1) := zo_29 (zd_b zq_prog_4_method_4_code_0 14 rfl rfl rfl)
theorem d_Fz_passingBetween_15 : decode prog_4_method_4_code 15 = .ok (.iaload, 1) := zo_46 (zd_b zq_prog_4_method_4_code_0 15 rfl rfl rfl)
theorem d_Fz_passingBetween_16 : decode prog_4_method_4_code 16 = .ok (.ifCond .lt 7, 3) := zo_155 (d := 0) (e := 7) (zd_b zq_prog_4_method_4_code_0 16 rfl rfl rfl) (zd_b zq_prog_4_method_4_code_0 17 rfl rfl rfl) (zd_b zq_prog_4_method_4_code_0 18 rfl rfl rfl) (by decide +kernel)
theorem d_Fz_passingBetween_23 : decode prog_4_method_4_code 23 = .ok (.iconst 0, 1) := zo_3 (zd_b zq_prog_4_method_4_code_0 23 rfl rfl rfl)
theorem d_Fz_passingBetween_24 : decode prog_4_method_4_code 24 = .ok (.istore 5, 2) := zo_54 (d := 5) (zd_b zq_prog_4_method_4_code_0 24 rfl rfl rfl) (zd_b zq_prog_4_method_4_code_0 25 rfl rfl rfl)
theorem d_Fz_passingBetween_26 : decode prog_4_method_4_code 26 = .ok (.iload 4, 2) := zo_21 (d := 4) (zd_b zq_prog_4_method_4_code_0 26 rfl rfl rfl) (zd_b zq_prog_4_method_4_code_0 27 rfl rfl rfl)
theorem d_Fz_passingBetween_28 : decode prog_4_method_4_code 28 = .ok (.ifCond .eq 11, 3) := zo_153 (d := 0) (e := 11) (zd_b zq_prog_4_method_4_code_0 28 rfl rfl rfl) (zd_b zq_prog_4_method_4_code_0 29 rfl rfl rfl) (zd_b zq_prog_4_method_4_code_0 30 rfl rfl rfl) (by decide +kernel)
theorem d_Fz_passingBetween_39 : decode prog_4_method_4_code 39 = .ok (.iload 4, 2) := zo_21 (d := 4) (zd_b zq_prog_4_method_4_code_1 7 rfl rfl rfl) (zd_b zq_prog_4_method_4_code_1 8 rfl rfl rfl)
theorem d_Fz_passingBetween_41 : decode prog_4_method_4_code 41 = .ok (.ifCond .ne 10, 3) := zo_154 (d := 0) (e := 10) (zd_b zq_prog_4_method_4_code_1 9 rfl rfl rfl) (zd_b zq_prog_4_method_4_code_1 10 rfl rfl rfl) (zd_b zq_prog_4_method_4_code_1 11 rfl rfl rfl) (by decide +kernel)
theorem d_Fz_passingBetween_44 : decode prog_4_method_4_code 44 = .ok (.iload 5, 2) := zo_21 (d := 5) (zd_b zq_prog_4_method_4_code_1 12 rfl rfl rfl) (zd_b zq_prog_4_method_4_code_1 13 rfl rfl rfl)
theorem d_Fz_passingBetween_46 : decode prog_4_method_4_code 46 = .ok (.ifCond .ne 5, 3) := zo_154 (d := 0) (e := 5) (zd_b zq_prog_4_method_4_code_1 14 rfl rfl rfl) (zd_b zq_prog_4_method_4_code_1 15 rfl rfl rfl) (zd_b zq_prog_4_method_4_code_1 16 rfl rfl rfl) (by decide +kernel)
theorem d_Fz_passingBetween_49 : decode prog_4_method_4_code 49 = .ok (.iconst 4, 1) := zo_7 (zd_b zq_prog_4_method_4_code_1 17 rfl rfl rfl)
theorem d_Fz_passingBetween_50 : decode prog_4_method_4_code 50 = .ok (.ireturn, 1) := zo_172 (zd_b zq_prog_4_method_4_code_1 18 rfl rfl rfl)
theorem d_Fz_passingBetween_19 : decode prog_4_method_4_code 19 = .ok (.iconst 1, 1) := zo_4 (zd_b zq_prog_4_method_4_code_0 19 rfl rfl rfl)
theorem d_Fz_passingBetween_20 : decode prog_4_method_4_code 20 = .ok (.goto 4, 3) := zo_167 (d := 0) (e := 4) (zd_b zq_prog_4_method_4_code_0 20 rfl rfl rfl) (zd_b zq_prog_4_method_4_code_0 21 rfl rfl rfl) (zd_b zq_prog_4_method_4_code_0 22 rfl rfl rfl) (by decide +kernel)
theorem d_Fz_passingBetween_51 : decode prog_4_method_4_code 51 = .ok (.iload 4, 2) := zo_21 (d := 4) (zd_b zq_prog_4_method_4_code_1 19 rfl rfl rfl) (zd_b zq_prog_4_method_4_code_1 20 rfl rfl rfl)
theorem d_Fz_passingBetween_53 : decode prog_4_method_4_code 53 = .ok (.ifCond .eq 9, 3) := zo_153 (d := 0) (e := 9) (zd_b zq_prog_4_method_4_code_1 21 rfl rfl rfl) (zd_b zq_prog_4_method_4_code_1 22 rfl rfl rfl) (zd_b zq_prog_4_method_4_code_1 23 rfl rfl rfl) (by decide +kernel)
theorem d_Fz_passingBetween_62 : decode prog_4_method_4_code 62 = .ok (.aload_n 0, 1) := zo_42 (zd_b zq_prog_4_method_4_code_1 30 rfl rfl rfl)
theorem d_Fz_passingBetween_63 : decode prog_4_method_4_code 63 = .ok (.iload_n 2, 1) := zo_28 (zd_b zq_prog_4_method_4_code_1 31 rfl rfl rfl)
theorem d_Fz_passingBetween_64 : decode prog_4_method_4_code 64 = .ok (.caload, 1) := zo_52 (zd_b zq_prog_4_method_4_code_2 0 rfl rfl rfl)
theorem d_Fz_passingBetween_65 : decode prog_4_method_4_code 65 = .ok (.istore 6, 2) := zo_54 (d := 6) (zd_b zq_prog_4_method_4_code_2 1 rfl rfl rfl) (zd_b zq_prog_4_method_4_code_2 2 rfl rfl rfl)
theorem d_Fz_passingBetween_67 : decode prog_4_method_4_code 67 = .ok (.iload 6, 2) := zo_21 (d := 6) (zd_b zq_prog_4_method_4_code_2 3 rfl rfl rfl) (zd_b zq_prog_4_method_4_code_2 4 rfl rfl rfl)
theorem d_Fz_passingBetween_69 : decode prog_4_method_4_code 69 = .ok (.bipush 107, 2) := zo_16 (d := 107) (zd_b zq_prog_4_method_4_code_2 5 rfl rfl rfl) (zd_b zq_prog_4_method_4_code_2 6 rfl rfl rfl) (by decide +kernel)
theorem d_Fz_passingBetween_71 : decode prog_4_method_4_code 71 = .ok (.if_icmp .ne 6, 3) := zo_160 (d := 0) (e := 6) (zd_b zq_prog_4_method_4_code_2 7 rfl rfl rfl) (zd_b zq_prog_4_method_4_code_2 8 rfl rfl rfl) (zd_b zq_prog_4_method_4_code_2 9 rfl rfl rfl) (by decide +kernel)
theorem d_Fz_passingBetween_77 : decode prog_4_method_4_code 77 = .ok (.iload 6, 2) := zo_21 (d := 6) (zd_b zq_prog_4_method_4_code_2 13 rfl rfl rfl) (zd_b zq_prog_4_method_4_code_2 14 rfl rfl rfl)
theorem d_Fz_passingBetween_79 : decode prog_4_method_4_code 79 = .ok (.bipush 111, 2) := zo_16 (d := 111) (zd_b zq_prog_4_method_4_code_2 15 rfl rfl rfl) (zd_b zq_prog_4_method_4_code_2 16 rfl rfl rfl) (by decide +kernel)
theorem d_Fz_passingBetween_81 : decode prog_4_method_4_code 81 = .ok (.if_icmp .ne 7, 3) := zo_160 (d := 0) (e := 7) (zd_b zq_prog_4_method_4_code_2 17 rfl rfl rfl) (zd_b zq_prog_4_method_4_code_2 18 rfl rfl rfl) (zd_b zq_prog_4_method_4_code_2 19 rfl rfl rfl) (by decide +kernel)
theorem d_Fz_passingBetween_88 : decode prog_4_method_4_code 88 = .ok (.iconst 4, 1) := zo_7 (zd_b zq_prog_4_method_4_code_2 24 rfl rfl rfl)
theorem d_Fz_passingBetween_89 : decode prog_4_method_4_code 89 = .ok (.ireturn, 1) := zo_172 (zd_b zq_prog_4_method_4_code_2 25 rfl rfl rfl)
theorem d_Fz_passingBetween_84 : decode prog_4_method_4_code 84 = .ok (.iconst 3, 1) := zo_6 (zd_b zq_prog_4_method_4_code_2 20 rfl rfl rfl)
theorem d_Fz_passingBetween_85 : decode prog_4_method_4_code 85 = .ok (.goto 4, 3) := zo_167 (d := 0) (e := 4) (zd_b zq_prog_4_method_4_code_2 21 rfl rfl rfl) (zd_b zq_prog_4_method_4_code_2 22 rfl rfl rfl) (zd_b zq_prog_4_method_4_code_2 23 rfl rfl rfl) (by decide +kernel)
theorem d_Fz_passingBetween_74 : decode prog_4_method_4_code 74 = .ok (.bipush 14, 2) := zo_16 (d := 14) (zd_b zq_prog_4_method_4_code_2 10 rfl rfl rfl) (zd_b zq_prog_4_method_4_code_2 11 rfl rfl rfl) (by decide +kernel)
theorem d_Fz_passingBetween_76 : decode prog_4_method_4_code 76 = .ok (.ireturn, 1) := zo_172 (zd_b zq_prog_4_method_4_code_2 12 rfl rfl rfl)
theorem d_Fz_passingBetween_6 : decode prog_4_method_4_code 6 = .ok (.iconst 1, 1) := zo_4 (zd_b zq_prog_4_method_4_code_0 6 rfl rfl rfl)
theorem d_Fz_passingBetween_7 : decode prog_4_method_4_code 7 = .ok (.goto 4, 3) := zo_167 (d := 0) (e := 4) (zd_b zq_prog_4_method_4_code_0 7 rfl rfl rfl) (zd_b zq_prog_4_method_4_code_0 8 rfl rfl rfl) (zd_b zq_prog_4_method_4_code_0 9 rfl rfl rfl) (by decide +kernel)
theorem d_Fz_passingBetween_31 : decode prog_4_method_4_code 31 = .ok (.iload 5, 2) := zo_21 (d := 5) (zd_b zq_prog_4_method_4_code_0 31 rfl rfl rfl) (zd_b zq_prog_4_method_4_code_1 0 rfl rfl rfl)
theorem d_Fz_passingBetween_33 : decode prog_4_method_4_code 33 = .ok (.ifCond .eq 6, 3) := zo_153 (d := 0) (e := 6) (zd_b zq_prog_4_method_4_code_1 1 rfl rfl rfl) (zd_b zq_prog_4_method_4_code_1 2 rfl rfl rfl) (zd_b zq_prog_4_method_4_code_1 3 rfl rfl rfl) (by decide +kernel)
theorem d_Fz_passingBetween_56 : decode prog_4_method_4_code 56 = .ok (.aload_n 0, 1) := zo_42 (zd_b zq_prog_4_method_4_code_1 24 rfl rfl rfl)
theorem d_Fz_passingBetween_57 : decode prog_4_method_4_code 57 = .ok (.iload_n 3, 1) := zo_29 (zd_b zq_prog_4_method_4_code_1 25 rfl rfl rfl)
theorem d_Fz_passingBetween_58 : decode prog_4_method_4_code 58 = .ok (.caload, 1) := zo_52 (zd_b zq_prog_4_method_4_code_1 26 rfl rfl rfl)
theorem d_Fz_passingBetween_59 : decode prog_4_method_4_code 59 = .ok (.goto 6, 3) := zo_167 (d := 0) (e := 6) (zd_b zq_prog_4_method_4_code_1 27 rfl rfl rfl) (zd_b zq_prog_4_method_4_code_1 28 rfl rfl rfl) (zd_b zq_prog_4_method_4_code_1 29 rfl rfl rfl) (by decide +kernel)
theorem d_Fz_passingBetween_36 : decode prog_4_method_4_code 36 = .ok (.bipush 12, 2) := zo_16 (d := 12) (zd_b zq_prog_4_method_4_code_1 4 rfl rfl rfl) (zd_b zq_prog_4_method_4_code_1 5 rfl rfl rfl) (by decide +kernel)
theorem d_Fz_passingBetween_38 : decode prog_4_method_4_code 38 = .ok (.ireturn, 1) := zo_172 (zd_b zq_prog_4_method_4_code_1 6 rfl rfl rfl)
set_option maxHeartbeats 4000000 in
set_option maxRecDepth 100000 in
theorem C_Fz_passing (g : zG) (a b : Nat) (ce fi : Nat → Int32) (oo p : Nat) (ho : oo < 108) (hp : p < 108) : CT g M_Fz_passingBetween [.ref a, .ref b, .int (nI oo), .int (nI p)] [(a, .inl (1, 108, .inl ce)), (b, .inl (0, 108, .inl fi))] (fun o cs1 => o = .inl (some (.int (pbS ce fi oo p))) ∧ cs1 = [(a, .inl (1, 108, .inl ce)), (b, .inl (0, 108, .inl fi))]) 0 0 := by
  refine z_of (by decide) rfl (Nat.le_of_ble_eq_true rfl) (fun w0 => ?_)
  refine r_lvE (lv2 := [(0, .ref a), (1, .ref b), (2, .int (nI oo)), (3, .int (nI p))]) rfl ?_
  refine r_aload_n d_Fz_passingBetween_0 rfl 1 rfl ?_
  refine r_iload_n d_Fz_passingBetween_1 rfl 2 rfl ?_
  refine r_iald d_Fz_passingBetween_2 (q0 := 1) rfl (vp_in_nI (by omega) (by omega)) (v := fi oo) (by rw [nI_clamp (by omega)]) ?_
  refine r_if_lt (tgt := 10) d_Fz_passingBetween_3 (by decide) (fun c_3 => ?_) (fun c_3 => ?_)
  · refine r_iconst d_Fz_passingBetween_10 (v := 0) (by decide) ?_
    refine r_istore (lv' := [(4, .int 0), (0, .ref a), (1, .ref b), (2, .int (nI oo)), (3, .int (nI p))]) d_Fz_passingBetween_11 (by decide) rfl ?_
    refine r_aload_n d_Fz_passingBetween_13 rfl 2 rfl ?_
    refine r_iload_n d_Fz_passingBetween_14 rfl 4 rfl ?_
    refine r_iald d_Fz_passingBetween_15 (q0 := 1) rfl (vp_in_nI (by omega) (by omega)) (v := fi p) (by rw [nI_clamp (by omega)]) ?_
    refine r_if_lt (tgt := 23) d_Fz_passingBetween_16 (by decide) (fun c_16 => ?_) (fun c_16 => ?_)
    · refine r_iconst d_Fz_passingBetween_23 (v := 0) (by decide) ?_
      refine r_istore (lv' := [(5, .int 0), (4, .int 0), (0, .ref a), (1, .ref b), (2, .int (nI oo)), (3, .int (nI p))]) d_Fz_passingBetween_24 (by decide) rfl ?_
      refine r_iload d_Fz_passingBetween_26 1 rfl ?_
      refine r_if_eq (tgt := 39) d_Fz_passingBetween_28 (by decide) (fun c_28 => ?_) (fun c_28 => ?_)
      · refine r_iload d_Fz_passingBetween_39 1 rfl ?_
        refine r_if_ne (tgt := 51) d_Fz_passingBetween_41 (by decide) (fun c_41 => ?_) (fun c_41 => ?_)
        · exact absurd c_41 (by decide)
        · refine r_iload d_Fz_passingBetween_44 0 rfl ?_
          refine r_if_ne (tgt := 51) d_Fz_passingBetween_46 (by decide) (fun c_46 => ?_) (fun c_46 => ?_)
          · exact absurd c_46 (by decide)
          · refine r_iconst d_Fz_passingBetween_49 (v := 4) (by decide) ?_
            refine r_iret d_Fz_passingBetween_50 rfl rfl ?_
            refine ⟨?_, rfl⟩
            unfold pbS
            first | rw [if_pos (Int32.not_lt.mp c_3)] | rw [if_neg (fun h => Int32.not_lt.mpr h c_3)]
            first | rw [if_pos (Int32.not_lt.mp c_16)] | rw [if_neg (fun h => Int32.not_lt.mpr h c_16)]
            try first | rw [if_pos (by assumption)] | rw [if_neg (by assumption)]
            try first | rw [if_pos (by assumption)] | rw [if_neg (by assumption)]
      · exact absurd c_28 (by decide)
    · refine r_iconst d_Fz_passingBetween_19 (v := 1) (by decide) ?_
      refine r_goto (tgt := 24) d_Fz_passingBetween_20 (by decide) ?_
      refine r_istore (lv' := [(5, .int 1), (4, .int 0), (0, .ref a), (1, .ref b), (2, .int (nI oo)), (3, .int (nI p))]) d_Fz_passingBetween_24 (by decide) rfl ?_
      refine r_iload d_Fz_passingBetween_26 1 rfl ?_
      refine r_if_eq (tgt := 39) d_Fz_passingBetween_28 (by decide) (fun c_28 => ?_) (fun c_28 => ?_)
      · refine r_iload d_Fz_passingBetween_39 1 rfl ?_
        refine r_if_ne (tgt := 51) d_Fz_passingBetween_41 (by decide) (fun c_41 => ?_) (fun c_41 => ?_)
        · exact absurd c_41 (by decide)
        · refine r_iload d_Fz_passingBetween_44 0 rfl ?_
          refine r_if_ne (tgt := 51) d_Fz_passingBetween_46 (by decide) (fun c_46 => ?_) (fun c_46 => ?_)
          · refine r_iload d_Fz_passingBetween_51 1 rfl ?_
            refine r_if_eq (tgt := 62) d_Fz_passingBetween_53 (by decide) (fun c_53 => ?_) (fun c_53 => ?_)
            · refine r_aload_n d_Fz_passingBetween_62 rfl 2 rfl ?_
              refine r_iload_n d_Fz_passingBetween_63 rfl 4 rfl ?_
              refine r_cald d_Fz_passingBetween_64 (q0 := 0) rfl (vp_in_nI (by omega) (by omega)) (v := ce oo) (by rw [nI_clamp (by omega)]) ?_
              refine r_istore (lv' := [(6, .int (ce oo)), (5, .int 1), (4, .int 0), (0, .ref a), (1, .ref b), (2, .int (nI oo)), (3, .int (nI p))]) d_Fz_passingBetween_65 (by decide) rfl ?_
              refine r_iload d_Fz_passingBetween_67 0 rfl ?_
              refine r_bipush d_Fz_passingBetween_69 (v := 107) (by decide) ?_
              refine r_icmp_ne (tgt := 77) d_Fz_passingBetween_71 (by decide) (fun c_71 => ?_) (fun c_71 => ?_)
              · refine r_iload d_Fz_passingBetween_77 0 rfl ?_
                refine r_bipush d_Fz_passingBetween_79 (v := 111) (by decide) ?_
                refine r_icmp_ne (tgt := 88) d_Fz_passingBetween_81 (by decide) (fun c_81 => ?_) (fun c_81 => ?_)
                · refine r_iconst d_Fz_passingBetween_88 (v := 4) (by decide) ?_
                  refine r_iret d_Fz_passingBetween_89 rfl rfl ?_
                  refine ⟨?_, rfl⟩
                  unfold pbS
                  first | rw [if_pos (Int32.not_lt.mp c_3)] | rw [if_neg (fun h => Int32.not_lt.mpr h c_3)]
                  first | rw [if_pos (Int32.not_lt.mp c_16)] | rw [if_neg (fun h => Int32.not_lt.mpr h c_16)]
                  try first | rw [if_pos (by assumption)] | rw [if_neg (by assumption)]
                  try first | rw [if_pos (by assumption)] | rw [if_neg (by assumption)]
                · refine r_iconst d_Fz_passingBetween_84 (v := 3) (by decide) ?_
                  refine r_goto (tgt := 89) d_Fz_passingBetween_85 (by decide) ?_
                  refine r_iret d_Fz_passingBetween_89 rfl rfl ?_
                  refine ⟨?_, rfl⟩
                  unfold pbS
                  first | rw [if_pos (Int32.not_lt.mp c_3)] | rw [if_neg (fun h => Int32.not_lt.mpr h c_3)]
                  first | rw [if_pos (Int32.not_lt.mp c_16)] | rw [if_neg (fun h => Int32.not_lt.mpr h c_16)]
                  try first | rw [if_pos (by assumption)] | rw [if_neg (by assumption)]
                  try first | rw [if_pos (by assumption)] | rw [if_neg (by assumption)]
              · refine r_bipush d_Fz_passingBetween_74 (v := 14) (by decide) ?_
                refine r_iret d_Fz_passingBetween_76 rfl rfl ?_
                refine ⟨?_, rfl⟩
                unfold pbS
                first | rw [if_pos (Int32.not_lt.mp c_3)] | rw [if_neg (fun h => Int32.not_lt.mpr h c_3)]
                first | rw [if_pos (Int32.not_lt.mp c_16)] | rw [if_neg (fun h => Int32.not_lt.mpr h c_16)]
                try first | rw [if_pos (by assumption)] | rw [if_neg (by assumption)]
                try first | rw [if_pos (by assumption)] | rw [if_neg (by assumption)]
            · exact absurd c_53 (by decide)
          · exact absurd c_46 (by decide)
      · exact absurd c_28 (by decide)
  · refine r_iconst d_Fz_passingBetween_6 (v := 1) (by decide) ?_
    refine r_goto (tgt := 11) d_Fz_passingBetween_7 (by decide) ?_
    refine r_istore (lv' := [(4, .int 1), (0, .ref a), (1, .ref b), (2, .int (nI oo)), (3, .int (nI p))]) d_Fz_passingBetween_11 (by decide) rfl ?_
    refine r_aload_n d_Fz_passingBetween_13 rfl 2 rfl ?_
    refine r_iload_n d_Fz_passingBetween_14 rfl 4 rfl ?_
    refine r_iald d_Fz_passingBetween_15 (q0 := 1) rfl (vp_in_nI (by omega) (by omega)) (v := fi p) (by rw [nI_clamp (by omega)]) ?_
    refine r_if_lt (tgt := 23) d_Fz_passingBetween_16 (by decide) (fun c_16 => ?_) (fun c_16 => ?_)
    · refine r_iconst d_Fz_passingBetween_23 (v := 0) (by decide) ?_
      refine r_istore (lv' := [(5, .int 0), (4, .int 1), (0, .ref a), (1, .ref b), (2, .int (nI oo)), (3, .int (nI p))]) d_Fz_passingBetween_24 (by decide) rfl ?_
      refine r_iload d_Fz_passingBetween_26 1 rfl ?_
      refine r_if_eq (tgt := 39) d_Fz_passingBetween_28 (by decide) (fun c_28 => ?_) (fun c_28 => ?_)
      · exact absurd c_28 (by decide)
      · refine r_iload d_Fz_passingBetween_31 0 rfl ?_
        refine r_if_eq (tgt := 39) d_Fz_passingBetween_33 (by decide) (fun c_33 => ?_) (fun c_33 => ?_)
        · refine r_iload d_Fz_passingBetween_39 1 rfl ?_
          refine r_if_ne (tgt := 51) d_Fz_passingBetween_41 (by decide) (fun c_41 => ?_) (fun c_41 => ?_)
          · refine r_iload d_Fz_passingBetween_51 1 rfl ?_
            refine r_if_eq (tgt := 62) d_Fz_passingBetween_53 (by decide) (fun c_53 => ?_) (fun c_53 => ?_)
            · exact absurd c_53 (by decide)
            · refine r_aload_n d_Fz_passingBetween_56 rfl 2 rfl ?_
              refine r_iload_n d_Fz_passingBetween_57 rfl 5 rfl ?_
              refine r_cald d_Fz_passingBetween_58 (q0 := 0) rfl (vp_in_nI (by omega) (by omega)) (v := ce p) (by rw [nI_clamp (by omega)]) ?_
              refine r_goto (tgt := 65) d_Fz_passingBetween_59 (by decide) ?_
              refine r_istore (lv' := [(6, .int (ce p)), (5, .int 0), (4, .int 1), (0, .ref a), (1, .ref b), (2, .int (nI oo)), (3, .int (nI p))]) d_Fz_passingBetween_65 (by decide) rfl ?_
              refine r_iload d_Fz_passingBetween_67 0 rfl ?_
              refine r_bipush d_Fz_passingBetween_69 (v := 107) (by decide) ?_
              refine r_icmp_ne (tgt := 77) d_Fz_passingBetween_71 (by decide) (fun c_71 => ?_) (fun c_71 => ?_)
              · refine r_iload d_Fz_passingBetween_77 0 rfl ?_
                refine r_bipush d_Fz_passingBetween_79 (v := 111) (by decide) ?_
                refine r_icmp_ne (tgt := 88) d_Fz_passingBetween_81 (by decide) (fun c_81 => ?_) (fun c_81 => ?_)
                · refine r_iconst d_Fz_passingBetween_88 (v := 4) (by decide) ?_
                  refine r_iret d_Fz_passingBetween_89 rfl rfl ?_
                  refine ⟨?_, rfl⟩
                  unfold pbS
                  first | rw [if_pos (Int32.not_lt.mp c_3)] | rw [if_neg (fun h => Int32.not_lt.mpr h c_3)]
                  first | rw [if_pos (Int32.not_lt.mp c_16)] | rw [if_neg (fun h => Int32.not_lt.mpr h c_16)]
                  try first | rw [if_pos (by assumption)] | rw [if_neg (by assumption)]
                  try first | rw [if_pos (by assumption)] | rw [if_neg (by assumption)]
                · refine r_iconst d_Fz_passingBetween_84 (v := 3) (by decide) ?_
                  refine r_goto (tgt := 89) d_Fz_passingBetween_85 (by decide) ?_
                  refine r_iret d_Fz_passingBetween_89 rfl rfl ?_
                  refine ⟨?_, rfl⟩
                  unfold pbS
                  first | rw [if_pos (Int32.not_lt.mp c_3)] | rw [if_neg (fun h => Int32.not_lt.mpr h c_3)]
                  first | rw [if_pos (Int32.not_lt.mp c_16)] | rw [if_neg (fun h => Int32.not_lt.mpr h c_16)]
                  try first | rw [if_pos (by assumption)] | rw [if_neg (by assumption)]
                  try first | rw [if_pos (by assumption)] | rw [if_neg (by assumption)]
              · refine r_bipush d_Fz_passingBetween_74 (v := 14) (by decide) ?_
                refine r_iret d_Fz_passingBetween_76 rfl rfl ?_
                refine ⟨?_, rfl⟩
                unfold pbS
                first | rw [if_pos (Int32.not_lt.mp c_3)] | rw [if_neg (fun h => Int32.not_lt.mpr h c_3)]
                first | rw [if_pos (Int32.not_lt.mp c_16)] | rw [if_neg (fun h => Int32.not_lt.mpr h c_16)]
                try first | rw [if_pos (by assumption)] | rw [if_neg (by assumption)]
                try first | rw [if_pos (by assumption)] | rw [if_neg (by assumption)]
          · exact absurd c_41 (by decide)
        · exact absurd c_33 (by decide)
    · refine r_iconst d_Fz_passingBetween_19 (v := 1) (by decide) ?_
      refine r_goto (tgt := 24) d_Fz_passingBetween_20 (by decide) ?_
      refine r_istore (lv' := [(5, .int 1), (4, .int 1), (0, .ref a), (1, .ref b), (2, .int (nI oo)), (3, .int (nI p))]) d_Fz_passingBetween_24 (by decide) rfl ?_
      refine r_iload d_Fz_passingBetween_26 1 rfl ?_
      refine r_if_eq (tgt := 39) d_Fz_passingBetween_28 (by decide) (fun c_28 => ?_) (fun c_28 => ?_)
      · exact absurd c_28 (by decide)
      · refine r_iload d_Fz_passingBetween_31 0 rfl ?_
        refine r_if_eq (tgt := 39) d_Fz_passingBetween_33 (by decide) (fun c_33 => ?_) (fun c_33 => ?_)
        · exact absurd c_33 (by decide)
        · refine r_bipush d_Fz_passingBetween_36 (v := 12) (by decide) ?_
          refine r_iret d_Fz_passingBetween_38 rfl rfl ?_
          refine ⟨?_, rfl⟩
          unfold pbS
          first | rw [if_pos (Int32.not_lt.mp c_3)] | rw [if_neg (fun h => Int32.not_lt.mpr h c_3)]
          first | rw [if_pos (Int32.not_lt.mp c_16)] | rw [if_neg (fun h => Int32.not_lt.mpr h c_16)]
          try first | rw [if_pos (by assumption)] | rw [if_neg (by assumption)]
          try first | rw [if_pos (by assumption)] | rw [if_neg (by assumption)]
abbrev M_Fz_pass : zM := (⟨"Ironpour$Freezing", "pass", "(I)V"⟩, prog_4_method_5_code, 4, (Option.none : Option FieldType), 2, 44, [])
theorem d_Fz_pass_120 : decode prog_4_method_5_code 120 = .ok (.iload_n 2, 1) := zo_28 (zd_b zq_prog_4_method_5_code_3 24 rfl rfl rfl)
theorem d_Fz_pass_121 : decode prog_4_method_5_code 121 = .ok (.bipush 108, 2) := zo_16 (d := 108) (zd_b zq_prog_4_method_5_code_3 25 rfl rfl rfl) (zd_b zq_prog_4_method_5_code_3 26 rfl rfl rfl) (by decide +kernel)
theorem d_Fz_pass_123 : decode prog_4_method_5_code 123 = .ok (.if_icmp .ge 28, 3) := zo_162 (d := 0) (e := 28) (zd_b zq_prog_4_method_5_code_3 27 rfl rfl rfl) (zd_b zq_prog_4_method_5_code_3 28 rfl rfl rfl) (zd_b zq_prog_4_method_5_code_3 29 rfl rfl rfl) (by decide +kernel)
theorem d_Fz_pass_151 : decode prog_4_method_5_code 151 = .ok (.return_, 1) := zo_177 (zd_b zq_prog_4_method_5_code_4 23 rfl rfl rfl)
theorem d_Fz_pass_126 : decode prog_4_method_5_code 126 = .ok (.aload_n 0, 1) := zo_42 (zd_b zq_prog_4_method_5_code_3 30 rfl rfl rfl)
theorem d_Fz_pass_127 : decode prog_4_method_5_code 127 = .ok (.iload_n 2, 1) := zo_28 (zd_b zq_prog_4_method_5_code_3 31 rfl rfl rfl)
theorem d_Fz_pass_128 : decode prog_4_method_5_code 128 = .ok (.aload_n 0, 1) := zo_42 (zd_b zq_prog_4_method_5_code_4 0 rfl rfl rfl)
theorem d_Fz_pass_129 : decode prog_4_method_5_code 129 = .ok (.getfield 9, 3) := zo_180 (d := 0) (e := 9) (zd_b zq_prog_4_method_5_code_4 1 rfl rfl rfl) (zd_b zq_prog_4_method_5_code_4 2 rfl rfl rfl) (zd_b zq_prog_4_method_5_code_4 3 rfl rfl rfl)
theorem d_Fz_pass_132 : decode prog_4_method_5_code 132 = .ok (.iload_n 2, 1) := zo_28 (zd_b zq_prog_4_method_5_code_4 4 rfl rfl rfl)
theorem d_Fz_pass_133 : decode prog_4_method_5_code 133 = .ok (.iaload, 1) := zo_46 (zd_b zq_prog_4_method_5_code_4 5 rfl rfl rfl)
theorem d_Fz_pass_134 : decode prog_4_method_5_code 134 = .ok (.aload_n 0, 1) := zo_42 (zd_b zq_prog_4_method_5_code_4 6 rfl rfl rfl)
theorem d_Fz_pass_135 : decode prog_4_method_5_code 135 = .ok (.getfield 15, 3) := zo_180 (d := 0) (e := 15) (zd_b zq_prog_4_method_5_code_4 7 rfl rfl rfl) (zd_b zq_prog_4_method_5_code_4 8 rfl rfl rfl) (zd_b zq_prog_4_method_5_code_4 9 rfl rfl rfl)
theorem d_Fz_pass_138 : decode prog_4_method_5_code 138 = .ok (.iload_n 2, 1) := zo_28 (zd_b zq_prog_4_method_5_code_4 10 rfl rfl rfl)
theorem d_Fz_pass_139 : decode prog_4_method_5_code 139 = .ok (.iaload, 1) := zo_46 (zd_b zq_prog_4_method_5_code_4 11 rfl rfl rfl)
theorem d_Fz_pass_140 : decode prog_4_method_5_code 140 = .ok (.iadd, 1) := zo_96 (zd_b zq_prog_4_method_5_code_4 12 rfl rfl rfl)
theorem d_Fz_pass_141 : decode prog_4_method_5_code 141 = .ok (.iload_n 1, 1) := zo_27 (zd_b zq_prog_4_method_5_code_4 13 rfl rfl rfl)
theorem d_Fz_pass_142 : decode prog_4_method_5_code 142 = .ok (.invokevirtual 38, 3) := zo_182 (d := 0) (e := 38) (zd_b zq_prog_4_method_5_code_4 14 rfl rfl rfl) (zd_b zq_prog_4_method_5_code_4 15 rfl rfl rfl) (zd_b zq_prog_4_method_5_code_4 16 rfl rfl rfl)
theorem ok_Fz_pass_Fz_becomeHeat : z_ok M_Fz_pass M_Fz_becomeHeat 3 := ⟨z_mj3 (i := 0) rfl (by decide +kernel), rfl, ⟨by decide +kernel, by decide +kernel, by decide +kernel⟩, ⟨by decide, by decide⟩, z_mj1 (i := 4) rfl (by decide +kernel), rfl⟩
theorem ln_Fz_38 : Cond.methodLink "Ironpour$Freezing" 38 M_Fz_becomeHeat.1 ∈ z_gw := z_mj2 (i := 237) rfl (by decide +kernel)
theorem w_im_Fz_becomeHeat : Cond.instanceMethod M_Fz_becomeHeat.1 ∈ z_gw := z_mj2 (i := 239) rfl (by decide +kernel)
theorem w_se_Fz_becomeHeat : Cond.selects M_Fz_becomeHeat.1.cls M_Fz_becomeHeat.1 M_Fz_becomeHeat.1 ∈ z_gw := z_mem (i := 9) (by decide +kernel) (by decide +kernel)
theorem d_Fz_pass_145 : decode prog_4_method_5_code 145 = .ok (.iinc 2 1, 3) := by decide +kernel
theorem d_Fz_pass_148 : decode prog_4_method_5_code 148 = .ok (.goto (-28), 3) := zo_167 (d := 255) (e := 228) (zd_b zq_prog_4_method_5_code_4 20 rfl rfl rfl) (zd_b zq_prog_4_method_5_code_4 21 rfl rfl rfl) (zd_b zq_prog_4_method_5_code_4 22 rfl rfl rfl) (by decide +kernel)
theorem d_Fz_pass_10 : decode prog_4_method_5_code 10 = .ok (.iload_n 2, 1) := zo_28 (zd_b zq_prog_4_method_5_code_0 10 rfl rfl rfl)
theorem d_Fz_pass_11 : decode prog_4_method_5_code 11 = .ok (.bipush 108, 2) := zo_16 (d := 108) (zd_b zq_prog_4_method_5_code_0 11 rfl rfl rfl) (zd_b zq_prog_4_method_5_code_0 12 rfl rfl rfl) (by decide +kernel)
theorem d_Fz_pass_13 : decode prog_4_method_5_code 13 = .ok (.if_icmp .ge 105, 3) := zo_162 (d := 0) (e := 105) (zd_b zq_prog_4_method_5_code_0 13 rfl rfl rfl) (zd_b zq_prog_4_method_5_code_0 14 rfl rfl rfl) (zd_b zq_prog_4_method_5_code_0 15 rfl rfl rfl) (by decide +kernel)
theorem d_Fz_pass_118 : decode prog_4_method_5_code 118 = .ok (.iconst 0, 1) := zo_3 (zd_b zq_prog_4_method_5_code_3 22 rfl rfl rfl)
theorem d_Fz_pass_119 : decode prog_4_method_5_code 119 = .ok (.istore_n 2, 1) := zo_61 (zd_b zq_prog_4_method_5_code_3 23 rfl rfl rfl)
theorem d_Fz_pass_16 : decode prog_4_method_5_code 16 = .ok (.iload_n 2, 1) := zo_28 (zd_b zq_prog_4_method_5_code_0 16 rfl rfl rfl)
theorem d_Fz_pass_17 : decode prog_4_method_5_code 17 = .ok (.bipush 12, 2) := zo_16 (d := 12) (zd_b zq_prog_4_method_5_code_0 17 rfl rfl rfl) (zd_b zq_prog_4_method_5_code_0 18 rfl rfl rfl) (by decide +kernel)
theorem d_Fz_pass_19 : decode prog_4_method_5_code 19 = .ok (.irem, 1) := zo_112 (zd_b zq_prog_4_method_5_code_0 19 rfl rfl rfl)
theorem d_Fz_pass_20 : decode prog_4_method_5_code 20 = .ok (.istore_n 3, 1) := zo_62 (zd_b zq_prog_4_method_5_code_0 20 rfl rfl rfl)
theorem d_Fz_pass_21 : decode prog_4_method_5_code 21 = .ok (.iload_n 3, 1) := zo_29 (zd_b zq_prog_4_method_5_code_0 21 rfl rfl rfl)
theorem d_Fz_pass_22 : decode prog_4_method_5_code 22 = .ok (.bipush 11, 2) := zo_16 (d := 11) (zd_b zq_prog_4_method_5_code_0 22 rfl rfl rfl) (zd_b zq_prog_4_method_5_code_0 23 rfl rfl rfl) (by decide +kernel)
theorem d_Fz_pass_24 : decode prog_4_method_5_code 24 = .ok (.if_icmp .ge 17, 3) := zo_162 (d := 0) (e := 17) (zd_b zq_prog_4_method_5_code_0 24 rfl rfl rfl) (zd_b zq_prog_4_method_5_code_0 25 rfl rfl rfl) (zd_b zq_prog_4_method_5_code_0 26 rfl rfl rfl) (by decide +kernel)
theorem d_Fz_pass_41 : decode prog_4_method_5_code 41 = .ok (.iload_n 2, 1) := zo_28 (zd_b zq_prog_4_method_5_code_1 9 rfl rfl rfl)
theorem d_Fz_pass_42 : decode prog_4_method_5_code 42 = .ok (.bipush 96, 2) := zo_16 (d := 96) (zd_b zq_prog_4_method_5_code_1 10 rfl rfl rfl) (zd_b zq_prog_4_method_5_code_1 11 rfl rfl rfl) (by decide +kernel)
theorem d_Fz_pass_44 : decode prog_4_method_5_code 44 = .ok (.if_icmp .ge 18, 3) := zo_162 (d := 0) (e := 18) (zd_b zq_prog_4_method_5_code_1 12 rfl rfl rfl) (zd_b zq_prog_4_method_5_code_1 13 rfl rfl rfl) (zd_b zq_prog_4_method_5_code_1 14 rfl rfl rfl) (by decide +kernel)
theorem d_Fz_pass_62 : decode prog_4_method_5_code 62 = .ok (.iload_n 3, 1) := zo_29 (zd_b zq_prog_4_method_5_code_1 30 rfl rfl rfl)
theorem d_Fz_pass_63 : decode prog_4_method_5_code 63 = .ok (.ifCond .eq 9, 3) := zo_153 (d := 0) (e := 9) (zd_b zq_prog_4_method_5_code_1 31 rfl rfl rfl) (zd_b zq_prog_4_method_5_code_2 0 rfl rfl rfl) (zd_b zq_prog_4_method_5_code_2 1 rfl rfl rfl) (by decide +kernel)
theorem d_Fz_pass_72 : decode prog_4_method_5_code 72 = .ok (.aload_n 0, 1) := zo_42 (zd_b zq_prog_4_method_5_code_2 8 rfl rfl rfl)
theorem d_Fz_pass_73 : decode prog_4_method_5_code 73 = .ok (.getfield 15, 3) := zo_180 (d := 0) (e := 15) (zd_b zq_prog_4_method_5_code_2 9 rfl rfl rfl) (zd_b zq_prog_4_method_5_code_2 10 rfl rfl rfl) (zd_b zq_prog_4_method_5_code_2 11 rfl rfl rfl)
theorem d_Fz_pass_76 : decode prog_4_method_5_code 76 = .ok (.iload_n 2, 1) := zo_28 (zd_b zq_prog_4_method_5_code_2 12 rfl rfl rfl)
theorem d_Fz_pass_77 : decode prog_4_method_5_code 77 = .ok (.dup2, 1) := zo_92 (zd_b zq_prog_4_method_5_code_2 13 rfl rfl rfl)
theorem d_Fz_pass_78 : decode prog_4_method_5_code 78 = .ok (.iaload, 1) := zo_46 (zd_b zq_prog_4_method_5_code_2 14 rfl rfl rfl)
theorem d_Fz_pass_79 : decode prog_4_method_5_code 79 = .ok (.aload_n 0, 1) := zo_42 (zd_b zq_prog_4_method_5_code_2 15 rfl rfl rfl)
theorem d_Fz_pass_80 : decode prog_4_method_5_code 80 = .ok (.iload_n 2, 1) := zo_28 (zd_b zq_prog_4_method_5_code_2 16 rfl rfl rfl)
theorem d_Fz_pass_81 : decode prog_4_method_5_code 81 = .ok (.invokevirtual 58, 3) := zo_182 (d := 0) (e := 58) (zd_b zq_prog_4_method_5_code_2 17 rfl rfl rfl) (zd_b zq_prog_4_method_5_code_2 18 rfl rfl rfl) (zd_b zq_prog_4_method_5_code_2 19 rfl rfl rfl)
theorem ok_Fz_pass_Fz_flowFromBeyond : z_ok M_Fz_pass M_Fz_flowFromBeyond 1 := ⟨z_mj3 (i := 17) rfl (by decide +kernel), rfl, ⟨by decide +kernel, by decide +kernel, by decide +kernel⟩, ⟨by decide, by decide⟩, z_mj1 (i := 4) rfl (by decide +kernel), rfl⟩
theorem ln_Fz_58 : Cond.methodLink "Ironpour$Freezing" 58 M_Fz_flowFromBeyond.1 ∈ z_gw := z_mj3 (i := 14) rfl (by decide +kernel)
theorem w_im_Fz_flowFromBeyond : Cond.instanceMethod M_Fz_flowFromBeyond.1 ∈ z_gw := z_mj3 (i := 16) rfl (by decide +kernel)
theorem w_se_Fz_flowFromBeyond : Cond.selects M_Fz_flowFromBeyond.1.cls M_Fz_flowFromBeyond.1 M_Fz_flowFromBeyond.1 ∈ z_gw := z_mem (i := 11) (by decide +kernel) (by decide +kernel)
theorem d_Fz_pass_84 : decode prog_4_method_5_code 84 = .ok (.iadd, 1) := zo_96 (zd_b zq_prog_4_method_5_code_2 20 rfl rfl rfl)
theorem d_Fz_pass_85 : decode prog_4_method_5_code 85 = .ok (.iastore, 1) := zo_79 (zd_b zq_prog_4_method_5_code_2 21 rfl rfl rfl)
theorem d_Fz_pass_86 : decode prog_4_method_5_code 86 = .ok (.iload_n 2, 1) := zo_28 (zd_b zq_prog_4_method_5_code_2 22 rfl rfl rfl)
theorem d_Fz_pass_87 : decode prog_4_method_5_code 87 = .ok (.bipush 12, 2) := zo_16 (d := 12) (zd_b zq_prog_4_method_5_code_2 23 rfl rfl rfl) (zd_b zq_prog_4_method_5_code_2 24 rfl rfl rfl) (by decide +kernel)
theorem d_Fz_pass_89 : decode prog_4_method_5_code 89 = .ok (.if_icmp .lt 9, 3) := zo_161 (d := 0) (e := 9) (zd_b zq_prog_4_method_5_code_2 25 rfl rfl rfl) (zd_b zq_prog_4_method_5_code_2 26 rfl rfl rfl) (zd_b zq_prog_4_method_5_code_2 27 rfl rfl rfl) (by decide +kernel)
theorem d_Fz_pass_98 : decode prog_4_method_5_code 98 = .ok (.aload_n 0, 1) := zo_42 (zd_b zq_prog_4_method_5_code_3 2 rfl rfl rfl)
theorem d_Fz_pass_99 : decode prog_4_method_5_code 99 = .ok (.getfield 15, 3) := zo_180 (d := 0) (e := 15) (zd_b zq_prog_4_method_5_code_3 3 rfl rfl rfl) (zd_b zq_prog_4_method_5_code_3 4 rfl rfl rfl) (zd_b zq_prog_4_method_5_code_3 5 rfl rfl rfl)
theorem d_Fz_pass_102 : decode prog_4_method_5_code 102 = .ok (.iload_n 2, 1) := zo_28 (zd_b zq_prog_4_method_5_code_3 6 rfl rfl rfl)
theorem d_Fz_pass_103 : decode prog_4_method_5_code 103 = .ok (.dup2, 1) := zo_92 (zd_b zq_prog_4_method_5_code_3 7 rfl rfl rfl)
theorem d_Fz_pass_104 : decode prog_4_method_5_code 104 = .ok (.iaload, 1) := zo_46 (zd_b zq_prog_4_method_5_code_3 8 rfl rfl rfl)
theorem d_Fz_pass_105 : decode prog_4_method_5_code 105 = .ok (.aload_n 0, 1) := zo_42 (zd_b zq_prog_4_method_5_code_3 9 rfl rfl rfl)
theorem d_Fz_pass_106 : decode prog_4_method_5_code 106 = .ok (.iload_n 2, 1) := zo_28 (zd_b zq_prog_4_method_5_code_3 10 rfl rfl rfl)
theorem d_Fz_pass_107 : decode prog_4_method_5_code 107 = .ok (.invokevirtual 58, 3) := zo_182 (d := 0) (e := 58) (zd_b zq_prog_4_method_5_code_3 11 rfl rfl rfl) (zd_b zq_prog_4_method_5_code_3 12 rfl rfl rfl) (zd_b zq_prog_4_method_5_code_3 13 rfl rfl rfl)
theorem d_Fz_pass_110 : decode prog_4_method_5_code 110 = .ok (.iadd, 1) := zo_96 (zd_b zq_prog_4_method_5_code_3 14 rfl rfl rfl)
theorem d_Fz_pass_111 : decode prog_4_method_5_code 111 = .ok (.iastore, 1) := zo_79 (zd_b zq_prog_4_method_5_code_3 15 rfl rfl rfl)
theorem d_Fz_pass_112 : decode prog_4_method_5_code 112 = .ok (.iinc 2 1, 3) := by decide +kernel
theorem d_Fz_pass_115 : decode prog_4_method_5_code 115 = .ok (.goto (-105), 3) := zo_167 (d := 255) (e := 151) (zd_b zq_prog_4_method_5_code_3 19 rfl rfl rfl) (zd_b zq_prog_4_method_5_code_3 20 rfl rfl rfl) (zd_b zq_prog_4_method_5_code_3 21 rfl rfl rfl) (by decide +kernel)
theorem d_Fz_pass_92 : decode prog_4_method_5_code 92 = .ok (.iload_n 2, 1) := zo_28 (zd_b zq_prog_4_method_5_code_2 28 rfl rfl rfl)
theorem d_Fz_pass_93 : decode prog_4_method_5_code 93 = .ok (.bipush 96, 2) := zo_16 (d := 96) (zd_b zq_prog_4_method_5_code_2 29 rfl rfl rfl) (zd_b zq_prog_4_method_5_code_2 30 rfl rfl rfl) (by decide +kernel)
theorem d_Fz_pass_95 : decode prog_4_method_5_code 95 = .ok (.if_icmp .lt 17, 3) := zo_161 (d := 0) (e := 17) (zd_b zq_prog_4_method_5_code_2 31 rfl rfl rfl) (zd_b zq_prog_4_method_5_code_3 0 rfl rfl rfl) (zd_b zq_prog_4_method_5_code_3 1 rfl rfl rfl) (by decide +kernel)
theorem d_Fz_pass_66 : decode prog_4_method_5_code 66 = .ok (.iload_n 3, 1) := zo_29 (zd_b zq_prog_4_method_5_code_2 2 rfl rfl rfl)
theorem d_Fz_pass_67 : decode prog_4_method_5_code 67 = .ok (.bipush 11, 2) := zo_16 (d := 11) (zd_b zq_prog_4_method_5_code_2 3 rfl rfl rfl) (zd_b zq_prog_4_method_5_code_2 4 rfl rfl rfl) (by decide +kernel)
theorem d_Fz_pass_69 : decode prog_4_method_5_code 69 = .ok (.if_icmp .ne 17, 3) := zo_160 (d := 0) (e := 17) (zd_b zq_prog_4_method_5_code_2 5 rfl rfl rfl) (zd_b zq_prog_4_method_5_code_2 6 rfl rfl rfl) (zd_b zq_prog_4_method_5_code_2 7 rfl rfl rfl) (by decide +kernel)
theorem d_Fz_pass_47 : decode prog_4_method_5_code 47 = .ok (.aload_n 0, 1) := zo_42 (zd_b zq_prog_4_method_5_code_1 15 rfl rfl rfl)
theorem d_Fz_pass_48 : decode prog_4_method_5_code 48 = .ok (.iload_n 2, 1) := zo_28 (zd_b zq_prog_4_method_5_code_1 16 rfl rfl rfl)
theorem d_Fz_pass_49 : decode prog_4_method_5_code 49 = .ok (.iload_n 2, 1) := zo_28 (zd_b zq_prog_4_method_5_code_1 17 rfl rfl rfl)
theorem d_Fz_pass_50 : decode prog_4_method_5_code 50 = .ok (.bipush 12, 2) := zo_16 (d := 12) (zd_b zq_prog_4_method_5_code_1 18 rfl rfl rfl) (zd_b zq_prog_4_method_5_code_1 19 rfl rfl rfl) (by decide +kernel)
theorem d_Fz_pass_52 : decode prog_4_method_5_code 52 = .ok (.iadd, 1) := zo_96 (zd_b zq_prog_4_method_5_code_1 20 rfl rfl rfl)
theorem d_Fz_pass_53 : decode prog_4_method_5_code 53 = .ok (.aload_n 0, 1) := zo_42 (zd_b zq_prog_4_method_5_code_1 21 rfl rfl rfl)
theorem d_Fz_pass_54 : decode prog_4_method_5_code 54 = .ok (.getfield 27, 3) := zo_180 (d := 0) (e := 27) (zd_b zq_prog_4_method_5_code_1 22 rfl rfl rfl) (zd_b zq_prog_4_method_5_code_1 23 rfl rfl rfl) (zd_b zq_prog_4_method_5_code_1 24 rfl rfl rfl)
theorem fs_Fz_27 : z_fs "Ironpour$Freezing" 27 2 5 := ⟨R_Fz, "Ironpour$Freezing", F_Fz, 7, rfl, u_Fz, by decide, Or.inl ⟨z_mj1 (i := 91) rfl (by decide +kernel), Or.inl rfl⟩⟩
theorem d_Fz_pass_57 : decode prog_4_method_5_code 57 = .ok (.iload_n 2, 1) := zo_28 (zd_b zq_prog_4_method_5_code_1 25 rfl rfl rfl)
theorem d_Fz_pass_58 : decode prog_4_method_5_code 58 = .ok (.iaload, 1) := zo_46 (zd_b zq_prog_4_method_5_code_1 26 rfl rfl rfl)
theorem d_Fz_pass_59 : decode prog_4_method_5_code 59 = .ok (.invokevirtual 55, 3) := zo_182 (d := 0) (e := 55) (zd_b zq_prog_4_method_5_code_1 27 rfl rfl rfl) (zd_b zq_prog_4_method_5_code_1 28 rfl rfl rfl) (zd_b zq_prog_4_method_5_code_1 29 rfl rfl rfl)
theorem ok_Fz_pass_Fz_exchange : z_ok M_Fz_pass M_Fz_exchange 3 := ⟨z_mj3 (i := 13) rfl (by decide +kernel), rfl, ⟨by decide +kernel, by decide +kernel, by decide +kernel⟩, ⟨by decide, by decide⟩, z_mj1 (i := 4) rfl (by decide +kernel), rfl⟩
theorem ln_Fz_55 : Cond.methodLink "Ironpour$Freezing" 55 M_Fz_exchange.1 ∈ z_gw := z_mj3 (i := 10) rfl (by decide +kernel)
theorem w_im_Fz_exchange : Cond.instanceMethod M_Fz_exchange.1 ∈ z_gw := z_mj3 (i := 12) rfl (by decide +kernel)
theorem w_se_Fz_exchange : Cond.selects M_Fz_exchange.1.cls M_Fz_exchange.1 M_Fz_exchange.1 ∈ z_gw := z_mem (i := 10) (by decide +kernel) (by decide +kernel)
theorem d_Fz_pass_27 : decode prog_4_method_5_code 27 = .ok (.aload_n 0, 1) := zo_42 (zd_b zq_prog_4_method_5_code_0 27 rfl rfl rfl)
theorem d_Fz_pass_28 : decode prog_4_method_5_code 28 = .ok (.iload_n 2, 1) := zo_28 (zd_b zq_prog_4_method_5_code_0 28 rfl rfl rfl)
theorem d_Fz_pass_29 : decode prog_4_method_5_code 29 = .ok (.iload_n 2, 1) := zo_28 (zd_b zq_prog_4_method_5_code_0 29 rfl rfl rfl)
theorem d_Fz_pass_30 : decode prog_4_method_5_code 30 = .ok (.iconst 1, 1) := zo_4 (zd_b zq_prog_4_method_5_code_0 30 rfl rfl rfl)
theorem d_Fz_pass_31 : decode prog_4_method_5_code 31 = .ok (.iadd, 1) := zo_96 (zd_b zq_prog_4_method_5_code_0 31 rfl rfl rfl)
theorem d_Fz_pass_32 : decode prog_4_method_5_code 32 = .ok (.aload_n 0, 1) := zo_42 (zd_b zq_prog_4_method_5_code_1 0 rfl rfl rfl)
theorem d_Fz_pass_33 : decode prog_4_method_5_code 33 = .ok (.getfield 24, 3) := zo_180 (d := 0) (e := 24) (zd_b zq_prog_4_method_5_code_1 1 rfl rfl rfl) (zd_b zq_prog_4_method_5_code_1 2 rfl rfl rfl) (zd_b zq_prog_4_method_5_code_1 3 rfl rfl rfl)
theorem fs_Fz_24 : z_fs "Ironpour$Freezing" 24 2 4 := ⟨R_Fz, "Ironpour$Freezing", F_Fz, 7, rfl, u_Fz, by decide, Or.inl ⟨z_mj1 (i := 90) rfl (by decide +kernel), Or.inl rfl⟩⟩
theorem d_Fz_pass_36 : decode prog_4_method_5_code 36 = .ok (.iload_n 2, 1) := zo_28 (zd_b zq_prog_4_method_5_code_1 4 rfl rfl rfl)
theorem d_Fz_pass_37 : decode prog_4_method_5_code 37 = .ok (.iaload, 1) := zo_46 (zd_b zq_prog_4_method_5_code_1 5 rfl rfl rfl)
theorem d_Fz_pass_38 : decode prog_4_method_5_code 38 = .ok (.invokevirtual 55, 3) := zo_182 (d := 0) (e := 55) (zd_b zq_prog_4_method_5_code_1 6 rfl rfl rfl) (zd_b zq_prog_4_method_5_code_1 7 rfl rfl rfl) (zd_b zq_prog_4_method_5_code_1 8 rfl rfl rfl)
theorem d_Fz_pass_0 : decode prog_4_method_5_code 0 = .ok (.aload_n 0, 1) := zo_42 (zd_b zq_prog_4_method_5_code_0 0 rfl rfl rfl)
theorem d_Fz_pass_1 : decode prog_4_method_5_code 1 = .ok (.getfield 15, 3) := zo_180 (d := 0) (e := 15) (zd_b zq_prog_4_method_5_code_0 1 rfl rfl rfl) (zd_b zq_prog_4_method_5_code_0 2 rfl rfl rfl) (zd_b zq_prog_4_method_5_code_0 3 rfl rfl rfl)
theorem d_Fz_pass_4 : decode prog_4_method_5_code 4 = .ok (.iconst 0, 1) := zo_3 (zd_b zq_prog_4_method_5_code_0 4 rfl rfl rfl)
theorem d_Fz_pass_5 : decode prog_4_method_5_code 5 = .ok (.invokestatic 49, 3) := zo_184 (d := 0) (e := 49) (zd_b zq_prog_4_method_5_code_0 5 rfl rfl rfl) (zd_b zq_prog_4_method_5_code_0 6 rfl rfl rfl) (zd_b zq_prog_4_method_5_code_0 7 rfl rfl rfl)
theorem ok_Fz_pass_Arrays_fill : z_ok M_Fz_pass M_Arrays_fill 2 := ⟨z_mj2 (i := 215) rfl (by decide +kernel), rfl, ⟨by decide +kernel, by decide +kernel, by decide +kernel⟩, ⟨by decide, by decide⟩, z_mj1 (i := 28) rfl (by decide +kernel), rfl⟩
theorem ln_Fz_49 : Cond.methodLink "Ironpour$Freezing" 49 M_Arrays_fill.1 ∈ z_gw := z_mj3 (i := 9) rfl (by decide +kernel)
theorem w_st_Arrays_fill : Cond.static M_Arrays_fill.1 ∈ z_gw := z_mj2 (i := 214) rfl (by decide +kernel)
theorem d_Fz_pass_8 : decode prog_4_method_5_code 8 = .ok (.iconst 0, 1) := zo_3 (zd_b zq_prog_4_method_5_code_0 8 rfl rfl rfl)
theorem d_Fz_pass_9 : decode prog_4_method_5_code 9 = .ok (.istore_n 2, 1) := zo_61 (zd_b zq_prog_4_method_5_code_0 9 rfl rfl rfl)
set_option maxHeartbeats 4000000 in
set_option maxRecDepth 100000 in
theorem L_Fz_pass_120 (g : zG) (a a1 a2 a3 a4 a5 a6 : Nat) (F1 F2 F3 F4 F5 F6 : Nat → Int32) (liq : Int32) (st : Int32) (w0 : zW) (n : Nat) : ∀ (d i : Nat), i ≤ 108 → 108 < i + d → DV g M_Fz_pass (fun o cs1 => o = .inl none ∧ cs1 = [(a, .inr (2, [.ref a1, .ref a2, .ref a3, .ref a4, .ref a5, .ref a6, .int ((stS (gnS F1 F5 F6 (fa_fill (fun _ => 0) F2 108) 108) st (F1, F3, F4, liq) 108).2.2.2)])), (a1, .inl (0, 108, .inl ((stS (gnS F1 F5 F6 (fa_fill (fun _ => 0) F2 108) 108) st (F1, F3, F4, liq) 108).1))), (a2, .inl (0, 108, .inl (gnS F1 F5 F6 (fa_fill (fun _ => 0) F2 108) 108))), (a3, .inl (0, 108, .inl ((stS (gnS F1 F5 F6 (fa_fill (fun _ => 0) F2 108) 108) st (F1, F3, F4, liq) 108).2.1))), (a4, .inl (0, 108, .inl ((stS (gnS F1 F5 F6 (fa_fill (fun _ => 0) F2 108) 108) st (F1, F3, F4, liq) 108).2.2.1))), (a5, .inl (0, 108, .inl F5)), (a6, .inl (0, 108, .inl F6))]) w0 n 120 [(2, .int (nI i)), (0, .ref a), (1, .int st)] [] [(a, .inr (2, [.ref a1, .ref a2, .ref a3, .ref a4, .ref a5, .ref a6, .int ((stS (gnS F1 F5 F6 (fa_fill (fun _ => 0) F2 108) 108) st (F1, F3, F4, liq) i).2.2.2)])), (a1, .inl (0, 108, .inl ((stS (gnS F1 F5 F6 (fa_fill (fun _ => 0) F2 108) 108) st (F1, F3, F4, liq) i).1))), (a2, .inl (0, 108, .inl (gnS F1 F5 F6 (fa_fill (fun _ => 0) F2 108) 108))), (a3, .inl (0, 108, .inl ((stS (gnS F1 F5 F6 (fa_fill (fun _ => 0) F2 108) 108) st (F1, F3, F4, liq) i).2.1))), (a4, .inl (0, 108, .inl ((stS (gnS F1 F5 F6 (fa_fill (fun _ => 0) F2 108) 108) st (F1, F3, F4, liq) i).2.2.1))), (a5, .inl (0, 108, .inl F5)), (a6, .inl (0, 108, .inl F6))] 0 0 := by
  intro d
  induction d with
  | zero => intro i h1 h2 ; exact absurd h2 (by omega)
  | succ d ih =>
    intro i h1 h2 
    refine r_iload_n d_Fz_pass_120 rfl 0 rfl ?_
    refine r_bipush d_Fz_pass_121 (v := 108) (by decide) ?_
    refine r_icmp_ge (tgt := 151) d_Fz_pass_123 (by decide) (fun c_123 => ?_) (fun c_123 => ?_)
    · have hn := z_le (a := 108) (by omega) (by decide) c_123
      obtain rfl : i = 108 := by omega
      refine r_vret d_Fz_pass_151 rfl ?_
      exact ⟨rfl, rfl⟩
    · have hn := z_nle (a := 108) (by omega) (by decide) c_123
      refine r_aload_n d_Fz_pass_126 rfl 1 rfl ?_
      refine r_iload_n d_Fz_pass_127 rfl 0 rfl ?_
      refine r_aload_n d_Fz_pass_128 rfl 1 rfl ?_
      refine r_get fs_Fz_9 d_Fz_pass_129 (q0 := 0) rfl rfl ?_
      refine r_iload_n d_Fz_pass_132 rfl 0 rfl ?_
      refine r_iald d_Fz_pass_133 (q0 := 1) rfl (vp_in_nI (by omega) (by omega)) (v := ((stS (gnS F1 F5 F6 (fa_fill (fun _ => 0) F2 108) 108) st (F1, F3, F4, liq) i).1) i) (by rw [nI_clamp (by omega)]) ?_
      refine r_aload_n d_Fz_pass_134 rfl 1 rfl ?_
      refine r_get fs_Fz_15 d_Fz_pass_135 (q0 := 0) rfl rfl ?_
      refine r_iload_n d_Fz_pass_138 rfl 0 rfl ?_
      refine r_iald d_Fz_pass_139 (q0 := 2) rfl (vp_in_nI (by omega) (by omega)) (v := (gnS F1 F5 F6 (fa_fill (fun _ => 0) F2 108) 108) i) (by rw [nI_clamp (by omega)]) ?_
      refine r_iadd d_Fz_pass_140 (v := (((stS (gnS F1 F5 F6 (fa_fill (fun _ => 0) F2 108) 108) st (F1, F3, F4, liq) i).1) i) + ((gnS F1 F5 F6 (fa_fill (fun _ => 0) F2 108) 108) i)) rfl ?_
      refine r_iload_n d_Fz_pass_141 rfl 2 rfl ?_
      refine r_callV (As := [.int (nI i), .int ((((stS (gnS F1 F5 F6 (fa_fill (fun _ => 0) F2 108) 108) st (F1, F3, F4, liq) i).1) i) + ((gnS F1 F5 F6 (fa_fill (fun _ => 0) F2 108) 108) i)), .int st]) (rest := []) (csC := [(a, .inr (2, [.ref a1, .ref a2, .ref a3, .ref a4, .ref a5, .ref a6, .int ((stS (gnS F1 F5 F6 (fa_fill (fun _ => 0) F2 108) 108) st (F1, F3, F4, liq) i).2.2.2)])), (a1, .inl (0, 108, .inl ((stS (gnS F1 F5 F6 (fa_fill (fun _ => 0) F2 108) 108) st (F1, F3, F4, liq) i).1))), (a2, .inl (0, 108, .inl (gnS F1 F5 F6 (fa_fill (fun _ => 0) F2 108) 108))), (a3, .inl (0, 108, .inl ((stS (gnS F1 F5 F6 (fa_fill (fun _ => 0) F2 108) 108) st (F1, F3, F4, liq) i).2.1))), (a4, .inl (0, 108, .inl ((stS (gnS F1 F5 F6 (fa_fill (fun _ => 0) F2 108) 108) st (F1, F3, F4, liq) i).2.2.1))), (a5, .inl (0, 108, .inl F5)), (a6, .inl (0, 108, .inl F6))]) (is := [0, 1, 2, 3, 4, 5, 6]) (q0 := 0) rfl rfl ln_Fz_38 w_im_Fz_becomeHeat w_se_Fz_becomeHeat ok_Fz_pass_Fz_becomeHeat d_Fz_pass_142 (C_Fz_becomeHeat g a a1 a2 a3 a4 a5 a6 (stS (gnS F1 F5 F6 (fa_fill (fun _ => 0) F2 108) 108) st (F1, F3, F4, liq) i).1 (gnS F1 F5 F6 (fa_fill (fun _ => 0) F2 108) 108) (stS (gnS F1 F5 F6 (fa_fill (fun _ => 0) F2 108) 108) st (F1, F3, F4, liq) i).2.1 (stS (gnS F1 F5 F6 (fa_fill (fun _ => 0) F2 108) 108) st (F1, F3, F4, liq) i).2.2.1 F5 F6 (stS (gnS F1 F5 F6 (fa_fill (fun _ => 0) F2 108) 108) st (F1, F3, F4, liq) i).2.2.2 i (by omega) _ st) rfl rfl (Nat.le_of_ble_eq_true rfl) rfl (by decide) (by omega) (by omega) (fun E cs1 hx => ?_) (fun v cs1 hx => ?_)
      · exact absurd hx.1 (by simp)
      · obtain ⟨e1, rfl⟩ := hx
        cases e1
        refine ⟨rfl, ?_⟩
        refine r_st (st2 := []) rfl ?_
        refine r_cs (cs2 := [(a, .inr (2, [.ref a1, .ref a2, .ref a3, .ref a4, .ref a5, .ref a6, .int ((bhS i ((stS (gnS F1 F5 F6 (fa_fill (fun _ => 0) F2 108) 108) st (F1, F3, F4, liq) i).1 i + gnS F1 F5 F6 (fa_fill (fun _ => 0) F2 108) 108 i) st (stS (gnS F1 F5 F6 (fa_fill (fun _ => 0) F2 108) 108) st (F1, F3, F4, liq) i)).2.2.2)])), (a1, .inl (0, 108, .inl ((bhS i ((stS (gnS F1 F5 F6 (fa_fill (fun _ => 0) F2 108) 108) st (F1, F3, F4, liq) i).1 i + gnS F1 F5 F6 (fa_fill (fun _ => 0) F2 108) 108 i) st (stS (gnS F1 F5 F6 (fa_fill (fun _ => 0) F2 108) 108) st (F1, F3, F4, liq) i)).1))), (a2, .inl (0, 108, .inl (gnS F1 F5 F6 (fa_fill (fun _ => 0) F2 108) 108))), (a3, .inl (0, 108, .inl ((bhS i ((stS (gnS F1 F5 F6 (fa_fill (fun _ => 0) F2 108) 108) st (F1, F3, F4, liq) i).1 i + gnS F1 F5 F6 (fa_fill (fun _ => 0) F2 108) 108 i) st (stS (gnS F1 F5 F6 (fa_fill (fun _ => 0) F2 108) 108) st (F1, F3, F4, liq) i)).2.1))), (a4, .inl (0, 108, .inl ((bhS i ((stS (gnS F1 F5 F6 (fa_fill (fun _ => 0) F2 108) 108) st (F1, F3, F4, liq) i).1 i + gnS F1 F5 F6 (fa_fill (fun _ => 0) F2 108) 108 i) st (stS (gnS F1 F5 F6 (fa_fill (fun _ => 0) F2 108) 108) st (F1, F3, F4, liq) i)).2.2.1))), (a5, .inl (0, 108, .inl F5)), (a6, .inl (0, 108, .inl F6))]) rfl ?_
        refine r_iinc (lv' := [(2, .int (nI (i + 1))), (0, .ref a), (1, .int st)]) (v := nI (i + 1)) d_Fz_pass_145 (j := 0) rfl (nI_add _ _) (by decide) rfl ?_
        refine r_goto (tgt := 120) d_Fz_pass_148 (by decide) ?_
        refine r_lvE (lv2 := [(2, .int (nI (i + 1))), (0, .ref a), (1, .int st)]) (rfl) ?_
        refine r_cs (cs2 := [(a, .inr (2, [.ref a1, .ref a2, .ref a3, .ref a4, .ref a5, .ref a6, .int ((stS (gnS F1 F5 F6 (fa_fill (fun _ => 0) F2 108) 108) st (F1, F3, F4, liq) (i + 1)).2.2.2)])), (a1, .inl (0, 108, .inl ((stS (gnS F1 F5 F6 (fa_fill (fun _ => 0) F2 108) 108) st (F1, F3, F4, liq) (i + 1)).1))), (a2, .inl (0, 108, .inl (gnS F1 F5 F6 (fa_fill (fun _ => 0) F2 108) 108))), (a3, .inl (0, 108, .inl ((stS (gnS F1 F5 F6 (fa_fill (fun _ => 0) F2 108) 108) st (F1, F3, F4, liq) (i + 1)).2.1))), (a4, .inl (0, 108, .inl ((stS (gnS F1 F5 F6 (fa_fill (fun _ => 0) F2 108) 108) st (F1, F3, F4, liq) (i + 1)).2.2.1))), (a5, .inl (0, 108, .inl F5)), (a6, .inl (0, 108, .inl F6))]) (rfl) ?_
        exact ih (i + 1) (by omega) (by omega)
set_option maxHeartbeats 4000000 in
set_option maxRecDepth 100000 in
theorem L_Fz_pass_10 (g : zG) (a a1 a2 a3 a4 a5 a6 : Nat) (F1 F2 F3 F4 F5 F6 : Nat → Int32) (liq : Int32) (st : Int32) (w0 : zW) (n : Nat) : ∀ (d i : Nat), i ≤ 108 → 108 < i + d → DV g M_Fz_pass (fun o cs1 => o = .inl none ∧ cs1 = [(a, .inr (2, [.ref a1, .ref a2, .ref a3, .ref a4, .ref a5, .ref a6, .int ((stS (gnS F1 F5 F6 (fa_fill (fun _ => 0) F2 108) 108) st (F1, F3, F4, liq) 108).2.2.2)])), (a1, .inl (0, 108, .inl ((stS (gnS F1 F5 F6 (fa_fill (fun _ => 0) F2 108) 108) st (F1, F3, F4, liq) 108).1))), (a2, .inl (0, 108, .inl (gnS F1 F5 F6 (fa_fill (fun _ => 0) F2 108) 108))), (a3, .inl (0, 108, .inl ((stS (gnS F1 F5 F6 (fa_fill (fun _ => 0) F2 108) 108) st (F1, F3, F4, liq) 108).2.1))), (a4, .inl (0, 108, .inl ((stS (gnS F1 F5 F6 (fa_fill (fun _ => 0) F2 108) 108) st (F1, F3, F4, liq) 108).2.2.1))), (a5, .inl (0, 108, .inl F5)), (a6, .inl (0, 108, .inl F6))]) w0 n 10 [(2, .int (nI i)), (0, .ref a), (1, .int st)] [] [(a, .inr (2, [.ref a1, .ref a2, .ref a3, .ref a4, .ref a5, .ref a6, .int liq])), (a1, .inl (0, 108, .inl F1)), (a2, .inl (0, 108, .inl (gnS F1 F5 F6 (fa_fill (fun _ => 0) F2 108) i))), (a3, .inl (0, 108, .inl F3)), (a4, .inl (0, 108, .inl F4)), (a5, .inl (0, 108, .inl F5)), (a6, .inl (0, 108, .inl F6))] 0 0 := by
  intro d
  induction d with
  | zero => intro i h1 h2 ; exact absurd h2 (by omega)
  | succ d ih =>
    intro i h1 h2 
    refine r_iload_n d_Fz_pass_10 rfl 0 rfl ?_
    refine r_bipush d_Fz_pass_11 (v := 108) (by decide) ?_
    refine r_icmp_ge (tgt := 118) d_Fz_pass_13 (by decide) (fun c_13 => ?_) (fun c_13 => ?_)
    · have hn := z_le (a := 108) (by omega) (by decide) c_13
      obtain rfl : i = 108 := by omega
      refine r_iconst d_Fz_pass_118 (v := 0) (by decide) ?_
      refine r_istore_n (lv' := [(2, .int 0), (0, .ref a), (1, .int st)]) d_Fz_pass_119 rfl (by decide) rfl ?_
      refine r_lvE (lv2 := [(2, .int (nI 0)), (0, .ref a), (1, .int st)]) (rfl) ?_
      refine r_cs (cs2 := [(a, .inr (2, [.ref a1, .ref a2, .ref a3, .ref a4, .ref a5, .ref a6, .int ((stS (gnS F1 F5 F6 (fa_fill (fun _ => 0) F2 108) 108) st (F1, F3, F4, liq) 0).2.2.2)])), (a1, .inl (0, 108, .inl ((stS (gnS F1 F5 F6 (fa_fill (fun _ => 0) F2 108) 108) st (F1, F3, F4, liq) 0).1))), (a2, .inl (0, 108, .inl (gnS F1 F5 F6 (fa_fill (fun _ => 0) F2 108) 108))), (a3, .inl (0, 108, .inl ((stS (gnS F1 F5 F6 (fa_fill (fun _ => 0) F2 108) 108) st (F1, F3, F4, liq) 0).2.1))), (a4, .inl (0, 108, .inl ((stS (gnS F1 F5 F6 (fa_fill (fun _ => 0) F2 108) 108) st (F1, F3, F4, liq) 0).2.2.1))), (a5, .inl (0, 108, .inl F5)), (a6, .inl (0, 108, .inl F6))]) (rfl) ?_
      exact L_Fz_pass_120 g a a1 a2 a3 a4 a5 a6 F1 F2 F3 F4 F5 F6 liq st w0 _  (108 + 1) 0 (Nat.zero_le _) (by omega)
    · have hn := z_nle (a := 108) (by omega) (by decide) c_13
      refine r_iload_n d_Fz_pass_16 rfl 0 rfl ?_
      refine r_bipush d_Fz_pass_17 (v := 12) (by decide) ?_
      refine r_irem d_Fz_pass_19 (v := nI (i % 12)) (by decide) (nI_mod12 (by omega)) ?_
      refine r_istore_n (lv' := [(3, .int (nI (i % 12))), (2, .int (nI i)), (0, .ref a), (1, .int st)]) d_Fz_pass_20 rfl (by decide) rfl ?_
      refine r_iload_n d_Fz_pass_21 rfl 0 rfl ?_
      refine r_bipush d_Fz_pass_22 (v := 11) (by decide) ?_
      refine r_icmp_ge (tgt := 41) d_Fz_pass_24 (by decide) (fun c_24 => ?_) (fun c_24 => ?_)
      · have qa : ¬ i % 12 < 11 := Nat.not_lt.mpr (z_le (a := 11) (by omega) (by decide) c_24)
        refine r_iload_n d_Fz_pass_41 rfl 1 rfl ?_
        refine r_bipush d_Fz_pass_42 (v := 96) (by decide) ?_
        refine r_icmp_ge (tgt := 62) d_Fz_pass_44 (by decide) (fun c_44 => ?_) (fun c_44 => ?_)
        · have qb : ¬ i < 96 := Nat.not_lt.mpr (z_le (a := 96) (by omega) (by decide) c_44)
          refine r_iload_n d_Fz_pass_62 rfl 0 rfl ?_
          refine r_if_eq (tgt := 72) d_Fz_pass_63 (by decide) (fun c_63 => ?_) (fun c_63 => ?_)
          · have qc : i % 12 = 0 ∨ i % 12 = 11 := Or.inl (z_eqn (b := 0) (by omega) (by decide) c_63)
            refine r_aload_n d_Fz_pass_72 rfl 2 rfl ?_
            refine r_get fs_Fz_15 d_Fz_pass_73 (q0 := 0) rfl rfl ?_
            refine r_iload_n d_Fz_pass_76 rfl 1 rfl ?_
            refine r_dup2_11 d_Fz_pass_77 rfl rfl ?_
            refine r_iald d_Fz_pass_78 (q0 := 2) rfl (vp_in_nI (by omega) (by omega)) (v := (gnS F1 F5 F6 (fa_fill (fun _ => 0) F2 108) i) i) (by rw [nI_clamp (by omega)]) ?_
            refine r_aload_n d_Fz_pass_79 rfl 2 rfl ?_
            refine r_iload_n d_Fz_pass_80 rfl 1 rfl ?_
            refine r_callV (As := [.int (nI i)]) (rest := [.int ((gnS F1 F5 F6 (fa_fill (fun _ => 0) F2 108) i) i), .int (nI i), .ref a2]) (csC := [(a, .inr (2, [.ref a1, .ref a2, .ref a3, .ref a4, .ref a5, .ref a6, .int liq])), (a1, .inl (0, 108, .inl F1)), (a2, .inl (0, 108, .inl (gnS F1 F5 F6 (fa_fill (fun _ => 0) F2 108) i))), (a3, .inl (0, 108, .inl F3)), (a4, .inl (0, 108, .inl F4)), (a5, .inl (0, 108, .inl F5)), (a6, .inl (0, 108, .inl F6))]) (is := [0, 1, 2, 3, 4, 5, 6]) (q0 := 0) rfl rfl ln_Fz_58 w_im_Fz_flowFromBeyond w_se_Fz_flowFromBeyond ok_Fz_pass_Fz_flowFromBeyond d_Fz_pass_81 (C_Fz_flow g a a1 a2 a3 a4 a5 a6 F1 (gnS F1 F5 F6 (fa_fill (fun _ => 0) F2 108) i) F3 F4 F5 F6 liq i (by omega)) rfl rfl (Nat.le_of_ble_eq_true rfl) rfl (by decide) (by omega) (by omega) (fun E cs1 hx => ?_) (fun v cs1 hx => ?_)
            · exact absurd hx.1 (by simp)
            · obtain ⟨e1, rfl⟩ := hx
              cases e1
              refine ⟨rfl, ?_⟩
              refine r_st (st2 := [.int (flS F1 i), .int ((gnS F1 F5 F6 (fa_fill (fun _ => 0) F2 108) i) i), .int (nI i), .ref a2]) rfl ?_
              refine r_cs (cs2 := [(a, .inr (2, [.ref a1, .ref a2, .ref a3, .ref a4, .ref a5, .ref a6, .int liq])), (a1, .inl (0, 108, .inl F1)), (a2, .inl (0, 108, .inl (gnS F1 F5 F6 (fa_fill (fun _ => 0) F2 108) i))), (a3, .inl (0, 108, .inl F3)), (a4, .inl (0, 108, .inl F4)), (a5, .inl (0, 108, .inl F5)), (a6, .inl (0, 108, .inl F6))]) rfl ?_
              refine r_iadd d_Fz_pass_84 (v := ((gnS F1 F5 F6 (fa_fill (fun _ => 0) F2 108) i) i) + (flS F1 i)) rfl ?_
              refine r_iast d_Fz_pass_85 (q0 := 2) rfl (vp_in_nI (by omega) (by omega)) (f' := upd (gnS F1 F5 F6 (fa_fill (fun _ => 0) F2 108) i) i (((gnS F1 F5 F6 (fa_fill (fun _ => 0) F2 108) i) i) + (flS F1 i))) (by rw [nI_clamp (by omega)]) (cs' := [(a, .inr (2, [.ref a1, .ref a2, .ref a3, .ref a4, .ref a5, .ref a6, .int liq])), (a1, .inl (0, 108, .inl F1)), (a2, .inl (0, 108, .inl (upd (gnS F1 F5 F6 (fa_fill (fun _ => 0) F2 108) i) i (((gnS F1 F5 F6 (fa_fill (fun _ => 0) F2 108) i) i) + (flS F1 i))))), (a3, .inl (0, 108, .inl F3)), (a4, .inl (0, 108, .inl F4)), (a5, .inl (0, 108, .inl F5)), (a6, .inl (0, 108, .inl F6))]) rfl ?_
              refine r_iload_n d_Fz_pass_86 rfl 1 rfl ?_
              refine r_bipush d_Fz_pass_87 (v := 12) (by decide) ?_
              refine r_icmp_lt (tgt := 98) d_Fz_pass_89 (by decide) (fun c_89 => ?_) (fun c_89 => ?_)
              · have qd : i < 12 ∨ 96 ≤ i := Or.inl (z_lt (b := 12) (by decide) (by omega) c_89)
                refine r_aload_n d_Fz_pass_98 rfl 2 rfl ?_
                refine r_get fs_Fz_15 d_Fz_pass_99 (q0 := 0) rfl rfl ?_
                refine r_iload_n d_Fz_pass_102 rfl 1 rfl ?_
                refine r_dup2_11 d_Fz_pass_103 rfl rfl ?_
                refine r_iald d_Fz_pass_104 (q0 := 2) rfl (vp_in_nI (by omega) (by omega)) (v := (upd (gnS F1 F5 F6 (fa_fill (fun _ => 0) F2 108) i) i (((gnS F1 F5 F6 (fa_fill (fun _ => 0) F2 108) i) i) + (flS F1 i))) i) (by rw [nI_clamp (by omega)]) ?_
                refine r_aload_n d_Fz_pass_105 rfl 2 rfl ?_
                refine r_iload_n d_Fz_pass_106 rfl 1 rfl ?_
                refine r_callV (As := [.int (nI i)]) (rest := [.int ((upd (gnS F1 F5 F6 (fa_fill (fun _ => 0) F2 108) i) i (((gnS F1 F5 F6 (fa_fill (fun _ => 0) F2 108) i) i) + (flS F1 i))) i), .int (nI i), .ref a2]) (csC := [(a, .inr (2, [.ref a1, .ref a2, .ref a3, .ref a4, .ref a5, .ref a6, .int liq])), (a1, .inl (0, 108, .inl F1)), (a2, .inl (0, 108, .inl (upd (gnS F1 F5 F6 (fa_fill (fun _ => 0) F2 108) i) i (((gnS F1 F5 F6 (fa_fill (fun _ => 0) F2 108) i) i) + (flS F1 i))))), (a3, .inl (0, 108, .inl F3)), (a4, .inl (0, 108, .inl F4)), (a5, .inl (0, 108, .inl F5)), (a6, .inl (0, 108, .inl F6))]) (is := [0, 1, 2, 3, 4, 5, 6]) (q0 := 0) rfl rfl ln_Fz_58 w_im_Fz_flowFromBeyond w_se_Fz_flowFromBeyond ok_Fz_pass_Fz_flowFromBeyond d_Fz_pass_107 (C_Fz_flow g a a1 a2 a3 a4 a5 a6 F1 (upd (gnS F1 F5 F6 (fa_fill (fun _ => 0) F2 108) i) i (((gnS F1 F5 F6 (fa_fill (fun _ => 0) F2 108) i) i) + (flS F1 i))) F3 F4 F5 F6 liq i (by omega)) rfl rfl (Nat.le_of_ble_eq_true rfl) rfl (by decide) (by omega) (by omega) (fun E cs1 hx => ?_) (fun v cs1 hx => ?_)
                · exact absurd hx.1 (by simp)
                · obtain ⟨e1, rfl⟩ := hx
                  cases e1
                  refine ⟨rfl, ?_⟩
                  refine r_st (st2 := [.int (flS F1 i), .int ((upd (gnS F1 F5 F6 (fa_fill (fun _ => 0) F2 108) i) i (((gnS F1 F5 F6 (fa_fill (fun _ => 0) F2 108) i) i) + (flS F1 i))) i), .int (nI i), .ref a2]) rfl ?_
                  refine r_cs (cs2 := [(a, .inr (2, [.ref a1, .ref a2, .ref a3, .ref a4, .ref a5, .ref a6, .int liq])), (a1, .inl (0, 108, .inl F1)), (a2, .inl (0, 108, .inl (upd (gnS F1 F5 F6 (fa_fill (fun _ => 0) F2 108) i) i (((gnS F1 F5 F6 (fa_fill (fun _ => 0) F2 108) i) i) + (flS F1 i))))), (a3, .inl (0, 108, .inl F3)), (a4, .inl (0, 108, .inl F4)), (a5, .inl (0, 108, .inl F5)), (a6, .inl (0, 108, .inl F6))]) rfl ?_
                  refine r_iadd d_Fz_pass_110 (v := ((upd (gnS F1 F5 F6 (fa_fill (fun _ => 0) F2 108) i) i (((gnS F1 F5 F6 (fa_fill (fun _ => 0) F2 108) i) i) + (flS F1 i))) i) + (flS F1 i)) rfl ?_
                  refine r_iast d_Fz_pass_111 (q0 := 2) rfl (vp_in_nI (by omega) (by omega)) (f' := upd (upd (gnS F1 F5 F6 (fa_fill (fun _ => 0) F2 108) i) i (((gnS F1 F5 F6 (fa_fill (fun _ => 0) F2 108) i) i) + (flS F1 i))) i (((upd (gnS F1 F5 F6 (fa_fill (fun _ => 0) F2 108) i) i (((gnS F1 F5 F6 (fa_fill (fun _ => 0) F2 108) i) i) + (flS F1 i))) i) + (flS F1 i))) (by rw [nI_clamp (by omega)]) (cs' := [(a, .inr (2, [.ref a1, .ref a2, .ref a3, .ref a4, .ref a5, .ref a6, .int liq])), (a1, .inl (0, 108, .inl F1)), (a2, .inl (0, 108, .inl (upd (upd (gnS F1 F5 F6 (fa_fill (fun _ => 0) F2 108) i) i (((gnS F1 F5 F6 (fa_fill (fun _ => 0) F2 108) i) i) + (flS F1 i))) i (((upd (gnS F1 F5 F6 (fa_fill (fun _ => 0) F2 108) i) i (((gnS F1 F5 F6 (fa_fill (fun _ => 0) F2 108) i) i) + (flS F1 i))) i) + (flS F1 i))))), (a3, .inl (0, 108, .inl F3)), (a4, .inl (0, 108, .inl F4)), (a5, .inl (0, 108, .inl F5)), (a6, .inl (0, 108, .inl F6))]) rfl ?_
                  refine r_iinc (lv' := [(2, .int (nI (i + 1))), (3, .int (nI (i % 12))), (0, .ref a), (1, .int st)]) (v := nI (i + 1)) d_Fz_pass_112 (j := 1) rfl (nI_add _ _) (by decide) rfl ?_
                  refine r_goto (tgt := 10) d_Fz_pass_115 (by decide) ?_
                  refine r_lv (lv' := [(2, .int (nI (i + 1))), (0, .ref a), (1, .int st)]) [0, 2, 3] rfl ?_
                  refine r_lvE (lv2 := [(2, .int (nI (i + 1))), (0, .ref a), (1, .int st)]) (rfl) ?_
                  refine r_cs (cs2 := [(a, .inr (2, [.ref a1, .ref a2, .ref a3, .ref a4, .ref a5, .ref a6, .int liq])), (a1, .inl (0, 108, .inl F1)), (a2, .inl (0, 108, .inl (gnS F1 F5 F6 (fa_fill (fun _ => 0) F2 108) (i + 1)))), (a3, .inl (0, 108, .inl F3)), (a4, .inl (0, 108, .inl F4)), (a5, .inl (0, 108, .inl F5)), (a6, .inl (0, 108, .inl F6))]) (by simp only [gnS, psA, psB, psC, psD, qa, qb, qc, qd, if_true, if_false]) ?_
                  exact ih (i + 1) (by omega) (by omega)
              · have q1 := z_nlt (b := 12) (by decide) (by omega) c_89
                refine r_iload_n d_Fz_pass_92 rfl 1 rfl ?_
                refine r_bipush d_Fz_pass_93 (v := 96) (by decide) ?_
                refine r_icmp_lt (tgt := 112) d_Fz_pass_95 (by decide) (fun c_95 => ?_) (fun c_95 => ?_)
                · have q2 := z_lt (b := 96) (by decide) (by omega) c_95
                  have qd : ¬ (i < 12 ∨ 96 ≤ i) := by omega
                  refine r_iinc (lv' := [(2, .int (nI (i + 1))), (3, .int (nI (i % 12))), (0, .ref a), (1, .int st)]) (v := nI (i + 1)) d_Fz_pass_112 (j := 1) rfl (nI_add _ _) (by decide) rfl ?_
                  refine r_goto (tgt := 10) d_Fz_pass_115 (by decide) ?_
                  refine r_lv (lv' := [(2, .int (nI (i + 1))), (0, .ref a), (1, .int st)]) [0, 2, 3] rfl ?_
                  refine r_lvE (lv2 := [(2, .int (nI (i + 1))), (0, .ref a), (1, .int st)]) (rfl) ?_
                  refine r_cs (cs2 := [(a, .inr (2, [.ref a1, .ref a2, .ref a3, .ref a4, .ref a5, .ref a6, .int liq])), (a1, .inl (0, 108, .inl F1)), (a2, .inl (0, 108, .inl (gnS F1 F5 F6 (fa_fill (fun _ => 0) F2 108) (i + 1)))), (a3, .inl (0, 108, .inl F3)), (a4, .inl (0, 108, .inl F4)), (a5, .inl (0, 108, .inl F5)), (a6, .inl (0, 108, .inl F6))]) (by simp only [gnS, psA, psB, psC, psD, qa, qb, qc, qd, if_true, if_false]) ?_
                  exact ih (i + 1) (by omega) (by omega)
                · have qd : i < 12 ∨ 96 ≤ i := Or.inr (z_nlt (b := 96) (by decide) (by omega) c_95)
                  refine r_aload_n d_Fz_pass_98 rfl 2 rfl ?_
                  refine r_get fs_Fz_15 d_Fz_pass_99 (q0 := 0) rfl rfl ?_
                  refine r_iload_n d_Fz_pass_102 rfl 1 rfl ?_
                  refine r_dup2_11 d_Fz_pass_103 rfl rfl ?_
                  refine r_iald d_Fz_pass_104 (q0 := 2) rfl (vp_in_nI (by omega) (by omega)) (v := (upd (gnS F1 F5 F6 (fa_fill (fun _ => 0) F2 108) i) i (((gnS F1 F5 F6 (fa_fill (fun _ => 0) F2 108) i) i) + (flS F1 i))) i) (by rw [nI_clamp (by omega)]) ?_
                  refine r_aload_n d_Fz_pass_105 rfl 2 rfl ?_
                  refine r_iload_n d_Fz_pass_106 rfl 1 rfl ?_
                  refine r_callV (As := [.int (nI i)]) (rest := [.int ((upd (gnS F1 F5 F6 (fa_fill (fun _ => 0) F2 108) i) i (((gnS F1 F5 F6 (fa_fill (fun _ => 0) F2 108) i) i) + (flS F1 i))) i), .int (nI i), .ref a2]) (csC := [(a, .inr (2, [.ref a1, .ref a2, .ref a3, .ref a4, .ref a5, .ref a6, .int liq])), (a1, .inl (0, 108, .inl F1)), (a2, .inl (0, 108, .inl (upd (gnS F1 F5 F6 (fa_fill (fun _ => 0) F2 108) i) i (((gnS F1 F5 F6 (fa_fill (fun _ => 0) F2 108) i) i) + (flS F1 i))))), (a3, .inl (0, 108, .inl F3)), (a4, .inl (0, 108, .inl F4)), (a5, .inl (0, 108, .inl F5)), (a6, .inl (0, 108, .inl F6))]) (is := [0, 1, 2, 3, 4, 5, 6]) (q0 := 0) rfl rfl ln_Fz_58 w_im_Fz_flowFromBeyond w_se_Fz_flowFromBeyond ok_Fz_pass_Fz_flowFromBeyond d_Fz_pass_107 (C_Fz_flow g a a1 a2 a3 a4 a5 a6 F1 (upd (gnS F1 F5 F6 (fa_fill (fun _ => 0) F2 108) i) i (((gnS F1 F5 F6 (fa_fill (fun _ => 0) F2 108) i) i) + (flS F1 i))) F3 F4 F5 F6 liq i (by omega)) rfl rfl (Nat.le_of_ble_eq_true rfl) rfl (by decide) (by omega) (by omega) (fun E cs1 hx => ?_) (fun v cs1 hx => ?_)
                  · exact absurd hx.1 (by simp)
                  · obtain ⟨e1, rfl⟩ := hx
                    cases e1
                    refine ⟨rfl, ?_⟩
                    refine r_st (st2 := [.int (flS F1 i), .int ((upd (gnS F1 F5 F6 (fa_fill (fun _ => 0) F2 108) i) i (((gnS F1 F5 F6 (fa_fill (fun _ => 0) F2 108) i) i) + (flS F1 i))) i), .int (nI i), .ref a2]) rfl ?_
                    refine r_cs (cs2 := [(a, .inr (2, [.ref a1, .ref a2, .ref a3, .ref a4, .ref a5, .ref a6, .int liq])), (a1, .inl (0, 108, .inl F1)), (a2, .inl (0, 108, .inl (upd (gnS F1 F5 F6 (fa_fill (fun _ => 0) F2 108) i) i (((gnS F1 F5 F6 (fa_fill (fun _ => 0) F2 108) i) i) + (flS F1 i))))), (a3, .inl (0, 108, .inl F3)), (a4, .inl (0, 108, .inl F4)), (a5, .inl (0, 108, .inl F5)), (a6, .inl (0, 108, .inl F6))]) rfl ?_
                    refine r_iadd d_Fz_pass_110 (v := ((upd (gnS F1 F5 F6 (fa_fill (fun _ => 0) F2 108) i) i (((gnS F1 F5 F6 (fa_fill (fun _ => 0) F2 108) i) i) + (flS F1 i))) i) + (flS F1 i)) rfl ?_
                    refine r_iast d_Fz_pass_111 (q0 := 2) rfl (vp_in_nI (by omega) (by omega)) (f' := upd (upd (gnS F1 F5 F6 (fa_fill (fun _ => 0) F2 108) i) i (((gnS F1 F5 F6 (fa_fill (fun _ => 0) F2 108) i) i) + (flS F1 i))) i (((upd (gnS F1 F5 F6 (fa_fill (fun _ => 0) F2 108) i) i (((gnS F1 F5 F6 (fa_fill (fun _ => 0) F2 108) i) i) + (flS F1 i))) i) + (flS F1 i))) (by rw [nI_clamp (by omega)]) (cs' := [(a, .inr (2, [.ref a1, .ref a2, .ref a3, .ref a4, .ref a5, .ref a6, .int liq])), (a1, .inl (0, 108, .inl F1)), (a2, .inl (0, 108, .inl (upd (upd (gnS F1 F5 F6 (fa_fill (fun _ => 0) F2 108) i) i (((gnS F1 F5 F6 (fa_fill (fun _ => 0) F2 108) i) i) + (flS F1 i))) i (((upd (gnS F1 F5 F6 (fa_fill (fun _ => 0) F2 108) i) i (((gnS F1 F5 F6 (fa_fill (fun _ => 0) F2 108) i) i) + (flS F1 i))) i) + (flS F1 i))))), (a3, .inl (0, 108, .inl F3)), (a4, .inl (0, 108, .inl F4)), (a5, .inl (0, 108, .inl F5)), (a6, .inl (0, 108, .inl F6))]) rfl ?_
                    refine r_iinc (lv' := [(2, .int (nI (i + 1))), (3, .int (nI (i % 12))), (0, .ref a), (1, .int st)]) (v := nI (i + 1)) d_Fz_pass_112 (j := 1) rfl (nI_add _ _) (by decide) rfl ?_
                    refine r_goto (tgt := 10) d_Fz_pass_115 (by decide) ?_
                    refine r_lv (lv' := [(2, .int (nI (i + 1))), (0, .ref a), (1, .int st)]) [0, 2, 3] rfl ?_
                    refine r_lvE (lv2 := [(2, .int (nI (i + 1))), (0, .ref a), (1, .int st)]) (rfl) ?_
                    refine r_cs (cs2 := [(a, .inr (2, [.ref a1, .ref a2, .ref a3, .ref a4, .ref a5, .ref a6, .int liq])), (a1, .inl (0, 108, .inl F1)), (a2, .inl (0, 108, .inl (gnS F1 F5 F6 (fa_fill (fun _ => 0) F2 108) (i + 1)))), (a3, .inl (0, 108, .inl F3)), (a4, .inl (0, 108, .inl F4)), (a5, .inl (0, 108, .inl F5)), (a6, .inl (0, 108, .inl F6))]) (by simp only [gnS, psA, psB, psC, psD, qa, qb, qc, qd, if_true, if_false]) ?_
                    exact ih (i + 1) (by omega) (by omega)
          · have q0 : ¬ i % 12 = 0 := z_nen (b := 0) (by omega) (by decide) c_63
            refine r_iload_n d_Fz_pass_66 rfl 0 rfl ?_
            refine r_bipush d_Fz_pass_67 (v := 11) (by decide) ?_
            refine r_icmp_ne (tgt := 86) d_Fz_pass_69 (by decide) (fun c_69 => ?_) (fun c_69 => ?_)
            · have qc : ¬ (i % 12 = 0 ∨ i % 12 = 11) := fun h => h.elim q0 (z_nen (b := 11) (by omega) (by decide) c_69)
              refine r_iload_n d_Fz_pass_86 rfl 1 rfl ?_
              refine r_bipush d_Fz_pass_87 (v := 12) (by decide) ?_
              refine r_icmp_lt (tgt := 98) d_Fz_pass_89 (by decide) (fun c_89 => ?_) (fun c_89 => ?_)
              · have qd : i < 12 ∨ 96 ≤ i := Or.inl (z_lt (b := 12) (by decide) (by omega) c_89)
                refine r_aload_n d_Fz_pass_98 rfl 2 rfl ?_
                refine r_get fs_Fz_15 d_Fz_pass_99 (q0 := 0) rfl rfl ?_
                refine r_iload_n d_Fz_pass_102 rfl 1 rfl ?_
                refine r_dup2_11 d_Fz_pass_103 rfl rfl ?_
                refine r_iald d_Fz_pass_104 (q0 := 2) rfl (vp_in_nI (by omega) (by omega)) (v := (gnS F1 F5 F6 (fa_fill (fun _ => 0) F2 108) i) i) (by rw [nI_clamp (by omega)]) ?_
                refine r_aload_n d_Fz_pass_105 rfl 2 rfl ?_
                refine r_iload_n d_Fz_pass_106 rfl 1 rfl ?_
                refine r_callV (As := [.int (nI i)]) (rest := [.int ((gnS F1 F5 F6 (fa_fill (fun _ => 0) F2 108) i) i), .int (nI i), .ref a2]) (csC := [(a, .inr (2, [.ref a1, .ref a2, .ref a3, .ref a4, .ref a5, .ref a6, .int liq])), (a1, .inl (0, 108, .inl F1)), (a2, .inl (0, 108, .inl (gnS F1 F5 F6 (fa_fill (fun _ => 0) F2 108) i))), (a3, .inl (0, 108, .inl F3)), (a4, .inl (0, 108, .inl F4)), (a5, .inl (0, 108, .inl F5)), (a6, .inl (0, 108, .inl F6))]) (is := [0, 1, 2, 3, 4, 5, 6]) (q0 := 0) rfl rfl ln_Fz_58 w_im_Fz_flowFromBeyond w_se_Fz_flowFromBeyond ok_Fz_pass_Fz_flowFromBeyond d_Fz_pass_107 (C_Fz_flow g a a1 a2 a3 a4 a5 a6 F1 (gnS F1 F5 F6 (fa_fill (fun _ => 0) F2 108) i) F3 F4 F5 F6 liq i (by omega)) rfl rfl (Nat.le_of_ble_eq_true rfl) rfl (by decide) (by omega) (by omega) (fun E cs1 hx => ?_) (fun v cs1 hx => ?_)
                · exact absurd hx.1 (by simp)
                · obtain ⟨e1, rfl⟩ := hx
                  cases e1
                  refine ⟨rfl, ?_⟩
                  refine r_st (st2 := [.int (flS F1 i), .int ((gnS F1 F5 F6 (fa_fill (fun _ => 0) F2 108) i) i), .int (nI i), .ref a2]) rfl ?_
                  refine r_cs (cs2 := [(a, .inr (2, [.ref a1, .ref a2, .ref a3, .ref a4, .ref a5, .ref a6, .int liq])), (a1, .inl (0, 108, .inl F1)), (a2, .inl (0, 108, .inl (gnS F1 F5 F6 (fa_fill (fun _ => 0) F2 108) i))), (a3, .inl (0, 108, .inl F3)), (a4, .inl (0, 108, .inl F4)), (a5, .inl (0, 108, .inl F5)), (a6, .inl (0, 108, .inl F6))]) rfl ?_
                  refine r_iadd d_Fz_pass_110 (v := ((gnS F1 F5 F6 (fa_fill (fun _ => 0) F2 108) i) i) + (flS F1 i)) rfl ?_
                  refine r_iast d_Fz_pass_111 (q0 := 2) rfl (vp_in_nI (by omega) (by omega)) (f' := upd (gnS F1 F5 F6 (fa_fill (fun _ => 0) F2 108) i) i (((gnS F1 F5 F6 (fa_fill (fun _ => 0) F2 108) i) i) + (flS F1 i))) (by rw [nI_clamp (by omega)]) (cs' := [(a, .inr (2, [.ref a1, .ref a2, .ref a3, .ref a4, .ref a5, .ref a6, .int liq])), (a1, .inl (0, 108, .inl F1)), (a2, .inl (0, 108, .inl (upd (gnS F1 F5 F6 (fa_fill (fun _ => 0) F2 108) i) i (((gnS F1 F5 F6 (fa_fill (fun _ => 0) F2 108) i) i) + (flS F1 i))))), (a3, .inl (0, 108, .inl F3)), (a4, .inl (0, 108, .inl F4)), (a5, .inl (0, 108, .inl F5)), (a6, .inl (0, 108, .inl F6))]) rfl ?_
                  refine r_iinc (lv' := [(2, .int (nI (i + 1))), (3, .int (nI (i % 12))), (0, .ref a), (1, .int st)]) (v := nI (i + 1)) d_Fz_pass_112 (j := 1) rfl (nI_add _ _) (by decide) rfl ?_
                  refine r_goto (tgt := 10) d_Fz_pass_115 (by decide) ?_
                  refine r_lv (lv' := [(2, .int (nI (i + 1))), (0, .ref a), (1, .int st)]) [0, 2, 3] rfl ?_
                  refine r_lvE (lv2 := [(2, .int (nI (i + 1))), (0, .ref a), (1, .int st)]) (rfl) ?_
                  refine r_cs (cs2 := [(a, .inr (2, [.ref a1, .ref a2, .ref a3, .ref a4, .ref a5, .ref a6, .int liq])), (a1, .inl (0, 108, .inl F1)), (a2, .inl (0, 108, .inl (gnS F1 F5 F6 (fa_fill (fun _ => 0) F2 108) (i + 1)))), (a3, .inl (0, 108, .inl F3)), (a4, .inl (0, 108, .inl F4)), (a5, .inl (0, 108, .inl F5)), (a6, .inl (0, 108, .inl F6))]) (by simp only [gnS, psA, psB, psC, psD, qa, qb, qc, qd, if_true, if_false]) ?_
                  exact ih (i + 1) (by omega) (by omega)
              · have q1 := z_nlt (b := 12) (by decide) (by omega) c_89
                refine r_iload_n d_Fz_pass_92 rfl 1 rfl ?_
                refine r_bipush d_Fz_pass_93 (v := 96) (by decide) ?_
                refine r_icmp_lt (tgt := 112) d_Fz_pass_95 (by decide) (fun c_95 => ?_) (fun c_95 => ?_)
                · have q2 := z_lt (b := 96) (by decide) (by omega) c_95
                  have qd : ¬ (i < 12 ∨ 96 ≤ i) := by omega
                  refine r_iinc (lv' := [(2, .int (nI (i + 1))), (3, .int (nI (i % 12))), (0, .ref a), (1, .int st)]) (v := nI (i + 1)) d_Fz_pass_112 (j := 1) rfl (nI_add _ _) (by decide) rfl ?_
                  refine r_goto (tgt := 10) d_Fz_pass_115 (by decide) ?_
                  refine r_lv (lv' := [(2, .int (nI (i + 1))), (0, .ref a), (1, .int st)]) [0, 2, 3] rfl ?_
                  refine r_lvE (lv2 := [(2, .int (nI (i + 1))), (0, .ref a), (1, .int st)]) (rfl) ?_
                  refine r_cs (cs2 := [(a, .inr (2, [.ref a1, .ref a2, .ref a3, .ref a4, .ref a5, .ref a6, .int liq])), (a1, .inl (0, 108, .inl F1)), (a2, .inl (0, 108, .inl (gnS F1 F5 F6 (fa_fill (fun _ => 0) F2 108) (i + 1)))), (a3, .inl (0, 108, .inl F3)), (a4, .inl (0, 108, .inl F4)), (a5, .inl (0, 108, .inl F5)), (a6, .inl (0, 108, .inl F6))]) (by simp only [gnS, psA, psB, psC, psD, qa, qb, qc, qd, if_true, if_false]) ?_
                  exact ih (i + 1) (by omega) (by omega)
                · have qd : i < 12 ∨ 96 ≤ i := Or.inr (z_nlt (b := 96) (by decide) (by omega) c_95)
                  refine r_aload_n d_Fz_pass_98 rfl 2 rfl ?_
                  refine r_get fs_Fz_15 d_Fz_pass_99 (q0 := 0) rfl rfl ?_
                  refine r_iload_n d_Fz_pass_102 rfl 1 rfl ?_
                  refine r_dup2_11 d_Fz_pass_103 rfl rfl ?_
                  refine r_iald d_Fz_pass_104 (q0 := 2) rfl (vp_in_nI (by omega) (by omega)) (v := (gnS F1 F5 F6 (fa_fill (fun _ => 0) F2 108) i) i) (by rw [nI_clamp (by omega)]) ?_
                  refine r_aload_n d_Fz_pass_105 rfl 2 rfl ?_
                  refine r_iload_n d_Fz_pass_106 rfl 1 rfl ?_
                  refine r_callV (As := [.int (nI i)]) (rest := [.int ((gnS F1 F5 F6 (fa_fill (fun _ => 0) F2 108) i) i), .int (nI i), .ref a2]) (csC := [(a, .inr (2, [.ref a1, .ref a2, .ref a3, .ref a4, .ref a5, .ref a6, .int liq])), (a1, .inl (0, 108, .inl F1)), (a2, .inl (0, 108, .inl (gnS F1 F5 F6 (fa_fill (fun _ => 0) F2 108) i))), (a3, .inl (0, 108, .inl F3)), (a4, .inl (0, 108, .inl F4)), (a5, .inl (0, 108, .inl F5)), (a6, .inl (0, 108, .inl F6))]) (is := [0, 1, 2, 3, 4, 5, 6]) (q0 := 0) rfl rfl ln_Fz_58 w_im_Fz_flowFromBeyond w_se_Fz_flowFromBeyond ok_Fz_pass_Fz_flowFromBeyond d_Fz_pass_107 (C_Fz_flow g a a1 a2 a3 a4 a5 a6 F1 (gnS F1 F5 F6 (fa_fill (fun _ => 0) F2 108) i) F3 F4 F5 F6 liq i (by omega)) rfl rfl (Nat.le_of_ble_eq_true rfl) rfl (by decide) (by omega) (by omega) (fun E cs1 hx => ?_) (fun v cs1 hx => ?_)
                  · exact absurd hx.1 (by simp)
                  · obtain ⟨e1, rfl⟩ := hx
                    cases e1
                    refine ⟨rfl, ?_⟩
                    refine r_st (st2 := [.int (flS F1 i), .int ((gnS F1 F5 F6 (fa_fill (fun _ => 0) F2 108) i) i), .int (nI i), .ref a2]) rfl ?_
                    refine r_cs (cs2 := [(a, .inr (2, [.ref a1, .ref a2, .ref a3, .ref a4, .ref a5, .ref a6, .int liq])), (a1, .inl (0, 108, .inl F1)), (a2, .inl (0, 108, .inl (gnS F1 F5 F6 (fa_fill (fun _ => 0) F2 108) i))), (a3, .inl (0, 108, .inl F3)), (a4, .inl (0, 108, .inl F4)), (a5, .inl (0, 108, .inl F5)), (a6, .inl (0, 108, .inl F6))]) rfl ?_
                    refine r_iadd d_Fz_pass_110 (v := ((gnS F1 F5 F6 (fa_fill (fun _ => 0) F2 108) i) i) + (flS F1 i)) rfl ?_
                    refine r_iast d_Fz_pass_111 (q0 := 2) rfl (vp_in_nI (by omega) (by omega)) (f' := upd (gnS F1 F5 F6 (fa_fill (fun _ => 0) F2 108) i) i (((gnS F1 F5 F6 (fa_fill (fun _ => 0) F2 108) i) i) + (flS F1 i))) (by rw [nI_clamp (by omega)]) (cs' := [(a, .inr (2, [.ref a1, .ref a2, .ref a3, .ref a4, .ref a5, .ref a6, .int liq])), (a1, .inl (0, 108, .inl F1)), (a2, .inl (0, 108, .inl (upd (gnS F1 F5 F6 (fa_fill (fun _ => 0) F2 108) i) i (((gnS F1 F5 F6 (fa_fill (fun _ => 0) F2 108) i) i) + (flS F1 i))))), (a3, .inl (0, 108, .inl F3)), (a4, .inl (0, 108, .inl F4)), (a5, .inl (0, 108, .inl F5)), (a6, .inl (0, 108, .inl F6))]) rfl ?_
                    refine r_iinc (lv' := [(2, .int (nI (i + 1))), (3, .int (nI (i % 12))), (0, .ref a), (1, .int st)]) (v := nI (i + 1)) d_Fz_pass_112 (j := 1) rfl (nI_add _ _) (by decide) rfl ?_
                    refine r_goto (tgt := 10) d_Fz_pass_115 (by decide) ?_
                    refine r_lv (lv' := [(2, .int (nI (i + 1))), (0, .ref a), (1, .int st)]) [0, 2, 3] rfl ?_
                    refine r_lvE (lv2 := [(2, .int (nI (i + 1))), (0, .ref a), (1, .int st)]) (rfl) ?_
                    refine r_cs (cs2 := [(a, .inr (2, [.ref a1, .ref a2, .ref a3, .ref a4, .ref a5, .ref a6, .int liq])), (a1, .inl (0, 108, .inl F1)), (a2, .inl (0, 108, .inl (gnS F1 F5 F6 (fa_fill (fun _ => 0) F2 108) (i + 1)))), (a3, .inl (0, 108, .inl F3)), (a4, .inl (0, 108, .inl F4)), (a5, .inl (0, 108, .inl F5)), (a6, .inl (0, 108, .inl F6))]) (by simp only [gnS, psA, psB, psC, psD, qa, qb, qc, qd, if_true, if_false]) ?_
                    exact ih (i + 1) (by omega) (by omega)
            · have qc : i % 12 = 0 ∨ i % 12 = 11 := Or.inr (z_eqn (b := 11) (by omega) (by decide) c_69)
              refine r_aload_n d_Fz_pass_72 rfl 2 rfl ?_
              refine r_get fs_Fz_15 d_Fz_pass_73 (q0 := 0) rfl rfl ?_
              refine r_iload_n d_Fz_pass_76 rfl 1 rfl ?_
              refine r_dup2_11 d_Fz_pass_77 rfl rfl ?_
              refine r_iald d_Fz_pass_78 (q0 := 2) rfl (vp_in_nI (by omega) (by omega)) (v := (gnS F1 F5 F6 (fa_fill (fun _ => 0) F2 108) i) i) (by rw [nI_clamp (by omega)]) ?_
              refine r_aload_n d_Fz_pass_79 rfl 2 rfl ?_
              refine r_iload_n d_Fz_pass_80 rfl 1 rfl ?_
              refine r_callV (As := [.int (nI i)]) (rest := [.int ((gnS F1 F5 F6 (fa_fill (fun _ => 0) F2 108) i) i), .int (nI i), .ref a2]) (csC := [(a, .inr (2, [.ref a1, .ref a2, .ref a3, .ref a4, .ref a5, .ref a6, .int liq])), (a1, .inl (0, 108, .inl F1)), (a2, .inl (0, 108, .inl (gnS F1 F5 F6 (fa_fill (fun _ => 0) F2 108) i))), (a3, .inl (0, 108, .inl F3)), (a4, .inl (0, 108, .inl F4)), (a5, .inl (0, 108, .inl F5)), (a6, .inl (0, 108, .inl F6))]) (is := [0, 1, 2, 3, 4, 5, 6]) (q0 := 0) rfl rfl ln_Fz_58 w_im_Fz_flowFromBeyond w_se_Fz_flowFromBeyond ok_Fz_pass_Fz_flowFromBeyond d_Fz_pass_81 (C_Fz_flow g a a1 a2 a3 a4 a5 a6 F1 (gnS F1 F5 F6 (fa_fill (fun _ => 0) F2 108) i) F3 F4 F5 F6 liq i (by omega)) rfl rfl (Nat.le_of_ble_eq_true rfl) rfl (by decide) (by omega) (by omega) (fun E cs1 hx => ?_) (fun v cs1 hx => ?_)
              · exact absurd hx.1 (by simp)
              · obtain ⟨e1, rfl⟩ := hx
                cases e1
                refine ⟨rfl, ?_⟩
                refine r_st (st2 := [.int (flS F1 i), .int ((gnS F1 F5 F6 (fa_fill (fun _ => 0) F2 108) i) i), .int (nI i), .ref a2]) rfl ?_
                refine r_cs (cs2 := [(a, .inr (2, [.ref a1, .ref a2, .ref a3, .ref a4, .ref a5, .ref a6, .int liq])), (a1, .inl (0, 108, .inl F1)), (a2, .inl (0, 108, .inl (gnS F1 F5 F6 (fa_fill (fun _ => 0) F2 108) i))), (a3, .inl (0, 108, .inl F3)), (a4, .inl (0, 108, .inl F4)), (a5, .inl (0, 108, .inl F5)), (a6, .inl (0, 108, .inl F6))]) rfl ?_
                refine r_iadd d_Fz_pass_84 (v := ((gnS F1 F5 F6 (fa_fill (fun _ => 0) F2 108) i) i) + (flS F1 i)) rfl ?_
                refine r_iast d_Fz_pass_85 (q0 := 2) rfl (vp_in_nI (by omega) (by omega)) (f' := upd (gnS F1 F5 F6 (fa_fill (fun _ => 0) F2 108) i) i (((gnS F1 F5 F6 (fa_fill (fun _ => 0) F2 108) i) i) + (flS F1 i))) (by rw [nI_clamp (by omega)]) (cs' := [(a, .inr (2, [.ref a1, .ref a2, .ref a3, .ref a4, .ref a5, .ref a6, .int liq])), (a1, .inl (0, 108, .inl F1)), (a2, .inl (0, 108, .inl (upd (gnS F1 F5 F6 (fa_fill (fun _ => 0) F2 108) i) i (((gnS F1 F5 F6 (fa_fill (fun _ => 0) F2 108) i) i) + (flS F1 i))))), (a3, .inl (0, 108, .inl F3)), (a4, .inl (0, 108, .inl F4)), (a5, .inl (0, 108, .inl F5)), (a6, .inl (0, 108, .inl F6))]) rfl ?_
                refine r_iload_n d_Fz_pass_86 rfl 1 rfl ?_
                refine r_bipush d_Fz_pass_87 (v := 12) (by decide) ?_
                refine r_icmp_lt (tgt := 98) d_Fz_pass_89 (by decide) (fun c_89 => ?_) (fun c_89 => ?_)
                · have qd : i < 12 ∨ 96 ≤ i := Or.inl (z_lt (b := 12) (by decide) (by omega) c_89)
                  refine r_aload_n d_Fz_pass_98 rfl 2 rfl ?_
                  refine r_get fs_Fz_15 d_Fz_pass_99 (q0 := 0) rfl rfl ?_
                  refine r_iload_n d_Fz_pass_102 rfl 1 rfl ?_
                  refine r_dup2_11 d_Fz_pass_103 rfl rfl ?_
                  refine r_iald d_Fz_pass_104 (q0 := 2) rfl (vp_in_nI (by omega) (by omega)) (v := (upd (gnS F1 F5 F6 (fa_fill (fun _ => 0) F2 108) i) i (((gnS F1 F5 F6 (fa_fill (fun _ => 0) F2 108) i) i) + (flS F1 i))) i) (by rw [nI_clamp (by omega)]) ?_
                  refine r_aload_n d_Fz_pass_105 rfl 2 rfl ?_
                  refine r_iload_n d_Fz_pass_106 rfl 1 rfl ?_
                  refine r_callV (As := [.int (nI i)]) (rest := [.int ((upd (gnS F1 F5 F6 (fa_fill (fun _ => 0) F2 108) i) i (((gnS F1 F5 F6 (fa_fill (fun _ => 0) F2 108) i) i) + (flS F1 i))) i), .int (nI i), .ref a2]) (csC := [(a, .inr (2, [.ref a1, .ref a2, .ref a3, .ref a4, .ref a5, .ref a6, .int liq])), (a1, .inl (0, 108, .inl F1)), (a2, .inl (0, 108, .inl (upd (gnS F1 F5 F6 (fa_fill (fun _ => 0) F2 108) i) i (((gnS F1 F5 F6 (fa_fill (fun _ => 0) F2 108) i) i) + (flS F1 i))))), (a3, .inl (0, 108, .inl F3)), (a4, .inl (0, 108, .inl F4)), (a5, .inl (0, 108, .inl F5)), (a6, .inl (0, 108, .inl F6))]) (is := [0, 1, 2, 3, 4, 5, 6]) (q0 := 0) rfl rfl ln_Fz_58 w_im_Fz_flowFromBeyond w_se_Fz_flowFromBeyond ok_Fz_pass_Fz_flowFromBeyond d_Fz_pass_107 (C_Fz_flow g a a1 a2 a3 a4 a5 a6 F1 (upd (gnS F1 F5 F6 (fa_fill (fun _ => 0) F2 108) i) i (((gnS F1 F5 F6 (fa_fill (fun _ => 0) F2 108) i) i) + (flS F1 i))) F3 F4 F5 F6 liq i (by omega)) rfl rfl (Nat.le_of_ble_eq_true rfl) rfl (by decide) (by omega) (by omega) (fun E cs1 hx => ?_) (fun v cs1 hx => ?_)
                  · exact absurd hx.1 (by simp)
                  · obtain ⟨e1, rfl⟩ := hx
                    cases e1
                    refine ⟨rfl, ?_⟩
                    refine r_st (st2 := [.int (flS F1 i), .int ((upd (gnS F1 F5 F6 (fa_fill (fun _ => 0) F2 108) i) i (((gnS F1 F5 F6 (fa_fill (fun _ => 0) F2 108) i) i) + (flS F1 i))) i), .int (nI i), .ref a2]) rfl ?_
                    refine r_cs (cs2 := [(a, .inr (2, [.ref a1, .ref a2, .ref a3, .ref a4, .ref a5, .ref a6, .int liq])), (a1, .inl (0, 108, .inl F1)), (a2, .inl (0, 108, .inl (upd (gnS F1 F5 F6 (fa_fill (fun _ => 0) F2 108) i) i (((gnS F1 F5 F6 (fa_fill (fun _ => 0) F2 108) i) i) + (flS F1 i))))), (a3, .inl (0, 108, .inl F3)), (a4, .inl (0, 108, .inl F4)), (a5, .inl (0, 108, .inl F5)), (a6, .inl (0, 108, .inl F6))]) rfl ?_
                    refine r_iadd d_Fz_pass_110 (v := ((upd (gnS F1 F5 F6 (fa_fill (fun _ => 0) F2 108) i) i (((gnS F1 F5 F6 (fa_fill (fun _ => 0) F2 108) i) i) + (flS F1 i))) i) + (flS F1 i)) rfl ?_
                    refine r_iast d_Fz_pass_111 (q0 := 2) rfl (vp_in_nI (by omega) (by omega)) (f' := upd (upd (gnS F1 F5 F6 (fa_fill (fun _ => 0) F2 108) i) i (((gnS F1 F5 F6 (fa_fill (fun _ => 0) F2 108) i) i) + (flS F1 i))) i (((upd (gnS F1 F5 F6 (fa_fill (fun _ => 0) F2 108) i) i (((gnS F1 F5 F6 (fa_fill (fun _ => 0) F2 108) i) i) + (flS F1 i))) i) + (flS F1 i))) (by rw [nI_clamp (by omega)]) (cs' := [(a, .inr (2, [.ref a1, .ref a2, .ref a3, .ref a4, .ref a5, .ref a6, .int liq])), (a1, .inl (0, 108, .inl F1)), (a2, .inl (0, 108, .inl (upd (upd (gnS F1 F5 F6 (fa_fill (fun _ => 0) F2 108) i) i (((gnS F1 F5 F6 (fa_fill (fun _ => 0) F2 108) i) i) + (flS F1 i))) i (((upd (gnS F1 F5 F6 (fa_fill (fun _ => 0) F2 108) i) i (((gnS F1 F5 F6 (fa_fill (fun _ => 0) F2 108) i) i) + (flS F1 i))) i) + (flS F1 i))))), (a3, .inl (0, 108, .inl F3)), (a4, .inl (0, 108, .inl F4)), (a5, .inl (0, 108, .inl F5)), (a6, .inl (0, 108, .inl F6))]) rfl ?_
                    refine r_iinc (lv' := [(2, .int (nI (i + 1))), (3, .int (nI (i % 12))), (0, .ref a), (1, .int st)]) (v := nI (i + 1)) d_Fz_pass_112 (j := 1) rfl (nI_add _ _) (by decide) rfl ?_
                    refine r_goto (tgt := 10) d_Fz_pass_115 (by decide) ?_
                    refine r_lv (lv' := [(2, .int (nI (i + 1))), (0, .ref a), (1, .int st)]) [0, 2, 3] rfl ?_
                    refine r_lvE (lv2 := [(2, .int (nI (i + 1))), (0, .ref a), (1, .int st)]) (rfl) ?_
                    refine r_cs (cs2 := [(a, .inr (2, [.ref a1, .ref a2, .ref a3, .ref a4, .ref a5, .ref a6, .int liq])), (a1, .inl (0, 108, .inl F1)), (a2, .inl (0, 108, .inl (gnS F1 F5 F6 (fa_fill (fun _ => 0) F2 108) (i + 1)))), (a3, .inl (0, 108, .inl F3)), (a4, .inl (0, 108, .inl F4)), (a5, .inl (0, 108, .inl F5)), (a6, .inl (0, 108, .inl F6))]) (by simp only [gnS, psA, psB, psC, psD, qa, qb, qc, qd, if_true, if_false]) ?_
                    exact ih (i + 1) (by omega) (by omega)
                · have q1 := z_nlt (b := 12) (by decide) (by omega) c_89
                  refine r_iload_n d_Fz_pass_92 rfl 1 rfl ?_
                  refine r_bipush d_Fz_pass_93 (v := 96) (by decide) ?_
                  refine r_icmp_lt (tgt := 112) d_Fz_pass_95 (by decide) (fun c_95 => ?_) (fun c_95 => ?_)
                  · have q2 := z_lt (b := 96) (by decide) (by omega) c_95
                    have qd : ¬ (i < 12 ∨ 96 ≤ i) := by omega
                    refine r_iinc (lv' := [(2, .int (nI (i + 1))), (3, .int (nI (i % 12))), (0, .ref a), (1, .int st)]) (v := nI (i + 1)) d_Fz_pass_112 (j := 1) rfl (nI_add _ _) (by decide) rfl ?_
                    refine r_goto (tgt := 10) d_Fz_pass_115 (by decide) ?_
                    refine r_lv (lv' := [(2, .int (nI (i + 1))), (0, .ref a), (1, .int st)]) [0, 2, 3] rfl ?_
                    refine r_lvE (lv2 := [(2, .int (nI (i + 1))), (0, .ref a), (1, .int st)]) (rfl) ?_
                    refine r_cs (cs2 := [(a, .inr (2, [.ref a1, .ref a2, .ref a3, .ref a4, .ref a5, .ref a6, .int liq])), (a1, .inl (0, 108, .inl F1)), (a2, .inl (0, 108, .inl (gnS F1 F5 F6 (fa_fill (fun _ => 0) F2 108) (i + 1)))), (a3, .inl (0, 108, .inl F3)), (a4, .inl (0, 108, .inl F4)), (a5, .inl (0, 108, .inl F5)), (a6, .inl (0, 108, .inl F6))]) (by simp only [gnS, psA, psB, psC, psD, qa, qb, qc, qd, if_true, if_false]) ?_
                    exact ih (i + 1) (by omega) (by omega)
                  · have qd : i < 12 ∨ 96 ≤ i := Or.inr (z_nlt (b := 96) (by decide) (by omega) c_95)
                    refine r_aload_n d_Fz_pass_98 rfl 2 rfl ?_
                    refine r_get fs_Fz_15 d_Fz_pass_99 (q0 := 0) rfl rfl ?_
                    refine r_iload_n d_Fz_pass_102 rfl 1 rfl ?_
                    refine r_dup2_11 d_Fz_pass_103 rfl rfl ?_
                    refine r_iald d_Fz_pass_104 (q0 := 2) rfl (vp_in_nI (by omega) (by omega)) (v := (upd (gnS F1 F5 F6 (fa_fill (fun _ => 0) F2 108) i) i (((gnS F1 F5 F6 (fa_fill (fun _ => 0) F2 108) i) i) + (flS F1 i))) i) (by rw [nI_clamp (by omega)]) ?_
                    refine r_aload_n d_Fz_pass_105 rfl 2 rfl ?_
                    refine r_iload_n d_Fz_pass_106 rfl 1 rfl ?_
                    refine r_callV (As := [.int (nI i)]) (rest := [.int ((upd (gnS F1 F5 F6 (fa_fill (fun _ => 0) F2 108) i) i (((gnS F1 F5 F6 (fa_fill (fun _ => 0) F2 108) i) i) + (flS F1 i))) i), .int (nI i), .ref a2]) (csC := [(a, .inr (2, [.ref a1, .ref a2, .ref a3, .ref a4, .ref a5, .ref a6, .int liq])), (a1, .inl (0, 108, .inl F1)), (a2, .inl (0, 108, .inl (upd (gnS F1 F5 F6 (fa_fill (fun _ => 0) F2 108) i) i (((gnS F1 F5 F6 (fa_fill (fun _ => 0) F2 108) i) i) + (flS F1 i))))), (a3, .inl (0, 108, .inl F3)), (a4, .inl (0, 108, .inl F4)), (a5, .inl (0, 108, .inl F5)), (a6, .inl (0, 108, .inl F6))]) (is := [0, 1, 2, 3, 4, 5, 6]) (q0 := 0) rfl rfl ln_Fz_58 w_im_Fz_flowFromBeyond w_se_Fz_flowFromBeyond ok_Fz_pass_Fz_flowFromBeyond d_Fz_pass_107 (C_Fz_flow g a a1 a2 a3 a4 a5 a6 F1 (upd (gnS F1 F5 F6 (fa_fill (fun _ => 0) F2 108) i) i (((gnS F1 F5 F6 (fa_fill (fun _ => 0) F2 108) i) i) + (flS F1 i))) F3 F4 F5 F6 liq i (by omega)) rfl rfl (Nat.le_of_ble_eq_true rfl) rfl (by decide) (by omega) (by omega) (fun E cs1 hx => ?_) (fun v cs1 hx => ?_)
                    · exact absurd hx.1 (by simp)
                    · obtain ⟨e1, rfl⟩ := hx
                      cases e1
                      refine ⟨rfl, ?_⟩
                      refine r_st (st2 := [.int (flS F1 i), .int ((upd (gnS F1 F5 F6 (fa_fill (fun _ => 0) F2 108) i) i (((gnS F1 F5 F6 (fa_fill (fun _ => 0) F2 108) i) i) + (flS F1 i))) i), .int (nI i), .ref a2]) rfl ?_
                      refine r_cs (cs2 := [(a, .inr (2, [.ref a1, .ref a2, .ref a3, .ref a4, .ref a5, .ref a6, .int liq])), (a1, .inl (0, 108, .inl F1)), (a2, .inl (0, 108, .inl (upd (gnS F1 F5 F6 (fa_fill (fun _ => 0) F2 108) i) i (((gnS F1 F5 F6 (fa_fill (fun _ => 0) F2 108) i) i) + (flS F1 i))))), (a3, .inl (0, 108, .inl F3)), (a4, .inl (0, 108, .inl F4)), (a5, .inl (0, 108, .inl F5)), (a6, .inl (0, 108, .inl F6))]) rfl ?_
                      refine r_iadd d_Fz_pass_110 (v := ((upd (gnS F1 F5 F6 (fa_fill (fun _ => 0) F2 108) i) i (((gnS F1 F5 F6 (fa_fill (fun _ => 0) F2 108) i) i) + (flS F1 i))) i) + (flS F1 i)) rfl ?_
                      refine r_iast d_Fz_pass_111 (q0 := 2) rfl (vp_in_nI (by omega) (by omega)) (f' := upd (upd (gnS F1 F5 F6 (fa_fill (fun _ => 0) F2 108) i) i (((gnS F1 F5 F6 (fa_fill (fun _ => 0) F2 108) i) i) + (flS F1 i))) i (((upd (gnS F1 F5 F6 (fa_fill (fun _ => 0) F2 108) i) i (((gnS F1 F5 F6 (fa_fill (fun _ => 0) F2 108) i) i) + (flS F1 i))) i) + (flS F1 i))) (by rw [nI_clamp (by omega)]) (cs' := [(a, .inr (2, [.ref a1, .ref a2, .ref a3, .ref a4, .ref a5, .ref a6, .int liq])), (a1, .inl (0, 108, .inl F1)), (a2, .inl (0, 108, .inl (upd (upd (gnS F1 F5 F6 (fa_fill (fun _ => 0) F2 108) i) i (((gnS F1 F5 F6 (fa_fill (fun _ => 0) F2 108) i) i) + (flS F1 i))) i (((upd (gnS F1 F5 F6 (fa_fill (fun _ => 0) F2 108) i) i (((gnS F1 F5 F6 (fa_fill (fun _ => 0) F2 108) i) i) + (flS F1 i))) i) + (flS F1 i))))), (a3, .inl (0, 108, .inl F3)), (a4, .inl (0, 108, .inl F4)), (a5, .inl (0, 108, .inl F5)), (a6, .inl (0, 108, .inl F6))]) rfl ?_
                      refine r_iinc (lv' := [(2, .int (nI (i + 1))), (3, .int (nI (i % 12))), (0, .ref a), (1, .int st)]) (v := nI (i + 1)) d_Fz_pass_112 (j := 1) rfl (nI_add _ _) (by decide) rfl ?_
                      refine r_goto (tgt := 10) d_Fz_pass_115 (by decide) ?_
                      refine r_lv (lv' := [(2, .int (nI (i + 1))), (0, .ref a), (1, .int st)]) [0, 2, 3] rfl ?_
                      refine r_lvE (lv2 := [(2, .int (nI (i + 1))), (0, .ref a), (1, .int st)]) (rfl) ?_
                      refine r_cs (cs2 := [(a, .inr (2, [.ref a1, .ref a2, .ref a3, .ref a4, .ref a5, .ref a6, .int liq])), (a1, .inl (0, 108, .inl F1)), (a2, .inl (0, 108, .inl (gnS F1 F5 F6 (fa_fill (fun _ => 0) F2 108) (i + 1)))), (a3, .inl (0, 108, .inl F3)), (a4, .inl (0, 108, .inl F4)), (a5, .inl (0, 108, .inl F5)), (a6, .inl (0, 108, .inl F6))]) (by simp only [gnS, psA, psB, psC, psD, qa, qb, qc, qd, if_true, if_false]) ?_
                      exact ih (i + 1) (by omega) (by omega)
        · have qb : i < 96 := z_nle (a := 96) (by omega) (by decide) c_44
          refine r_aload_n d_Fz_pass_47 rfl 2 rfl ?_
          refine r_iload_n d_Fz_pass_48 rfl 1 rfl ?_
          refine r_iload_n d_Fz_pass_49 rfl 1 rfl ?_
          refine r_bipush d_Fz_pass_50 (v := 12) (by decide) ?_
          refine r_iadd d_Fz_pass_52 (v := nI (i + 12)) (nI_add _ _) ?_
          refine r_aload_n d_Fz_pass_53 rfl 2 rfl ?_
          refine r_get fs_Fz_27 d_Fz_pass_54 (q0 := 0) rfl rfl ?_
          refine r_iload_n d_Fz_pass_57 rfl 1 rfl ?_
          refine r_iald d_Fz_pass_58 (q0 := 6) rfl (vp_in_nI (by omega) (by omega)) (v := F6 i) (by rw [nI_clamp (by omega)]) ?_
          refine r_callV (As := [.int (nI i), .int (nI (i + 12)), .int (F6 i)]) (rest := []) (csC := [(a, .inr (2, [.ref a1, .ref a2, .ref a3, .ref a4, .ref a5, .ref a6, .int liq])), (a1, .inl (0, 108, .inl F1)), (a2, .inl (0, 108, .inl (gnS F1 F5 F6 (fa_fill (fun _ => 0) F2 108) i))), (a3, .inl (0, 108, .inl F3)), (a4, .inl (0, 108, .inl F4)), (a5, .inl (0, 108, .inl F5)), (a6, .inl (0, 108, .inl F6))]) (is := [0, 1, 2, 3, 4, 5, 6]) (q0 := 0) rfl rfl ln_Fz_55 w_im_Fz_exchange w_se_Fz_exchange ok_Fz_pass_Fz_exchange d_Fz_pass_59 (C_Fz_exchange g a a1 a2 a3 a4 a5 a6 F1 (gnS F1 F5 F6 (fa_fill (fun _ => 0) F2 108) i) F3 F4 F5 F6 liq i (i + 12) (by omega) (by omega) (F6 i)) rfl rfl (Nat.le_of_ble_eq_true rfl) rfl (by decide) (by omega) (by omega) (fun E cs1 hx => ?_) (fun v cs1 hx => ?_)
          · exact absurd hx.1 (by simp)
          · obtain ⟨e1, rfl⟩ := hx
            cases e1
            refine ⟨rfl, ?_⟩
            refine r_st (st2 := []) rfl ?_
            refine r_cs (cs2 := [(a, .inr (2, [.ref a1, .ref a2, .ref a3, .ref a4, .ref a5, .ref a6, .int liq])), (a1, .inl (0, 108, .inl F1)), (a2, .inl (0, 108, .inl (exS F1 i (i + 12) (F6 i) (gnS F1 F5 F6 (fa_fill (fun _ => 0) F2 108) i)))), (a3, .inl (0, 108, .inl F3)), (a4, .inl (0, 108, .inl F4)), (a5, .inl (0, 108, .inl F5)), (a6, .inl (0, 108, .inl F6))]) rfl ?_
            refine r_iload_n d_Fz_pass_62 rfl 0 rfl ?_
            refine r_if_eq (tgt := 72) d_Fz_pass_63 (by decide) (fun c_63 => ?_) (fun c_63 => ?_)
            · have qc : i % 12 = 0 ∨ i % 12 = 11 := Or.inl (z_eqn (b := 0) (by omega) (by decide) c_63)
              refine r_aload_n d_Fz_pass_72 rfl 2 rfl ?_
              refine r_get fs_Fz_15 d_Fz_pass_73 (q0 := 0) rfl rfl ?_
              refine r_iload_n d_Fz_pass_76 rfl 1 rfl ?_
              refine r_dup2_11 d_Fz_pass_77 rfl rfl ?_
              refine r_iald d_Fz_pass_78 (q0 := 2) rfl (vp_in_nI (by omega) (by omega)) (v := (exS F1 i (i + 12) (F6 i) (gnS F1 F5 F6 (fa_fill (fun _ => 0) F2 108) i)) i) (by rw [nI_clamp (by omega)]) ?_
              refine r_aload_n d_Fz_pass_79 rfl 2 rfl ?_
              refine r_iload_n d_Fz_pass_80 rfl 1 rfl ?_
              refine r_callV (As := [.int (nI i)]) (rest := [.int ((exS F1 i (i + 12) (F6 i) (gnS F1 F5 F6 (fa_fill (fun _ => 0) F2 108) i)) i), .int (nI i), .ref a2]) (csC := [(a, .inr (2, [.ref a1, .ref a2, .ref a3, .ref a4, .ref a5, .ref a6, .int liq])), (a1, .inl (0, 108, .inl F1)), (a2, .inl (0, 108, .inl (exS F1 i (i + 12) (F6 i) (gnS F1 F5 F6 (fa_fill (fun _ => 0) F2 108) i)))), (a3, .inl (0, 108, .inl F3)), (a4, .inl (0, 108, .inl F4)), (a5, .inl (0, 108, .inl F5)), (a6, .inl (0, 108, .inl F6))]) (is := [0, 1, 2, 3, 4, 5, 6]) (q0 := 0) rfl rfl ln_Fz_58 w_im_Fz_flowFromBeyond w_se_Fz_flowFromBeyond ok_Fz_pass_Fz_flowFromBeyond d_Fz_pass_81 (C_Fz_flow g a a1 a2 a3 a4 a5 a6 F1 (exS F1 i (i + 12) (F6 i) (gnS F1 F5 F6 (fa_fill (fun _ => 0) F2 108) i)) F3 F4 F5 F6 liq i (by omega)) rfl rfl (Nat.le_of_ble_eq_true rfl) rfl (by decide) (by omega) (by omega) (fun E cs1 hx => ?_) (fun v cs1 hx => ?_)
              · exact absurd hx.1 (by simp)
              · obtain ⟨e1, rfl⟩ := hx
                cases e1
                refine ⟨rfl, ?_⟩
                refine r_st (st2 := [.int (flS F1 i), .int ((exS F1 i (i + 12) (F6 i) (gnS F1 F5 F6 (fa_fill (fun _ => 0) F2 108) i)) i), .int (nI i), .ref a2]) rfl ?_
                refine r_cs (cs2 := [(a, .inr (2, [.ref a1, .ref a2, .ref a3, .ref a4, .ref a5, .ref a6, .int liq])), (a1, .inl (0, 108, .inl F1)), (a2, .inl (0, 108, .inl (exS F1 i (i + 12) (F6 i) (gnS F1 F5 F6 (fa_fill (fun _ => 0) F2 108) i)))), (a3, .inl (0, 108, .inl F3)), (a4, .inl (0, 108, .inl F4)), (a5, .inl (0, 108, .inl F5)), (a6, .inl (0, 108, .inl F6))]) rfl ?_
                refine r_iadd d_Fz_pass_84 (v := ((exS F1 i (i + 12) (F6 i) (gnS F1 F5 F6 (fa_fill (fun _ => 0) F2 108) i)) i) + (flS F1 i)) rfl ?_
                refine r_iast d_Fz_pass_85 (q0 := 2) rfl (vp_in_nI (by omega) (by omega)) (f' := upd (exS F1 i (i + 12) (F6 i) (gnS F1 F5 F6 (fa_fill (fun _ => 0) F2 108) i)) i (((exS F1 i (i + 12) (F6 i) (gnS F1 F5 F6 (fa_fill (fun _ => 0) F2 108) i)) i) + (flS F1 i))) (by rw [nI_clamp (by omega)]) (cs' := [(a, .inr (2, [.ref a1, .ref a2, .ref a3, .ref a4, .ref a5, .ref a6, .int liq])), (a1, .inl (0, 108, .inl F1)), (a2, .inl (0, 108, .inl (upd (exS F1 i (i + 12) (F6 i) (gnS F1 F5 F6 (fa_fill (fun _ => 0) F2 108) i)) i (((exS F1 i (i + 12) (F6 i) (gnS F1 F5 F6 (fa_fill (fun _ => 0) F2 108) i)) i) + (flS F1 i))))), (a3, .inl (0, 108, .inl F3)), (a4, .inl (0, 108, .inl F4)), (a5, .inl (0, 108, .inl F5)), (a6, .inl (0, 108, .inl F6))]) rfl ?_
                refine r_iload_n d_Fz_pass_86 rfl 1 rfl ?_
                refine r_bipush d_Fz_pass_87 (v := 12) (by decide) ?_
                refine r_icmp_lt (tgt := 98) d_Fz_pass_89 (by decide) (fun c_89 => ?_) (fun c_89 => ?_)
                · have qd : i < 12 ∨ 96 ≤ i := Or.inl (z_lt (b := 12) (by decide) (by omega) c_89)
                  refine r_aload_n d_Fz_pass_98 rfl 2 rfl ?_
                  refine r_get fs_Fz_15 d_Fz_pass_99 (q0 := 0) rfl rfl ?_
                  refine r_iload_n d_Fz_pass_102 rfl 1 rfl ?_
                  refine r_dup2_11 d_Fz_pass_103 rfl rfl ?_
                  refine r_iald d_Fz_pass_104 (q0 := 2) rfl (vp_in_nI (by omega) (by omega)) (v := (upd (exS F1 i (i + 12) (F6 i) (gnS F1 F5 F6 (fa_fill (fun _ => 0) F2 108) i)) i (((exS F1 i (i + 12) (F6 i) (gnS F1 F5 F6 (fa_fill (fun _ => 0) F2 108) i)) i) + (flS F1 i))) i) (by rw [nI_clamp (by omega)]) ?_
                  refine r_aload_n d_Fz_pass_105 rfl 2 rfl ?_
                  refine r_iload_n d_Fz_pass_106 rfl 1 rfl ?_
                  refine r_callV (As := [.int (nI i)]) (rest := [.int ((upd (exS F1 i (i + 12) (F6 i) (gnS F1 F5 F6 (fa_fill (fun _ => 0) F2 108) i)) i (((exS F1 i (i + 12) (F6 i) (gnS F1 F5 F6 (fa_fill (fun _ => 0) F2 108) i)) i) + (flS F1 i))) i), .int (nI i), .ref a2]) (csC := [(a, .inr (2, [.ref a1, .ref a2, .ref a3, .ref a4, .ref a5, .ref a6, .int liq])), (a1, .inl (0, 108, .inl F1)), (a2, .inl (0, 108, .inl (upd (exS F1 i (i + 12) (F6 i) (gnS F1 F5 F6 (fa_fill (fun _ => 0) F2 108) i)) i (((exS F1 i (i + 12) (F6 i) (gnS F1 F5 F6 (fa_fill (fun _ => 0) F2 108) i)) i) + (flS F1 i))))), (a3, .inl (0, 108, .inl F3)), (a4, .inl (0, 108, .inl F4)), (a5, .inl (0, 108, .inl F5)), (a6, .inl (0, 108, .inl F6))]) (is := [0, 1, 2, 3, 4, 5, 6]) (q0 := 0) rfl rfl ln_Fz_58 w_im_Fz_flowFromBeyond w_se_Fz_flowFromBeyond ok_Fz_pass_Fz_flowFromBeyond d_Fz_pass_107 (C_Fz_flow g a a1 a2 a3 a4 a5 a6 F1 (upd (exS F1 i (i + 12) (F6 i) (gnS F1 F5 F6 (fa_fill (fun _ => 0) F2 108) i)) i (((exS F1 i (i + 12) (F6 i) (gnS F1 F5 F6 (fa_fill (fun _ => 0) F2 108) i)) i) + (flS F1 i))) F3 F4 F5 F6 liq i (by omega)) rfl rfl (Nat.le_of_ble_eq_true rfl) rfl (by decide) (by omega) (by omega) (fun E cs1 hx => ?_) (fun v cs1 hx => ?_)
                  · exact absurd hx.1 (by simp)
                  · obtain ⟨e1, rfl⟩ := hx
                    cases e1
                    refine ⟨rfl, ?_⟩
                    refine r_st (st2 := [.int (flS F1 i), .int ((upd (exS F1 i (i + 12) (F6 i) (gnS F1 F5 F6 (fa_fill (fun _ => 0) F2 108) i)) i (((exS F1 i (i + 12) (F6 i) (gnS F1 F5 F6 (fa_fill (fun _ => 0) F2 108) i)) i) + (flS F1 i))) i), .int (nI i), .ref a2]) rfl ?_
                    refine r_cs (cs2 := [(a, .inr (2, [.ref a1, .ref a2, .ref a3, .ref a4, .ref a5, .ref a6, .int liq])), (a1, .inl (0, 108, .inl F1)), (a2, .inl (0, 108, .inl (upd (exS F1 i (i + 12) (F6 i) (gnS F1 F5 F6 (fa_fill (fun _ => 0) F2 108) i)) i (((exS F1 i (i + 12) (F6 i) (gnS F1 F5 F6 (fa_fill (fun _ => 0) F2 108) i)) i) + (flS F1 i))))), (a3, .inl (0, 108, .inl F3)), (a4, .inl (0, 108, .inl F4)), (a5, .inl (0, 108, .inl F5)), (a6, .inl (0, 108, .inl F6))]) rfl ?_
                    refine r_iadd d_Fz_pass_110 (v := ((upd (exS F1 i (i + 12) (F6 i) (gnS F1 F5 F6 (fa_fill (fun _ => 0) F2 108) i)) i (((exS F1 i (i + 12) (F6 i) (gnS F1 F5 F6 (fa_fill (fun _ => 0) F2 108) i)) i) + (flS F1 i))) i) + (flS F1 i)) rfl ?_
                    refine r_iast d_Fz_pass_111 (q0 := 2) rfl (vp_in_nI (by omega) (by omega)) (f' := upd (upd (exS F1 i (i + 12) (F6 i) (gnS F1 F5 F6 (fa_fill (fun _ => 0) F2 108) i)) i (((exS F1 i (i + 12) (F6 i) (gnS F1 F5 F6 (fa_fill (fun _ => 0) F2 108) i)) i) + (flS F1 i))) i (((upd (exS F1 i (i + 12) (F6 i) (gnS F1 F5 F6 (fa_fill (fun _ => 0) F2 108) i)) i (((exS F1 i (i + 12) (F6 i) (gnS F1 F5 F6 (fa_fill (fun _ => 0) F2 108) i)) i) + (flS F1 i))) i) + (flS F1 i))) (by rw [nI_clamp (by omega)]) (cs' := [(a, .inr (2, [.ref a1, .ref a2, .ref a3, .ref a4, .ref a5, .ref a6, .int liq])), (a1, .inl (0, 108, .inl F1)), (a2, .inl (0, 108, .inl (upd (upd (exS F1 i (i + 12) (F6 i) (gnS F1 F5 F6 (fa_fill (fun _ => 0) F2 108) i)) i (((exS F1 i (i + 12) (F6 i) (gnS F1 F5 F6 (fa_fill (fun _ => 0) F2 108) i)) i) + (flS F1 i))) i (((upd (exS F1 i (i + 12) (F6 i) (gnS F1 F5 F6 (fa_fill (fun _ => 0) F2 108) i)) i (((exS F1 i (i + 12) (F6 i) (gnS F1 F5 F6 (fa_fill (fun _ => 0) F2 108) i)) i) + (flS F1 i))) i) + (flS F1 i))))), (a3, .inl (0, 108, .inl F3)), (a4, .inl (0, 108, .inl F4)), (a5, .inl (0, 108, .inl F5)), (a6, .inl (0, 108, .inl F6))]) rfl ?_
                    refine r_iinc (lv' := [(2, .int (nI (i + 1))), (3, .int (nI (i % 12))), (0, .ref a), (1, .int st)]) (v := nI (i + 1)) d_Fz_pass_112 (j := 1) rfl (nI_add _ _) (by decide) rfl ?_
                    refine r_goto (tgt := 10) d_Fz_pass_115 (by decide) ?_
                    refine r_lv (lv' := [(2, .int (nI (i + 1))), (0, .ref a), (1, .int st)]) [0, 2, 3] rfl ?_
                    refine r_lvE (lv2 := [(2, .int (nI (i + 1))), (0, .ref a), (1, .int st)]) (rfl) ?_
                    refine r_cs (cs2 := [(a, .inr (2, [.ref a1, .ref a2, .ref a3, .ref a4, .ref a5, .ref a6, .int liq])), (a1, .inl (0, 108, .inl F1)), (a2, .inl (0, 108, .inl (gnS F1 F5 F6 (fa_fill (fun _ => 0) F2 108) (i + 1)))), (a3, .inl (0, 108, .inl F3)), (a4, .inl (0, 108, .inl F4)), (a5, .inl (0, 108, .inl F5)), (a6, .inl (0, 108, .inl F6))]) (by simp only [gnS, psA, psB, psC, psD, qa, qb, qc, qd, if_true, if_false]) ?_
                    exact ih (i + 1) (by omega) (by omega)
                · have q1 := z_nlt (b := 12) (by decide) (by omega) c_89
                  refine r_iload_n d_Fz_pass_92 rfl 1 rfl ?_
                  refine r_bipush d_Fz_pass_93 (v := 96) (by decide) ?_
                  refine r_icmp_lt (tgt := 112) d_Fz_pass_95 (by decide) (fun c_95 => ?_) (fun c_95 => ?_)
                  · have q2 := z_lt (b := 96) (by decide) (by omega) c_95
                    have qd : ¬ (i < 12 ∨ 96 ≤ i) := by omega
                    refine r_iinc (lv' := [(2, .int (nI (i + 1))), (3, .int (nI (i % 12))), (0, .ref a), (1, .int st)]) (v := nI (i + 1)) d_Fz_pass_112 (j := 1) rfl (nI_add _ _) (by decide) rfl ?_
                    refine r_goto (tgt := 10) d_Fz_pass_115 (by decide) ?_
                    refine r_lv (lv' := [(2, .int (nI (i + 1))), (0, .ref a), (1, .int st)]) [0, 2, 3] rfl ?_
                    refine r_lvE (lv2 := [(2, .int (nI (i + 1))), (0, .ref a), (1, .int st)]) (rfl) ?_
                    refine r_cs (cs2 := [(a, .inr (2, [.ref a1, .ref a2, .ref a3, .ref a4, .ref a5, .ref a6, .int liq])), (a1, .inl (0, 108, .inl F1)), (a2, .inl (0, 108, .inl (gnS F1 F5 F6 (fa_fill (fun _ => 0) F2 108) (i + 1)))), (a3, .inl (0, 108, .inl F3)), (a4, .inl (0, 108, .inl F4)), (a5, .inl (0, 108, .inl F5)), (a6, .inl (0, 108, .inl F6))]) (by simp only [gnS, psA, psB, psC, psD, qa, qb, qc, qd, if_true, if_false]) ?_
                    exact ih (i + 1) (by omega) (by omega)
                  · have qd : i < 12 ∨ 96 ≤ i := Or.inr (z_nlt (b := 96) (by decide) (by omega) c_95)
                    refine r_aload_n d_Fz_pass_98 rfl 2 rfl ?_
                    refine r_get fs_Fz_15 d_Fz_pass_99 (q0 := 0) rfl rfl ?_
                    refine r_iload_n d_Fz_pass_102 rfl 1 rfl ?_
                    refine r_dup2_11 d_Fz_pass_103 rfl rfl ?_
                    refine r_iald d_Fz_pass_104 (q0 := 2) rfl (vp_in_nI (by omega) (by omega)) (v := (upd (exS F1 i (i + 12) (F6 i) (gnS F1 F5 F6 (fa_fill (fun _ => 0) F2 108) i)) i (((exS F1 i (i + 12) (F6 i) (gnS F1 F5 F6 (fa_fill (fun _ => 0) F2 108) i)) i) + (flS F1 i))) i) (by rw [nI_clamp (by omega)]) ?_
                    refine r_aload_n d_Fz_pass_105 rfl 2 rfl ?_
                    refine r_iload_n d_Fz_pass_106 rfl 1 rfl ?_
                    refine r_callV (As := [.int (nI i)]) (rest := [.int ((upd (exS F1 i (i + 12) (F6 i) (gnS F1 F5 F6 (fa_fill (fun _ => 0) F2 108) i)) i (((exS F1 i (i + 12) (F6 i) (gnS F1 F5 F6 (fa_fill (fun _ => 0) F2 108) i)) i) + (flS F1 i))) i), .int (nI i), .ref a2]) (csC := [(a, .inr (2, [.ref a1, .ref a2, .ref a3, .ref a4, .ref a5, .ref a6, .int liq])), (a1, .inl (0, 108, .inl F1)), (a2, .inl (0, 108, .inl (upd (exS F1 i (i + 12) (F6 i) (gnS F1 F5 F6 (fa_fill (fun _ => 0) F2 108) i)) i (((exS F1 i (i + 12) (F6 i) (gnS F1 F5 F6 (fa_fill (fun _ => 0) F2 108) i)) i) + (flS F1 i))))), (a3, .inl (0, 108, .inl F3)), (a4, .inl (0, 108, .inl F4)), (a5, .inl (0, 108, .inl F5)), (a6, .inl (0, 108, .inl F6))]) (is := [0, 1, 2, 3, 4, 5, 6]) (q0 := 0) rfl rfl ln_Fz_58 w_im_Fz_flowFromBeyond w_se_Fz_flowFromBeyond ok_Fz_pass_Fz_flowFromBeyond d_Fz_pass_107 (C_Fz_flow g a a1 a2 a3 a4 a5 a6 F1 (upd (exS F1 i (i + 12) (F6 i) (gnS F1 F5 F6 (fa_fill (fun _ => 0) F2 108) i)) i (((exS F1 i (i + 12) (F6 i) (gnS F1 F5 F6 (fa_fill (fun _ => 0) F2 108) i)) i) + (flS F1 i))) F3 F4 F5 F6 liq i (by omega)) rfl rfl (Nat.le_of_ble_eq_true rfl) rfl (by decide) (by omega) (by omega) (fun E cs1 hx => ?_) (fun v cs1 hx => ?_)
                    · exact absurd hx.1 (by simp)
                    · obtain ⟨e1, rfl⟩ := hx
                      cases e1
                      refine ⟨rfl, ?_⟩
                      refine r_st (st2 := [.int (flS F1 i), .int ((upd (exS F1 i (i + 12) (F6 i) (gnS F1 F5 F6 (fa_fill (fun _ => 0) F2 108) i)) i (((exS F1 i (i + 12) (F6 i) (gnS F1 F5 F6 (fa_fill (fun _ => 0) F2 108) i)) i) + (flS F1 i))) i), .int (nI i), .ref a2]) rfl ?_
                      refine r_cs (cs2 := [(a, .inr (2, [.ref a1, .ref a2, .ref a3, .ref a4, .ref a5, .ref a6, .int liq])), (a1, .inl (0, 108, .inl F1)), (a2, .inl (0, 108, .inl (upd (exS F1 i (i + 12) (F6 i) (gnS F1 F5 F6 (fa_fill (fun _ => 0) F2 108) i)) i (((exS F1 i (i + 12) (F6 i) (gnS F1 F5 F6 (fa_fill (fun _ => 0) F2 108) i)) i) + (flS F1 i))))), (a3, .inl (0, 108, .inl F3)), (a4, .inl (0, 108, .inl F4)), (a5, .inl (0, 108, .inl F5)), (a6, .inl (0, 108, .inl F6))]) rfl ?_
                      refine r_iadd d_Fz_pass_110 (v := ((upd (exS F1 i (i + 12) (F6 i) (gnS F1 F5 F6 (fa_fill (fun _ => 0) F2 108) i)) i (((exS F1 i (i + 12) (F6 i) (gnS F1 F5 F6 (fa_fill (fun _ => 0) F2 108) i)) i) + (flS F1 i))) i) + (flS F1 i)) rfl ?_
                      refine r_iast d_Fz_pass_111 (q0 := 2) rfl (vp_in_nI (by omega) (by omega)) (f' := upd (upd (exS F1 i (i + 12) (F6 i) (gnS F1 F5 F6 (fa_fill (fun _ => 0) F2 108) i)) i (((exS F1 i (i + 12) (F6 i) (gnS F1 F5 F6 (fa_fill (fun _ => 0) F2 108) i)) i) + (flS F1 i))) i (((upd (exS F1 i (i + 12) (F6 i) (gnS F1 F5 F6 (fa_fill (fun _ => 0) F2 108) i)) i (((exS F1 i (i + 12) (F6 i) (gnS F1 F5 F6 (fa_fill (fun _ => 0) F2 108) i)) i) + (flS F1 i))) i) + (flS F1 i))) (by rw [nI_clamp (by omega)]) (cs' := [(a, .inr (2, [.ref a1, .ref a2, .ref a3, .ref a4, .ref a5, .ref a6, .int liq])), (a1, .inl (0, 108, .inl F1)), (a2, .inl (0, 108, .inl (upd (upd (exS F1 i (i + 12) (F6 i) (gnS F1 F5 F6 (fa_fill (fun _ => 0) F2 108) i)) i (((exS F1 i (i + 12) (F6 i) (gnS F1 F5 F6 (fa_fill (fun _ => 0) F2 108) i)) i) + (flS F1 i))) i (((upd (exS F1 i (i + 12) (F6 i) (gnS F1 F5 F6 (fa_fill (fun _ => 0) F2 108) i)) i (((exS F1 i (i + 12) (F6 i) (gnS F1 F5 F6 (fa_fill (fun _ => 0) F2 108) i)) i) + (flS F1 i))) i) + (flS F1 i))))), (a3, .inl (0, 108, .inl F3)), (a4, .inl (0, 108, .inl F4)), (a5, .inl (0, 108, .inl F5)), (a6, .inl (0, 108, .inl F6))]) rfl ?_
                      refine r_iinc (lv' := [(2, .int (nI (i + 1))), (3, .int (nI (i % 12))), (0, .ref a), (1, .int st)]) (v := nI (i + 1)) d_Fz_pass_112 (j := 1) rfl (nI_add _ _) (by decide) rfl ?_
                      refine r_goto (tgt := 10) d_Fz_pass_115 (by decide) ?_
                      refine r_lv (lv' := [(2, .int (nI (i + 1))), (0, .ref a), (1, .int st)]) [0, 2, 3] rfl ?_
                      refine r_lvE (lv2 := [(2, .int (nI (i + 1))), (0, .ref a), (1, .int st)]) (rfl) ?_
                      refine r_cs (cs2 := [(a, .inr (2, [.ref a1, .ref a2, .ref a3, .ref a4, .ref a5, .ref a6, .int liq])), (a1, .inl (0, 108, .inl F1)), (a2, .inl (0, 108, .inl (gnS F1 F5 F6 (fa_fill (fun _ => 0) F2 108) (i + 1)))), (a3, .inl (0, 108, .inl F3)), (a4, .inl (0, 108, .inl F4)), (a5, .inl (0, 108, .inl F5)), (a6, .inl (0, 108, .inl F6))]) (by simp only [gnS, psA, psB, psC, psD, qa, qb, qc, qd, if_true, if_false]) ?_
                      exact ih (i + 1) (by omega) (by omega)
            · have q0 : ¬ i % 12 = 0 := z_nen (b := 0) (by omega) (by decide) c_63
              refine r_iload_n d_Fz_pass_66 rfl 0 rfl ?_
              refine r_bipush d_Fz_pass_67 (v := 11) (by decide) ?_
              refine r_icmp_ne (tgt := 86) d_Fz_pass_69 (by decide) (fun c_69 => ?_) (fun c_69 => ?_)
              · have qc : ¬ (i % 12 = 0 ∨ i % 12 = 11) := fun h => h.elim q0 (z_nen (b := 11) (by omega) (by decide) c_69)
                refine r_iload_n d_Fz_pass_86 rfl 1 rfl ?_
                refine r_bipush d_Fz_pass_87 (v := 12) (by decide) ?_
                refine r_icmp_lt (tgt := 98) d_Fz_pass_89 (by decide) (fun c_89 => ?_) (fun c_89 => ?_)
                · have qd : i < 12 ∨ 96 ≤ i := Or.inl (z_lt (b := 12) (by decide) (by omega) c_89)
                  refine r_aload_n d_Fz_pass_98 rfl 2 rfl ?_
                  refine r_get fs_Fz_15 d_Fz_pass_99 (q0 := 0) rfl rfl ?_
                  refine r_iload_n d_Fz_pass_102 rfl 1 rfl ?_
                  refine r_dup2_11 d_Fz_pass_103 rfl rfl ?_
                  refine r_iald d_Fz_pass_104 (q0 := 2) rfl (vp_in_nI (by omega) (by omega)) (v := (exS F1 i (i + 12) (F6 i) (gnS F1 F5 F6 (fa_fill (fun _ => 0) F2 108) i)) i) (by rw [nI_clamp (by omega)]) ?_
                  refine r_aload_n d_Fz_pass_105 rfl 2 rfl ?_
                  refine r_iload_n d_Fz_pass_106 rfl 1 rfl ?_
                  refine r_callV (As := [.int (nI i)]) (rest := [.int ((exS F1 i (i + 12) (F6 i) (gnS F1 F5 F6 (fa_fill (fun _ => 0) F2 108) i)) i), .int (nI i), .ref a2]) (csC := [(a, .inr (2, [.ref a1, .ref a2, .ref a3, .ref a4, .ref a5, .ref a6, .int liq])), (a1, .inl (0, 108, .inl F1)), (a2, .inl (0, 108, .inl (exS F1 i (i + 12) (F6 i) (gnS F1 F5 F6 (fa_fill (fun _ => 0) F2 108) i)))), (a3, .inl (0, 108, .inl F3)), (a4, .inl (0, 108, .inl F4)), (a5, .inl (0, 108, .inl F5)), (a6, .inl (0, 108, .inl F6))]) (is := [0, 1, 2, 3, 4, 5, 6]) (q0 := 0) rfl rfl ln_Fz_58 w_im_Fz_flowFromBeyond w_se_Fz_flowFromBeyond ok_Fz_pass_Fz_flowFromBeyond d_Fz_pass_107 (C_Fz_flow g a a1 a2 a3 a4 a5 a6 F1 (exS F1 i (i + 12) (F6 i) (gnS F1 F5 F6 (fa_fill (fun _ => 0) F2 108) i)) F3 F4 F5 F6 liq i (by omega)) rfl rfl (Nat.le_of_ble_eq_true rfl) rfl (by decide) (by omega) (by omega) (fun E cs1 hx => ?_) (fun v cs1 hx => ?_)
                  · exact absurd hx.1 (by simp)
                  · obtain ⟨e1, rfl⟩ := hx
                    cases e1
                    refine ⟨rfl, ?_⟩
                    refine r_st (st2 := [.int (flS F1 i), .int ((exS F1 i (i + 12) (F6 i) (gnS F1 F5 F6 (fa_fill (fun _ => 0) F2 108) i)) i), .int (nI i), .ref a2]) rfl ?_
                    refine r_cs (cs2 := [(a, .inr (2, [.ref a1, .ref a2, .ref a3, .ref a4, .ref a5, .ref a6, .int liq])), (a1, .inl (0, 108, .inl F1)), (a2, .inl (0, 108, .inl (exS F1 i (i + 12) (F6 i) (gnS F1 F5 F6 (fa_fill (fun _ => 0) F2 108) i)))), (a3, .inl (0, 108, .inl F3)), (a4, .inl (0, 108, .inl F4)), (a5, .inl (0, 108, .inl F5)), (a6, .inl (0, 108, .inl F6))]) rfl ?_
                    refine r_iadd d_Fz_pass_110 (v := ((exS F1 i (i + 12) (F6 i) (gnS F1 F5 F6 (fa_fill (fun _ => 0) F2 108) i)) i) + (flS F1 i)) rfl ?_
                    refine r_iast d_Fz_pass_111 (q0 := 2) rfl (vp_in_nI (by omega) (by omega)) (f' := upd (exS F1 i (i + 12) (F6 i) (gnS F1 F5 F6 (fa_fill (fun _ => 0) F2 108) i)) i (((exS F1 i (i + 12) (F6 i) (gnS F1 F5 F6 (fa_fill (fun _ => 0) F2 108) i)) i) + (flS F1 i))) (by rw [nI_clamp (by omega)]) (cs' := [(a, .inr (2, [.ref a1, .ref a2, .ref a3, .ref a4, .ref a5, .ref a6, .int liq])), (a1, .inl (0, 108, .inl F1)), (a2, .inl (0, 108, .inl (upd (exS F1 i (i + 12) (F6 i) (gnS F1 F5 F6 (fa_fill (fun _ => 0) F2 108) i)) i (((exS F1 i (i + 12) (F6 i) (gnS F1 F5 F6 (fa_fill (fun _ => 0) F2 108) i)) i) + (flS F1 i))))), (a3, .inl (0, 108, .inl F3)), (a4, .inl (0, 108, .inl F4)), (a5, .inl (0, 108, .inl F5)), (a6, .inl (0, 108, .inl F6))]) rfl ?_
                    refine r_iinc (lv' := [(2, .int (nI (i + 1))), (3, .int (nI (i % 12))), (0, .ref a), (1, .int st)]) (v := nI (i + 1)) d_Fz_pass_112 (j := 1) rfl (nI_add _ _) (by decide) rfl ?_
                    refine r_goto (tgt := 10) d_Fz_pass_115 (by decide) ?_
                    refine r_lv (lv' := [(2, .int (nI (i + 1))), (0, .ref a), (1, .int st)]) [0, 2, 3] rfl ?_
                    refine r_lvE (lv2 := [(2, .int (nI (i + 1))), (0, .ref a), (1, .int st)]) (rfl) ?_
                    refine r_cs (cs2 := [(a, .inr (2, [.ref a1, .ref a2, .ref a3, .ref a4, .ref a5, .ref a6, .int liq])), (a1, .inl (0, 108, .inl F1)), (a2, .inl (0, 108, .inl (gnS F1 F5 F6 (fa_fill (fun _ => 0) F2 108) (i + 1)))), (a3, .inl (0, 108, .inl F3)), (a4, .inl (0, 108, .inl F4)), (a5, .inl (0, 108, .inl F5)), (a6, .inl (0, 108, .inl F6))]) (by simp only [gnS, psA, psB, psC, psD, qa, qb, qc, qd, if_true, if_false]) ?_
                    exact ih (i + 1) (by omega) (by omega)
                · have q1 := z_nlt (b := 12) (by decide) (by omega) c_89
                  refine r_iload_n d_Fz_pass_92 rfl 1 rfl ?_
                  refine r_bipush d_Fz_pass_93 (v := 96) (by decide) ?_
                  refine r_icmp_lt (tgt := 112) d_Fz_pass_95 (by decide) (fun c_95 => ?_) (fun c_95 => ?_)
                  · have q2 := z_lt (b := 96) (by decide) (by omega) c_95
                    have qd : ¬ (i < 12 ∨ 96 ≤ i) := by omega
                    refine r_iinc (lv' := [(2, .int (nI (i + 1))), (3, .int (nI (i % 12))), (0, .ref a), (1, .int st)]) (v := nI (i + 1)) d_Fz_pass_112 (j := 1) rfl (nI_add _ _) (by decide) rfl ?_
                    refine r_goto (tgt := 10) d_Fz_pass_115 (by decide) ?_
                    refine r_lv (lv' := [(2, .int (nI (i + 1))), (0, .ref a), (1, .int st)]) [0, 2, 3] rfl ?_
                    refine r_lvE (lv2 := [(2, .int (nI (i + 1))), (0, .ref a), (1, .int st)]) (rfl) ?_
                    refine r_cs (cs2 := [(a, .inr (2, [.ref a1, .ref a2, .ref a3, .ref a4, .ref a5, .ref a6, .int liq])), (a1, .inl (0, 108, .inl F1)), (a2, .inl (0, 108, .inl (gnS F1 F5 F6 (fa_fill (fun _ => 0) F2 108) (i + 1)))), (a3, .inl (0, 108, .inl F3)), (a4, .inl (0, 108, .inl F4)), (a5, .inl (0, 108, .inl F5)), (a6, .inl (0, 108, .inl F6))]) (by simp only [gnS, psA, psB, psC, psD, qa, qb, qc, qd, if_true, if_false]) ?_
                    exact ih (i + 1) (by omega) (by omega)
                  · have qd : i < 12 ∨ 96 ≤ i := Or.inr (z_nlt (b := 96) (by decide) (by omega) c_95)
                    refine r_aload_n d_Fz_pass_98 rfl 2 rfl ?_
                    refine r_get fs_Fz_15 d_Fz_pass_99 (q0 := 0) rfl rfl ?_
                    refine r_iload_n d_Fz_pass_102 rfl 1 rfl ?_
                    refine r_dup2_11 d_Fz_pass_103 rfl rfl ?_
                    refine r_iald d_Fz_pass_104 (q0 := 2) rfl (vp_in_nI (by omega) (by omega)) (v := (exS F1 i (i + 12) (F6 i) (gnS F1 F5 F6 (fa_fill (fun _ => 0) F2 108) i)) i) (by rw [nI_clamp (by omega)]) ?_
                    refine r_aload_n d_Fz_pass_105 rfl 2 rfl ?_
                    refine r_iload_n d_Fz_pass_106 rfl 1 rfl ?_
                    refine r_callV (As := [.int (nI i)]) (rest := [.int ((exS F1 i (i + 12) (F6 i) (gnS F1 F5 F6 (fa_fill (fun _ => 0) F2 108) i)) i), .int (nI i), .ref a2]) (csC := [(a, .inr (2, [.ref a1, .ref a2, .ref a3, .ref a4, .ref a5, .ref a6, .int liq])), (a1, .inl (0, 108, .inl F1)), (a2, .inl (0, 108, .inl (exS F1 i (i + 12) (F6 i) (gnS F1 F5 F6 (fa_fill (fun _ => 0) F2 108) i)))), (a3, .inl (0, 108, .inl F3)), (a4, .inl (0, 108, .inl F4)), (a5, .inl (0, 108, .inl F5)), (a6, .inl (0, 108, .inl F6))]) (is := [0, 1, 2, 3, 4, 5, 6]) (q0 := 0) rfl rfl ln_Fz_58 w_im_Fz_flowFromBeyond w_se_Fz_flowFromBeyond ok_Fz_pass_Fz_flowFromBeyond d_Fz_pass_107 (C_Fz_flow g a a1 a2 a3 a4 a5 a6 F1 (exS F1 i (i + 12) (F6 i) (gnS F1 F5 F6 (fa_fill (fun _ => 0) F2 108) i)) F3 F4 F5 F6 liq i (by omega)) rfl rfl (Nat.le_of_ble_eq_true rfl) rfl (by decide) (by omega) (by omega) (fun E cs1 hx => ?_) (fun v cs1 hx => ?_)
                    · exact absurd hx.1 (by simp)
                    · obtain ⟨e1, rfl⟩ := hx
                      cases e1
                      refine ⟨rfl, ?_⟩
                      refine r_st (st2 := [.int (flS F1 i), .int ((exS F1 i (i + 12) (F6 i) (gnS F1 F5 F6 (fa_fill (fun _ => 0) F2 108) i)) i), .int (nI i), .ref a2]) rfl ?_
                      refine r_cs (cs2 := [(a, .inr (2, [.ref a1, .ref a2, .ref a3, .ref a4, .ref a5, .ref a6, .int liq])), (a1, .inl (0, 108, .inl F1)), (a2, .inl (0, 108, .inl (exS F1 i (i + 12) (F6 i) (gnS F1 F5 F6 (fa_fill (fun _ => 0) F2 108) i)))), (a3, .inl (0, 108, .inl F3)), (a4, .inl (0, 108, .inl F4)), (a5, .inl (0, 108, .inl F5)), (a6, .inl (0, 108, .inl F6))]) rfl ?_
                      refine r_iadd d_Fz_pass_110 (v := ((exS F1 i (i + 12) (F6 i) (gnS F1 F5 F6 (fa_fill (fun _ => 0) F2 108) i)) i) + (flS F1 i)) rfl ?_
                      refine r_iast d_Fz_pass_111 (q0 := 2) rfl (vp_in_nI (by omega) (by omega)) (f' := upd (exS F1 i (i + 12) (F6 i) (gnS F1 F5 F6 (fa_fill (fun _ => 0) F2 108) i)) i (((exS F1 i (i + 12) (F6 i) (gnS F1 F5 F6 (fa_fill (fun _ => 0) F2 108) i)) i) + (flS F1 i))) (by rw [nI_clamp (by omega)]) (cs' := [(a, .inr (2, [.ref a1, .ref a2, .ref a3, .ref a4, .ref a5, .ref a6, .int liq])), (a1, .inl (0, 108, .inl F1)), (a2, .inl (0, 108, .inl (upd (exS F1 i (i + 12) (F6 i) (gnS F1 F5 F6 (fa_fill (fun _ => 0) F2 108) i)) i (((exS F1 i (i + 12) (F6 i) (gnS F1 F5 F6 (fa_fill (fun _ => 0) F2 108) i)) i) + (flS F1 i))))), (a3, .inl (0, 108, .inl F3)), (a4, .inl (0, 108, .inl F4)), (a5, .inl (0, 108, .inl F5)), (a6, .inl (0, 108, .inl F6))]) rfl ?_
                      refine r_iinc (lv' := [(2, .int (nI (i + 1))), (3, .int (nI (i % 12))), (0, .ref a), (1, .int st)]) (v := nI (i + 1)) d_Fz_pass_112 (j := 1) rfl (nI_add _ _) (by decide) rfl ?_
                      refine r_goto (tgt := 10) d_Fz_pass_115 (by decide) ?_
                      refine r_lv (lv' := [(2, .int (nI (i + 1))), (0, .ref a), (1, .int st)]) [0, 2, 3] rfl ?_
                      refine r_lvE (lv2 := [(2, .int (nI (i + 1))), (0, .ref a), (1, .int st)]) (rfl) ?_
                      refine r_cs (cs2 := [(a, .inr (2, [.ref a1, .ref a2, .ref a3, .ref a4, .ref a5, .ref a6, .int liq])), (a1, .inl (0, 108, .inl F1)), (a2, .inl (0, 108, .inl (gnS F1 F5 F6 (fa_fill (fun _ => 0) F2 108) (i + 1)))), (a3, .inl (0, 108, .inl F3)), (a4, .inl (0, 108, .inl F4)), (a5, .inl (0, 108, .inl F5)), (a6, .inl (0, 108, .inl F6))]) (by simp only [gnS, psA, psB, psC, psD, qa, qb, qc, qd, if_true, if_false]) ?_
                      exact ih (i + 1) (by omega) (by omega)
              · have qc : i % 12 = 0 ∨ i % 12 = 11 := Or.inr (z_eqn (b := 11) (by omega) (by decide) c_69)
                refine r_aload_n d_Fz_pass_72 rfl 2 rfl ?_
                refine r_get fs_Fz_15 d_Fz_pass_73 (q0 := 0) rfl rfl ?_
                refine r_iload_n d_Fz_pass_76 rfl 1 rfl ?_
                refine r_dup2_11 d_Fz_pass_77 rfl rfl ?_
                refine r_iald d_Fz_pass_78 (q0 := 2) rfl (vp_in_nI (by omega) (by omega)) (v := (exS F1 i (i + 12) (F6 i) (gnS F1 F5 F6 (fa_fill (fun _ => 0) F2 108) i)) i) (by rw [nI_clamp (by omega)]) ?_
                refine r_aload_n d_Fz_pass_79 rfl 2 rfl ?_
                refine r_iload_n d_Fz_pass_80 rfl 1 rfl ?_
                refine r_callV (As := [.int (nI i)]) (rest := [.int ((exS F1 i (i + 12) (F6 i) (gnS F1 F5 F6 (fa_fill (fun _ => 0) F2 108) i)) i), .int (nI i), .ref a2]) (csC := [(a, .inr (2, [.ref a1, .ref a2, .ref a3, .ref a4, .ref a5, .ref a6, .int liq])), (a1, .inl (0, 108, .inl F1)), (a2, .inl (0, 108, .inl (exS F1 i (i + 12) (F6 i) (gnS F1 F5 F6 (fa_fill (fun _ => 0) F2 108) i)))), (a3, .inl (0, 108, .inl F3)), (a4, .inl (0, 108, .inl F4)), (a5, .inl (0, 108, .inl F5)), (a6, .inl (0, 108, .inl F6))]) (is := [0, 1, 2, 3, 4, 5, 6]) (q0 := 0) rfl rfl ln_Fz_58 w_im_Fz_flowFromBeyond w_se_Fz_flowFromBeyond ok_Fz_pass_Fz_flowFromBeyond d_Fz_pass_81 (C_Fz_flow g a a1 a2 a3 a4 a5 a6 F1 (exS F1 i (i + 12) (F6 i) (gnS F1 F5 F6 (fa_fill (fun _ => 0) F2 108) i)) F3 F4 F5 F6 liq i (by omega)) rfl rfl (Nat.le_of_ble_eq_true rfl) rfl (by decide) (by omega) (by omega) (fun E cs1 hx => ?_) (fun v cs1 hx => ?_)
                · exact absurd hx.1 (by simp)
                · obtain ⟨e1, rfl⟩ := hx
                  cases e1
                  refine ⟨rfl, ?_⟩
                  refine r_st (st2 := [.int (flS F1 i), .int ((exS F1 i (i + 12) (F6 i) (gnS F1 F5 F6 (fa_fill (fun _ => 0) F2 108) i)) i), .int (nI i), .ref a2]) rfl ?_
                  refine r_cs (cs2 := [(a, .inr (2, [.ref a1, .ref a2, .ref a3, .ref a4, .ref a5, .ref a6, .int liq])), (a1, .inl (0, 108, .inl F1)), (a2, .inl (0, 108, .inl (exS F1 i (i + 12) (F6 i) (gnS F1 F5 F6 (fa_fill (fun _ => 0) F2 108) i)))), (a3, .inl (0, 108, .inl F3)), (a4, .inl (0, 108, .inl F4)), (a5, .inl (0, 108, .inl F5)), (a6, .inl (0, 108, .inl F6))]) rfl ?_
                  refine r_iadd d_Fz_pass_84 (v := ((exS F1 i (i + 12) (F6 i) (gnS F1 F5 F6 (fa_fill (fun _ => 0) F2 108) i)) i) + (flS F1 i)) rfl ?_
                  refine r_iast d_Fz_pass_85 (q0 := 2) rfl (vp_in_nI (by omega) (by omega)) (f' := upd (exS F1 i (i + 12) (F6 i) (gnS F1 F5 F6 (fa_fill (fun _ => 0) F2 108) i)) i (((exS F1 i (i + 12) (F6 i) (gnS F1 F5 F6 (fa_fill (fun _ => 0) F2 108) i)) i) + (flS F1 i))) (by rw [nI_clamp (by omega)]) (cs' := [(a, .inr (2, [.ref a1, .ref a2, .ref a3, .ref a4, .ref a5, .ref a6, .int liq])), (a1, .inl (0, 108, .inl F1)), (a2, .inl (0, 108, .inl (upd (exS F1 i (i + 12) (F6 i) (gnS F1 F5 F6 (fa_fill (fun _ => 0) F2 108) i)) i (((exS F1 i (i + 12) (F6 i) (gnS F1 F5 F6 (fa_fill (fun _ => 0) F2 108) i)) i) + (flS F1 i))))), (a3, .inl (0, 108, .inl F3)), (a4, .inl (0, 108, .inl F4)), (a5, .inl (0, 108, .inl F5)), (a6, .inl (0, 108, .inl F6))]) rfl ?_
                  refine r_iload_n d_Fz_pass_86 rfl 1 rfl ?_
                  refine r_bipush d_Fz_pass_87 (v := 12) (by decide) ?_
                  refine r_icmp_lt (tgt := 98) d_Fz_pass_89 (by decide) (fun c_89 => ?_) (fun c_89 => ?_)
                  · have qd : i < 12 ∨ 96 ≤ i := Or.inl (z_lt (b := 12) (by decide) (by omega) c_89)
                    refine r_aload_n d_Fz_pass_98 rfl 2 rfl ?_
                    refine r_get fs_Fz_15 d_Fz_pass_99 (q0 := 0) rfl rfl ?_
                    refine r_iload_n d_Fz_pass_102 rfl 1 rfl ?_
                    refine r_dup2_11 d_Fz_pass_103 rfl rfl ?_
                    refine r_iald d_Fz_pass_104 (q0 := 2) rfl (vp_in_nI (by omega) (by omega)) (v := (upd (exS F1 i (i + 12) (F6 i) (gnS F1 F5 F6 (fa_fill (fun _ => 0) F2 108) i)) i (((exS F1 i (i + 12) (F6 i) (gnS F1 F5 F6 (fa_fill (fun _ => 0) F2 108) i)) i) + (flS F1 i))) i) (by rw [nI_clamp (by omega)]) ?_
                    refine r_aload_n d_Fz_pass_105 rfl 2 rfl ?_
                    refine r_iload_n d_Fz_pass_106 rfl 1 rfl ?_
                    refine r_callV (As := [.int (nI i)]) (rest := [.int ((upd (exS F1 i (i + 12) (F6 i) (gnS F1 F5 F6 (fa_fill (fun _ => 0) F2 108) i)) i (((exS F1 i (i + 12) (F6 i) (gnS F1 F5 F6 (fa_fill (fun _ => 0) F2 108) i)) i) + (flS F1 i))) i), .int (nI i), .ref a2]) (csC := [(a, .inr (2, [.ref a1, .ref a2, .ref a3, .ref a4, .ref a5, .ref a6, .int liq])), (a1, .inl (0, 108, .inl F1)), (a2, .inl (0, 108, .inl (upd (exS F1 i (i + 12) (F6 i) (gnS F1 F5 F6 (fa_fill (fun _ => 0) F2 108) i)) i (((exS F1 i (i + 12) (F6 i) (gnS F1 F5 F6 (fa_fill (fun _ => 0) F2 108) i)) i) + (flS F1 i))))), (a3, .inl (0, 108, .inl F3)), (a4, .inl (0, 108, .inl F4)), (a5, .inl (0, 108, .inl F5)), (a6, .inl (0, 108, .inl F6))]) (is := [0, 1, 2, 3, 4, 5, 6]) (q0 := 0) rfl rfl ln_Fz_58 w_im_Fz_flowFromBeyond w_se_Fz_flowFromBeyond ok_Fz_pass_Fz_flowFromBeyond d_Fz_pass_107 (C_Fz_flow g a a1 a2 a3 a4 a5 a6 F1 (upd (exS F1 i (i + 12) (F6 i) (gnS F1 F5 F6 (fa_fill (fun _ => 0) F2 108) i)) i (((exS F1 i (i + 12) (F6 i) (gnS F1 F5 F6 (fa_fill (fun _ => 0) F2 108) i)) i) + (flS F1 i))) F3 F4 F5 F6 liq i (by omega)) rfl rfl (Nat.le_of_ble_eq_true rfl) rfl (by decide) (by omega) (by omega) (fun E cs1 hx => ?_) (fun v cs1 hx => ?_)
                    · exact absurd hx.1 (by simp)
                    · obtain ⟨e1, rfl⟩ := hx
                      cases e1
                      refine ⟨rfl, ?_⟩
                      refine r_st (st2 := [.int (flS F1 i), .int ((upd (exS F1 i (i + 12) (F6 i) (gnS F1 F5 F6 (fa_fill (fun _ => 0) F2 108) i)) i (((exS F1 i (i + 12) (F6 i) (gnS F1 F5 F6 (fa_fill (fun _ => 0) F2 108) i)) i) + (flS F1 i))) i), .int (nI i), .ref a2]) rfl ?_
                      refine r_cs (cs2 := [(a, .inr (2, [.ref a1, .ref a2, .ref a3, .ref a4, .ref a5, .ref a6, .int liq])), (a1, .inl (0, 108, .inl F1)), (a2, .inl (0, 108, .inl (upd (exS F1 i (i + 12) (F6 i) (gnS F1 F5 F6 (fa_fill (fun _ => 0) F2 108) i)) i (((exS F1 i (i + 12) (F6 i) (gnS F1 F5 F6 (fa_fill (fun _ => 0) F2 108) i)) i) + (flS F1 i))))), (a3, .inl (0, 108, .inl F3)), (a4, .inl (0, 108, .inl F4)), (a5, .inl (0, 108, .inl F5)), (a6, .inl (0, 108, .inl F6))]) rfl ?_
                      refine r_iadd d_Fz_pass_110 (v := ((upd (exS F1 i (i + 12) (F6 i) (gnS F1 F5 F6 (fa_fill (fun _ => 0) F2 108) i)) i (((exS F1 i (i + 12) (F6 i) (gnS F1 F5 F6 (fa_fill (fun _ => 0) F2 108) i)) i) + (flS F1 i))) i) + (flS F1 i)) rfl ?_
                      refine r_iast d_Fz_pass_111 (q0 := 2) rfl (vp_in_nI (by omega) (by omega)) (f' := upd (upd (exS F1 i (i + 12) (F6 i) (gnS F1 F5 F6 (fa_fill (fun _ => 0) F2 108) i)) i (((exS F1 i (i + 12) (F6 i) (gnS F1 F5 F6 (fa_fill (fun _ => 0) F2 108) i)) i) + (flS F1 i))) i (((upd (exS F1 i (i + 12) (F6 i) (gnS F1 F5 F6 (fa_fill (fun _ => 0) F2 108) i)) i (((exS F1 i (i + 12) (F6 i) (gnS F1 F5 F6 (fa_fill (fun _ => 0) F2 108) i)) i) + (flS F1 i))) i) + (flS F1 i))) (by rw [nI_clamp (by omega)]) (cs' := [(a, .inr (2, [.ref a1, .ref a2, .ref a3, .ref a4, .ref a5, .ref a6, .int liq])), (a1, .inl (0, 108, .inl F1)), (a2, .inl (0, 108, .inl (upd (upd (exS F1 i (i + 12) (F6 i) (gnS F1 F5 F6 (fa_fill (fun _ => 0) F2 108) i)) i (((exS F1 i (i + 12) (F6 i) (gnS F1 F5 F6 (fa_fill (fun _ => 0) F2 108) i)) i) + (flS F1 i))) i (((upd (exS F1 i (i + 12) (F6 i) (gnS F1 F5 F6 (fa_fill (fun _ => 0) F2 108) i)) i (((exS F1 i (i + 12) (F6 i) (gnS F1 F5 F6 (fa_fill (fun _ => 0) F2 108) i)) i) + (flS F1 i))) i) + (flS F1 i))))), (a3, .inl (0, 108, .inl F3)), (a4, .inl (0, 108, .inl F4)), (a5, .inl (0, 108, .inl F5)), (a6, .inl (0, 108, .inl F6))]) rfl ?_
                      refine r_iinc (lv' := [(2, .int (nI (i + 1))), (3, .int (nI (i % 12))), (0, .ref a), (1, .int st)]) (v := nI (i + 1)) d_Fz_pass_112 (j := 1) rfl (nI_add _ _) (by decide) rfl ?_
                      refine r_goto (tgt := 10) d_Fz_pass_115 (by decide) ?_
                      refine r_lv (lv' := [(2, .int (nI (i + 1))), (0, .ref a), (1, .int st)]) [0, 2, 3] rfl ?_
                      refine r_lvE (lv2 := [(2, .int (nI (i + 1))), (0, .ref a), (1, .int st)]) (rfl) ?_
                      refine r_cs (cs2 := [(a, .inr (2, [.ref a1, .ref a2, .ref a3, .ref a4, .ref a5, .ref a6, .int liq])), (a1, .inl (0, 108, .inl F1)), (a2, .inl (0, 108, .inl (gnS F1 F5 F6 (fa_fill (fun _ => 0) F2 108) (i + 1)))), (a3, .inl (0, 108, .inl F3)), (a4, .inl (0, 108, .inl F4)), (a5, .inl (0, 108, .inl F5)), (a6, .inl (0, 108, .inl F6))]) (by simp only [gnS, psA, psB, psC, psD, qa, qb, qc, qd, if_true, if_false]) ?_
                      exact ih (i + 1) (by omega) (by omega)
                  · have q1 := z_nlt (b := 12) (by decide) (by omega) c_89
                    refine r_iload_n d_Fz_pass_92 rfl 1 rfl ?_
                    refine r_bipush d_Fz_pass_93 (v := 96) (by decide) ?_
                    refine r_icmp_lt (tgt := 112) d_Fz_pass_95 (by decide) (fun c_95 => ?_) (fun c_95 => ?_)
                    · have q2 := z_lt (b := 96) (by decide) (by omega) c_95
                      have qd : ¬ (i < 12 ∨ 96 ≤ i) := by omega
                      refine r_iinc (lv' := [(2, .int (nI (i + 1))), (3, .int (nI (i % 12))), (0, .ref a), (1, .int st)]) (v := nI (i + 1)) d_Fz_pass_112 (j := 1) rfl (nI_add _ _) (by decide) rfl ?_
                      refine r_goto (tgt := 10) d_Fz_pass_115 (by decide) ?_
                      refine r_lv (lv' := [(2, .int (nI (i + 1))), (0, .ref a), (1, .int st)]) [0, 2, 3] rfl ?_
                      refine r_lvE (lv2 := [(2, .int (nI (i + 1))), (0, .ref a), (1, .int st)]) (rfl) ?_
                      refine r_cs (cs2 := [(a, .inr (2, [.ref a1, .ref a2, .ref a3, .ref a4, .ref a5, .ref a6, .int liq])), (a1, .inl (0, 108, .inl F1)), (a2, .inl (0, 108, .inl (gnS F1 F5 F6 (fa_fill (fun _ => 0) F2 108) (i + 1)))), (a3, .inl (0, 108, .inl F3)), (a4, .inl (0, 108, .inl F4)), (a5, .inl (0, 108, .inl F5)), (a6, .inl (0, 108, .inl F6))]) (by simp only [gnS, psA, psB, psC, psD, qa, qb, qc, qd, if_true, if_false]) ?_
                      exact ih (i + 1) (by omega) (by omega)
                    · have qd : i < 12 ∨ 96 ≤ i := Or.inr (z_nlt (b := 96) (by decide) (by omega) c_95)
                      refine r_aload_n d_Fz_pass_98 rfl 2 rfl ?_
                      refine r_get fs_Fz_15 d_Fz_pass_99 (q0 := 0) rfl rfl ?_
                      refine r_iload_n d_Fz_pass_102 rfl 1 rfl ?_
                      refine r_dup2_11 d_Fz_pass_103 rfl rfl ?_
                      refine r_iald d_Fz_pass_104 (q0 := 2) rfl (vp_in_nI (by omega) (by omega)) (v := (upd (exS F1 i (i + 12) (F6 i) (gnS F1 F5 F6 (fa_fill (fun _ => 0) F2 108) i)) i (((exS F1 i (i + 12) (F6 i) (gnS F1 F5 F6 (fa_fill (fun _ => 0) F2 108) i)) i) + (flS F1 i))) i) (by rw [nI_clamp (by omega)]) ?_
                      refine r_aload_n d_Fz_pass_105 rfl 2 rfl ?_
                      refine r_iload_n d_Fz_pass_106 rfl 1 rfl ?_
                      refine r_callV (As := [.int (nI i)]) (rest := [.int ((upd (exS F1 i (i + 12) (F6 i) (gnS F1 F5 F6 (fa_fill (fun _ => 0) F2 108) i)) i (((exS F1 i (i + 12) (F6 i) (gnS F1 F5 F6 (fa_fill (fun _ => 0) F2 108) i)) i) + (flS F1 i))) i), .int (nI i), .ref a2]) (csC := [(a, .inr (2, [.ref a1, .ref a2, .ref a3, .ref a4, .ref a5, .ref a6, .int liq])), (a1, .inl (0, 108, .inl F1)), (a2, .inl (0, 108, .inl (upd (exS F1 i (i + 12) (F6 i) (gnS F1 F5 F6 (fa_fill (fun _ => 0) F2 108) i)) i (((exS F1 i (i + 12) (F6 i) (gnS F1 F5 F6 (fa_fill (fun _ => 0) F2 108) i)) i) + (flS F1 i))))), (a3, .inl (0, 108, .inl F3)), (a4, .inl (0, 108, .inl F4)), (a5, .inl (0, 108, .inl F5)), (a6, .inl (0, 108, .inl F6))]) (is := [0, 1, 2, 3, 4, 5, 6]) (q0 := 0) rfl rfl ln_Fz_58 w_im_Fz_flowFromBeyond w_se_Fz_flowFromBeyond ok_Fz_pass_Fz_flowFromBeyond d_Fz_pass_107 (C_Fz_flow g a a1 a2 a3 a4 a5 a6 F1 (upd (exS F1 i (i + 12) (F6 i) (gnS F1 F5 F6 (fa_fill (fun _ => 0) F2 108) i)) i (((exS F1 i (i + 12) (F6 i) (gnS F1 F5 F6 (fa_fill (fun _ => 0) F2 108) i)) i) + (flS F1 i))) F3 F4 F5 F6 liq i (by omega)) rfl rfl (Nat.le_of_ble_eq_true rfl) rfl (by decide) (by omega) (by omega) (fun E cs1 hx => ?_) (fun v cs1 hx => ?_)
                      · exact absurd hx.1 (by simp)
                      · obtain ⟨e1, rfl⟩ := hx
                        cases e1
                        refine ⟨rfl, ?_⟩
                        refine r_st (st2 := [.int (flS F1 i), .int ((upd (exS F1 i (i + 12) (F6 i) (gnS F1 F5 F6 (fa_fill (fun _ => 0) F2 108) i)) i (((exS F1 i (i + 12) (F6 i) (gnS F1 F5 F6 (fa_fill (fun _ => 0) F2 108) i)) i) + (flS F1 i))) i), .int (nI i), .ref a2]) rfl ?_
                        refine r_cs (cs2 := [(a, .inr (2, [.ref a1, .ref a2, .ref a3, .ref a4, .ref a5, .ref a6, .int liq])), (a1, .inl (0, 108, .inl F1)), (a2, .inl (0, 108, .inl (upd (exS F1 i (i + 12) (F6 i) (gnS F1 F5 F6 (fa_fill (fun _ => 0) F2 108) i)) i (((exS F1 i (i + 12) (F6 i) (gnS F1 F5 F6 (fa_fill (fun _ => 0) F2 108) i)) i) + (flS F1 i))))), (a3, .inl (0, 108, .inl F3)), (a4, .inl (0, 108, .inl F4)), (a5, .inl (0, 108, .inl F5)), (a6, .inl (0, 108, .inl F6))]) rfl ?_
                        refine r_iadd d_Fz_pass_110 (v := ((upd (exS F1 i (i + 12) (F6 i) (gnS F1 F5 F6 (fa_fill (fun _ => 0) F2 108) i)) i (((exS F1 i (i + 12) (F6 i) (gnS F1 F5 F6 (fa_fill (fun _ => 0) F2 108) i)) i) + (flS F1 i))) i) + (flS F1 i)) rfl ?_
                        refine r_iast d_Fz_pass_111 (q0 := 2) rfl (vp_in_nI (by omega) (by omega)) (f' := upd (upd (exS F1 i (i + 12) (F6 i) (gnS F1 F5 F6 (fa_fill (fun _ => 0) F2 108) i)) i (((exS F1 i (i + 12) (F6 i) (gnS F1 F5 F6 (fa_fill (fun _ => 0) F2 108) i)) i) + (flS F1 i))) i (((upd (exS F1 i (i + 12) (F6 i) (gnS F1 F5 F6 (fa_fill (fun _ => 0) F2 108) i)) i (((exS F1 i (i + 12) (F6 i) (gnS F1 F5 F6 (fa_fill (fun _ => 0) F2 108) i)) i) + (flS F1 i))) i) + (flS F1 i))) (by rw [nI_clamp (by omega)]) (cs' := [(a, .inr (2, [.ref a1, .ref a2, .ref a3, .ref a4, .ref a5, .ref a6, .int liq])), (a1, .inl (0, 108, .inl F1)), (a2, .inl (0, 108, .inl (upd (upd (exS F1 i (i + 12) (F6 i) (gnS F1 F5 F6 (fa_fill (fun _ => 0) F2 108) i)) i (((exS F1 i (i + 12) (F6 i) (gnS F1 F5 F6 (fa_fill (fun _ => 0) F2 108) i)) i) + (flS F1 i))) i (((upd (exS F1 i (i + 12) (F6 i) (gnS F1 F5 F6 (fa_fill (fun _ => 0) F2 108) i)) i (((exS F1 i (i + 12) (F6 i) (gnS F1 F5 F6 (fa_fill (fun _ => 0) F2 108) i)) i) + (flS F1 i))) i) + (flS F1 i))))), (a3, .inl (0, 108, .inl F3)), (a4, .inl (0, 108, .inl F4)), (a5, .inl (0, 108, .inl F5)), (a6, .inl (0, 108, .inl F6))]) rfl ?_
                        refine r_iinc (lv' := [(2, .int (nI (i + 1))), (3, .int (nI (i % 12))), (0, .ref a), (1, .int st)]) (v := nI (i + 1)) d_Fz_pass_112 (j := 1) rfl (nI_add _ _) (by decide) rfl ?_
                        refine r_goto (tgt := 10) d_Fz_pass_115 (by decide) ?_
                        refine r_lv (lv' := [(2, .int (nI (i + 1))), (0, .ref a), (1, .int st)]) [0, 2, 3] rfl ?_
                        refine r_lvE (lv2 := [(2, .int (nI (i + 1))), (0, .ref a), (1, .int st)]) (rfl) ?_
                        refine r_cs (cs2 := [(a, .inr (2, [.ref a1, .ref a2, .ref a3, .ref a4, .ref a5, .ref a6, .int liq])), (a1, .inl (0, 108, .inl F1)), (a2, .inl (0, 108, .inl (gnS F1 F5 F6 (fa_fill (fun _ => 0) F2 108) (i + 1)))), (a3, .inl (0, 108, .inl F3)), (a4, .inl (0, 108, .inl F4)), (a5, .inl (0, 108, .inl F5)), (a6, .inl (0, 108, .inl F6))]) (by simp only [gnS, psA, psB, psC, psD, qa, qb, qc, qd, if_true, if_false]) ?_
                        exact ih (i + 1) (by omega) (by omega)
      · have qa : i % 12 < 11 := z_nle (a := 11) (by omega) (by decide) c_24
        refine r_aload_n d_Fz_pass_27 rfl 2 rfl ?_
        refine r_iload_n d_Fz_pass_28 rfl 1 rfl ?_
        refine r_iload_n d_Fz_pass_29 rfl 1 rfl ?_
        refine r_iconst d_Fz_pass_30 (v := 1) (by decide) ?_
        refine r_iadd d_Fz_pass_31 (v := nI (i + 1)) (nI_add _ _) ?_
        refine r_aload_n d_Fz_pass_32 rfl 2 rfl ?_
        refine r_get fs_Fz_24 d_Fz_pass_33 (q0 := 0) rfl rfl ?_
        refine r_iload_n d_Fz_pass_36 rfl 1 rfl ?_
        refine r_iald d_Fz_pass_37 (q0 := 5) rfl (vp_in_nI (by omega) (by omega)) (v := F5 i) (by rw [nI_clamp (by omega)]) ?_
        refine r_callV (As := [.int (nI i), .int (nI (i + 1)), .int (F5 i)]) (rest := []) (csC := [(a, .inr (2, [.ref a1, .ref a2, .ref a3, .ref a4, .ref a5, .ref a6, .int liq])), (a1, .inl (0, 108, .inl F1)), (a2, .inl (0, 108, .inl (gnS F1 F5 F6 (fa_fill (fun _ => 0) F2 108) i))), (a3, .inl (0, 108, .inl F3)), (a4, .inl (0, 108, .inl F4)), (a5, .inl (0, 108, .inl F5)), (a6, .inl (0, 108, .inl F6))]) (is := [0, 1, 2, 3, 4, 5, 6]) (q0 := 0) rfl rfl ln_Fz_55 w_im_Fz_exchange w_se_Fz_exchange ok_Fz_pass_Fz_exchange d_Fz_pass_38 (C_Fz_exchange g a a1 a2 a3 a4 a5 a6 F1 (gnS F1 F5 F6 (fa_fill (fun _ => 0) F2 108) i) F3 F4 F5 F6 liq i (i + 1) (by omega) (by omega) (F5 i)) rfl rfl (Nat.le_of_ble_eq_true rfl) rfl (by decide) (by omega) (by omega) (fun E cs1 hx => ?_) (fun v cs1 hx => ?_)
        · exact absurd hx.1 (by simp)
        · obtain ⟨e1, rfl⟩ := hx
          cases e1
          refine ⟨rfl, ?_⟩
          refine r_st (st2 := []) rfl ?_
          refine r_cs (cs2 := [(a, .inr (2, [.ref a1, .ref a2, .ref a3, .ref a4, .ref a5, .ref a6, .int liq])), (a1, .inl (0, 108, .inl F1)), (a2, .inl (0, 108, .inl (exS F1 i (i + 1) (F5 i) (gnS F1 F5 F6 (fa_fill (fun _ => 0) F2 108) i)))), (a3, .inl (0, 108, .inl F3)), (a4, .inl (0, 108, .inl F4)), (a5, .inl (0, 108, .inl F5)), (a6, .inl (0, 108, .inl F6))]) rfl ?_
          refine r_iload_n d_Fz_pass_41 rfl 1 rfl ?_
          refine r_bipush d_Fz_pass_42 (v := 96) (by decide) ?_
          refine r_icmp_ge (tgt := 62) d_Fz_pass_44 (by decide) (fun c_44 => ?_) (fun c_44 => ?_)
          · have qb : ¬ i < 96 := Nat.not_lt.mpr (z_le (a := 96) (by omega) (by decide) c_44)
            refine r_iload_n d_Fz_pass_62 rfl 0 rfl ?_
            refine r_if_eq (tgt := 72) d_Fz_pass_63 (by decide) (fun c_63 => ?_) (fun c_63 => ?_)
            · have qc : i % 12 = 0 ∨ i % 12 = 11 := Or.inl (z_eqn (b := 0) (by omega) (by decide) c_63)
              refine r_aload_n d_Fz_pass_72 rfl 2 rfl ?_
              refine r_get fs_Fz_15 d_Fz_pass_73 (q0 := 0) rfl rfl ?_
              refine r_iload_n d_Fz_pass_76 rfl 1 rfl ?_
              refine r_dup2_11 d_Fz_pass_77 rfl rfl ?_
              refine r_iald d_Fz_pass_78 (q0 := 2) rfl (vp_in_nI (by omega) (by omega)) (v := (exS F1 i (i + 1) (F5 i) (gnS F1 F5 F6 (fa_fill (fun _ => 0) F2 108) i)) i) (by rw [nI_clamp (by omega)]) ?_
              refine r_aload_n d_Fz_pass_79 rfl 2 rfl ?_
              refine r_iload_n d_Fz_pass_80 rfl 1 rfl ?_
              refine r_callV (As := [.int (nI i)]) (rest := [.int ((exS F1 i (i + 1) (F5 i) (gnS F1 F5 F6 (fa_fill (fun _ => 0) F2 108) i)) i), .int (nI i), .ref a2]) (csC := [(a, .inr (2, [.ref a1, .ref a2, .ref a3, .ref a4, .ref a5, .ref a6, .int liq])), (a1, .inl (0, 108, .inl F1)), (a2, .inl (0, 108, .inl (exS F1 i (i + 1) (F5 i) (gnS F1 F5 F6 (fa_fill (fun _ => 0) F2 108) i)))), (a3, .inl (0, 108, .inl F3)), (a4, .inl (0, 108, .inl F4)), (a5, .inl (0, 108, .inl F5)), (a6, .inl (0, 108, .inl F6))]) (is := [0, 1, 2, 3, 4, 5, 6]) (q0 := 0) rfl rfl ln_Fz_58 w_im_Fz_flowFromBeyond w_se_Fz_flowFromBeyond ok_Fz_pass_Fz_flowFromBeyond d_Fz_pass_81 (C_Fz_flow g a a1 a2 a3 a4 a5 a6 F1 (exS F1 i (i + 1) (F5 i) (gnS F1 F5 F6 (fa_fill (fun _ => 0) F2 108) i)) F3 F4 F5 F6 liq i (by omega)) rfl rfl (Nat.le_of_ble_eq_true rfl) rfl (by decide) (by omega) (by omega) (fun E cs1 hx => ?_) (fun v cs1 hx => ?_)
              · exact absurd hx.1 (by simp)
              · obtain ⟨e1, rfl⟩ := hx
                cases e1
                refine ⟨rfl, ?_⟩
                refine r_st (st2 := [.int (flS F1 i), .int ((exS F1 i (i + 1) (F5 i) (gnS F1 F5 F6 (fa_fill (fun _ => 0) F2 108) i)) i), .int (nI i), .ref a2]) rfl ?_
                refine r_cs (cs2 := [(a, .inr (2, [.ref a1, .ref a2, .ref a3, .ref a4, .ref a5, .ref a6, .int liq])), (a1, .inl (0, 108, .inl F1)), (a2, .inl (0, 108, .inl (exS F1 i (i + 1) (F5 i) (gnS F1 F5 F6 (fa_fill (fun _ => 0) F2 108) i)))), (a3, .inl (0, 108, .inl F3)), (a4, .inl (0, 108, .inl F4)), (a5, .inl (0, 108, .inl F5)), (a6, .inl (0, 108, .inl F6))]) rfl ?_
                refine r_iadd d_Fz_pass_84 (v := ((exS F1 i (i + 1) (F5 i) (gnS F1 F5 F6 (fa_fill (fun _ => 0) F2 108) i)) i) + (flS F1 i)) rfl ?_
                refine r_iast d_Fz_pass_85 (q0 := 2) rfl (vp_in_nI (by omega) (by omega)) (f' := upd (exS F1 i (i + 1) (F5 i) (gnS F1 F5 F6 (fa_fill (fun _ => 0) F2 108) i)) i (((exS F1 i (i + 1) (F5 i) (gnS F1 F5 F6 (fa_fill (fun _ => 0) F2 108) i)) i) + (flS F1 i))) (by rw [nI_clamp (by omega)]) (cs' := [(a, .inr (2, [.ref a1, .ref a2, .ref a3, .ref a4, .ref a5, .ref a6, .int liq])), (a1, .inl (0, 108, .inl F1)), (a2, .inl (0, 108, .inl (upd (exS F1 i (i + 1) (F5 i) (gnS F1 F5 F6 (fa_fill (fun _ => 0) F2 108) i)) i (((exS F1 i (i + 1) (F5 i) (gnS F1 F5 F6 (fa_fill (fun _ => 0) F2 108) i)) i) + (flS F1 i))))), (a3, .inl (0, 108, .inl F3)), (a4, .inl (0, 108, .inl F4)), (a5, .inl (0, 108, .inl F5)), (a6, .inl (0, 108, .inl F6))]) rfl ?_
                refine r_iload_n d_Fz_pass_86 rfl 1 rfl ?_
                refine r_bipush d_Fz_pass_87 (v := 12) (by decide) ?_
                refine r_icmp_lt (tgt := 98) d_Fz_pass_89 (by decide) (fun c_89 => ?_) (fun c_89 => ?_)
                · have qd : i < 12 ∨ 96 ≤ i := Or.inl (z_lt (b := 12) (by decide) (by omega) c_89)
                  refine r_aload_n d_Fz_pass_98 rfl 2 rfl ?_
                  refine r_get fs_Fz_15 d_Fz_pass_99 (q0 := 0) rfl rfl ?_
                  refine r_iload_n d_Fz_pass_102 rfl 1 rfl ?_
                  refine r_dup2_11 d_Fz_pass_103 rfl rfl ?_
                  refine r_iald d_Fz_pass_104 (q0 := 2) rfl (vp_in_nI (by omega) (by omega)) (v := (upd (exS F1 i (i + 1) (F5 i) (gnS F1 F5 F6 (fa_fill (fun _ => 0) F2 108) i)) i (((exS F1 i (i + 1) (F5 i) (gnS F1 F5 F6 (fa_fill (fun _ => 0) F2 108) i)) i) + (flS F1 i))) i) (by rw [nI_clamp (by omega)]) ?_
                  refine r_aload_n d_Fz_pass_105 rfl 2 rfl ?_
                  refine r_iload_n d_Fz_pass_106 rfl 1 rfl ?_
                  refine r_callV (As := [.int (nI i)]) (rest := [.int ((upd (exS F1 i (i + 1) (F5 i) (gnS F1 F5 F6 (fa_fill (fun _ => 0) F2 108) i)) i (((exS F1 i (i + 1) (F5 i) (gnS F1 F5 F6 (fa_fill (fun _ => 0) F2 108) i)) i) + (flS F1 i))) i), .int (nI i), .ref a2]) (csC := [(a, .inr (2, [.ref a1, .ref a2, .ref a3, .ref a4, .ref a5, .ref a6, .int liq])), (a1, .inl (0, 108, .inl F1)), (a2, .inl (0, 108, .inl (upd (exS F1 i (i + 1) (F5 i) (gnS F1 F5 F6 (fa_fill (fun _ => 0) F2 108) i)) i (((exS F1 i (i + 1) (F5 i) (gnS F1 F5 F6 (fa_fill (fun _ => 0) F2 108) i)) i) + (flS F1 i))))), (a3, .inl (0, 108, .inl F3)), (a4, .inl (0, 108, .inl F4)), (a5, .inl (0, 108, .inl F5)), (a6, .inl (0, 108, .inl F6))]) (is := [0, 1, 2, 3, 4, 5, 6]) (q0 := 0) rfl rfl ln_Fz_58 w_im_Fz_flowFromBeyond w_se_Fz_flowFromBeyond ok_Fz_pass_Fz_flowFromBeyond d_Fz_pass_107 (C_Fz_flow g a a1 a2 a3 a4 a5 a6 F1 (upd (exS F1 i (i + 1) (F5 i) (gnS F1 F5 F6 (fa_fill (fun _ => 0) F2 108) i)) i (((exS F1 i (i + 1) (F5 i) (gnS F1 F5 F6 (fa_fill (fun _ => 0) F2 108) i)) i) + (flS F1 i))) F3 F4 F5 F6 liq i (by omega)) rfl rfl (Nat.le_of_ble_eq_true rfl) rfl (by decide) (by omega) (by omega) (fun E cs1 hx => ?_) (fun v cs1 hx => ?_)
                  · exact absurd hx.1 (by simp)
                  · obtain ⟨e1, rfl⟩ := hx
                    cases e1
                    refine ⟨rfl, ?_⟩
                    refine r_st (st2 := [.int (flS F1 i), .int ((upd (exS F1 i (i + 1) (F5 i) (gnS F1 F5 F6 (fa_fill (fun _ => 0) F2 108) i)) i (((exS F1 i (i + 1) (F5 i) (gnS F1 F5 F6 (fa_fill (fun _ => 0) F2 108) i)) i) + (flS F1 i))) i), .int (nI i), .ref a2]) rfl ?_
                    refine r_cs (cs2 := [(a, .inr (2, [.ref a1, .ref a2, .ref a3, .ref a4, .ref a5, .ref a6, .int liq])), (a1, .inl (0, 108, .inl F1)), (a2, .inl (0, 108, .inl (upd (exS F1 i (i + 1) (F5 i) (gnS F1 F5 F6 (fa_fill (fun _ => 0) F2 108) i)) i (((exS F1 i (i + 1) (F5 i) (gnS F1 F5 F6 (fa_fill (fun _ => 0) F2 108) i)) i) + (flS F1 i))))), (a3, .inl (0, 108, .inl F3)), (a4, .inl (0, 108, .inl F4)), (a5, .inl (0, 108, .inl F5)), (a6, .inl (0, 108, .inl F6))]) rfl ?_
                    refine r_iadd d_Fz_pass_110 (v := ((upd (exS F1 i (i + 1) (F5 i) (gnS F1 F5 F6 (fa_fill (fun _ => 0) F2 108) i)) i (((exS F1 i (i + 1) (F5 i) (gnS F1 F5 F6 (fa_fill (fun _ => 0) F2 108) i)) i) + (flS F1 i))) i) + (flS F1 i)) rfl ?_
                    refine r_iast d_Fz_pass_111 (q0 := 2) rfl (vp_in_nI (by omega) (by omega)) (f' := upd (upd (exS F1 i (i + 1) (F5 i) (gnS F1 F5 F6 (fa_fill (fun _ => 0) F2 108) i)) i (((exS F1 i (i + 1) (F5 i) (gnS F1 F5 F6 (fa_fill (fun _ => 0) F2 108) i)) i) + (flS F1 i))) i (((upd (exS F1 i (i + 1) (F5 i) (gnS F1 F5 F6 (fa_fill (fun _ => 0) F2 108) i)) i (((exS F1 i (i + 1) (F5 i) (gnS F1 F5 F6 (fa_fill (fun _ => 0) F2 108) i)) i) + (flS F1 i))) i) + (flS F1 i))) (by rw [nI_clamp (by omega)]) (cs' := [(a, .inr (2, [.ref a1, .ref a2, .ref a3, .ref a4, .ref a5, .ref a6, .int liq])), (a1, .inl (0, 108, .inl F1)), (a2, .inl (0, 108, .inl (upd (upd (exS F1 i (i + 1) (F5 i) (gnS F1 F5 F6 (fa_fill (fun _ => 0) F2 108) i)) i (((exS F1 i (i + 1) (F5 i) (gnS F1 F5 F6 (fa_fill (fun _ => 0) F2 108) i)) i) + (flS F1 i))) i (((upd (exS F1 i (i + 1) (F5 i) (gnS F1 F5 F6 (fa_fill (fun _ => 0) F2 108) i)) i (((exS F1 i (i + 1) (F5 i) (gnS F1 F5 F6 (fa_fill (fun _ => 0) F2 108) i)) i) + (flS F1 i))) i) + (flS F1 i))))), (a3, .inl (0, 108, .inl F3)), (a4, .inl (0, 108, .inl F4)), (a5, .inl (0, 108, .inl F5)), (a6, .inl (0, 108, .inl F6))]) rfl ?_
                    refine r_iinc (lv' := [(2, .int (nI (i + 1))), (3, .int (nI (i % 12))), (0, .ref a), (1, .int st)]) (v := nI (i + 1)) d_Fz_pass_112 (j := 1) rfl (nI_add _ _) (by decide) rfl ?_
                    refine r_goto (tgt := 10) d_Fz_pass_115 (by decide) ?_
                    refine r_lv (lv' := [(2, .int (nI (i + 1))), (0, .ref a), (1, .int st)]) [0, 2, 3] rfl ?_
                    refine r_lvE (lv2 := [(2, .int (nI (i + 1))), (0, .ref a), (1, .int st)]) (rfl) ?_
                    refine r_cs (cs2 := [(a, .inr (2, [.ref a1, .ref a2, .ref a3, .ref a4, .ref a5, .ref a6, .int liq])), (a1, .inl (0, 108, .inl F1)), (a2, .inl (0, 108, .inl (gnS F1 F5 F6 (fa_fill (fun _ => 0) F2 108) (i + 1)))), (a3, .inl (0, 108, .inl F3)), (a4, .inl (0, 108, .inl F4)), (a5, .inl (0, 108, .inl F5)), (a6, .inl (0, 108, .inl F6))]) (by simp only [gnS, psA, psB, psC, psD, qa, qb, qc, qd, if_true, if_false]) ?_
                    exact ih (i + 1) (by omega) (by omega)
                · have q1 := z_nlt (b := 12) (by decide) (by omega) c_89
                  refine r_iload_n d_Fz_pass_92 rfl 1 rfl ?_
                  refine r_bipush d_Fz_pass_93 (v := 96) (by decide) ?_
                  refine r_icmp_lt (tgt := 112) d_Fz_pass_95 (by decide) (fun c_95 => ?_) (fun c_95 => ?_)
                  · have q2 := z_lt (b := 96) (by decide) (by omega) c_95
                    have qd : ¬ (i < 12 ∨ 96 ≤ i) := by omega
                    refine r_iinc (lv' := [(2, .int (nI (i + 1))), (3, .int (nI (i % 12))), (0, .ref a), (1, .int st)]) (v := nI (i + 1)) d_Fz_pass_112 (j := 1) rfl (nI_add _ _) (by decide) rfl ?_
                    refine r_goto (tgt := 10) d_Fz_pass_115 (by decide) ?_
                    refine r_lv (lv' := [(2, .int (nI (i + 1))), (0, .ref a), (1, .int st)]) [0, 2, 3] rfl ?_
                    refine r_lvE (lv2 := [(2, .int (nI (i + 1))), (0, .ref a), (1, .int st)]) (rfl) ?_
                    refine r_cs (cs2 := [(a, .inr (2, [.ref a1, .ref a2, .ref a3, .ref a4, .ref a5, .ref a6, .int liq])), (a1, .inl (0, 108, .inl F1)), (a2, .inl (0, 108, .inl (gnS F1 F5 F6 (fa_fill (fun _ => 0) F2 108) (i + 1)))), (a3, .inl (0, 108, .inl F3)), (a4, .inl (0, 108, .inl F4)), (a5, .inl (0, 108, .inl F5)), (a6, .inl (0, 108, .inl F6))]) (by simp only [gnS, psA, psB, psC, psD, qa, qb, qc, qd, if_true, if_false]) ?_
                    exact ih (i + 1) (by omega) (by omega)
                  · have qd : i < 12 ∨ 96 ≤ i := Or.inr (z_nlt (b := 96) (by decide) (by omega) c_95)
                    refine r_aload_n d_Fz_pass_98 rfl 2 rfl ?_
                    refine r_get fs_Fz_15 d_Fz_pass_99 (q0 := 0) rfl rfl ?_
                    refine r_iload_n d_Fz_pass_102 rfl 1 rfl ?_
                    refine r_dup2_11 d_Fz_pass_103 rfl rfl ?_
                    refine r_iald d_Fz_pass_104 (q0 := 2) rfl (vp_in_nI (by omega) (by omega)) (v := (upd (exS F1 i (i + 1) (F5 i) (gnS F1 F5 F6 (fa_fill (fun _ => 0) F2 108) i)) i (((exS F1 i (i + 1) (F5 i) (gnS F1 F5 F6 (fa_fill (fun _ => 0) F2 108) i)) i) + (flS F1 i))) i) (by rw [nI_clamp (by omega)]) ?_
                    refine r_aload_n d_Fz_pass_105 rfl 2 rfl ?_
                    refine r_iload_n d_Fz_pass_106 rfl 1 rfl ?_
                    refine r_callV (As := [.int (nI i)]) (rest := [.int ((upd (exS F1 i (i + 1) (F5 i) (gnS F1 F5 F6 (fa_fill (fun _ => 0) F2 108) i)) i (((exS F1 i (i + 1) (F5 i) (gnS F1 F5 F6 (fa_fill (fun _ => 0) F2 108) i)) i) + (flS F1 i))) i), .int (nI i), .ref a2]) (csC := [(a, .inr (2, [.ref a1, .ref a2, .ref a3, .ref a4, .ref a5, .ref a6, .int liq])), (a1, .inl (0, 108, .inl F1)), (a2, .inl (0, 108, .inl (upd (exS F1 i (i + 1) (F5 i) (gnS F1 F5 F6 (fa_fill (fun _ => 0) F2 108) i)) i (((exS F1 i (i + 1) (F5 i) (gnS F1 F5 F6 (fa_fill (fun _ => 0) F2 108) i)) i) + (flS F1 i))))), (a3, .inl (0, 108, .inl F3)), (a4, .inl (0, 108, .inl F4)), (a5, .inl (0, 108, .inl F5)), (a6, .inl (0, 108, .inl F6))]) (is := [0, 1, 2, 3, 4, 5, 6]) (q0 := 0) rfl rfl ln_Fz_58 w_im_Fz_flowFromBeyond w_se_Fz_flowFromBeyond ok_Fz_pass_Fz_flowFromBeyond d_Fz_pass_107 (C_Fz_flow g a a1 a2 a3 a4 a5 a6 F1 (upd (exS F1 i (i + 1) (F5 i) (gnS F1 F5 F6 (fa_fill (fun _ => 0) F2 108) i)) i (((exS F1 i (i + 1) (F5 i) (gnS F1 F5 F6 (fa_fill (fun _ => 0) F2 108) i)) i) + (flS F1 i))) F3 F4 F5 F6 liq i (by omega)) rfl rfl (Nat.le_of_ble_eq_true rfl) rfl (by decide) (by omega) (by omega) (fun E cs1 hx => ?_) (fun v cs1 hx => ?_)
                    · exact absurd hx.1 (by simp)
                    · obtain ⟨e1, rfl⟩ := hx
                      cases e1
                      refine ⟨rfl, ?_⟩
                      refine r_st (st2 := [.int (flS F1 i), .int ((upd (exS F1 i (i + 1) (F5 i) (gnS F1 F5 F6 (fa_fill (fun _ => 0) F2 108) i)) i (((exS F1 i (i + 1) (F5 i) (gnS F1 F5 F6 (fa_fill (fun _ => 0) F2 108) i)) i) + (flS F1 i))) i), .int (nI i), .ref a2]) rfl ?_
                      refine r_cs (cs2 := [(a, .inr (2, [.ref a1, .ref a2, .ref a3, .ref a4, .ref a5, .ref a6, .int liq])), (a1, .inl (0, 108, .inl F1)), (a2, .inl (0, 108, .inl (upd (exS F1 i (i + 1) (F5 i) (gnS F1 F5 F6 (fa_fill (fun _ => 0) F2 108) i)) i (((exS F1 i (i + 1) (F5 i) (gnS F1 F5 F6 (fa_fill (fun _ => 0) F2 108) i)) i) + (flS F1 i))))), (a3, .inl (0, 108, .inl F3)), (a4, .inl (0, 108, .inl F4)), (a5, .inl (0, 108, .inl F5)), (a6, .inl (0, 108, .inl F6))]) rfl ?_
                      refine r_iadd d_Fz_pass_110 (v := ((upd (exS F1 i (i + 1) (F5 i) (gnS F1 F5 F6 (fa_fill (fun _ => 0) F2 108) i)) i (((exS F1 i (i + 1) (F5 i) (gnS F1 F5 F6 (fa_fill (fun _ => 0) F2 108) i)) i) + (flS F1 i))) i) + (flS F1 i)) rfl ?_
                      refine r_iast d_Fz_pass_111 (q0 := 2) rfl (vp_in_nI (by omega) (by omega)) (f' := upd (upd (exS F1 i (i + 1) (F5 i) (gnS F1 F5 F6 (fa_fill (fun _ => 0) F2 108) i)) i (((exS F1 i (i + 1) (F5 i) (gnS F1 F5 F6 (fa_fill (fun _ => 0) F2 108) i)) i) + (flS F1 i))) i (((upd (exS F1 i (i + 1) (F5 i) (gnS F1 F5 F6 (fa_fill (fun _ => 0) F2 108) i)) i (((exS F1 i (i + 1) (F5 i) (gnS F1 F5 F6 (fa_fill (fun _ => 0) F2 108) i)) i) + (flS F1 i))) i) + (flS F1 i))) (by rw [nI_clamp (by omega)]) (cs' := [(a, .inr (2, [.ref a1, .ref a2, .ref a3, .ref a4, .ref a5, .ref a6, .int liq])), (a1, .inl (0, 108, .inl F1)), (a2, .inl (0, 108, .inl (upd (upd (exS F1 i (i + 1) (F5 i) (gnS F1 F5 F6 (fa_fill (fun _ => 0) F2 108) i)) i (((exS F1 i (i + 1) (F5 i) (gnS F1 F5 F6 (fa_fill (fun _ => 0) F2 108) i)) i) + (flS F1 i))) i (((upd (exS F1 i (i + 1) (F5 i) (gnS F1 F5 F6 (fa_fill (fun _ => 0) F2 108) i)) i (((exS F1 i (i + 1) (F5 i) (gnS F1 F5 F6 (fa_fill (fun _ => 0) F2 108) i)) i) + (flS F1 i))) i) + (flS F1 i))))), (a3, .inl (0, 108, .inl F3)), (a4, .inl (0, 108, .inl F4)), (a5, .inl (0, 108, .inl F5)), (a6, .inl (0, 108, .inl F6))]) rfl ?_
                      refine r_iinc (lv' := [(2, .int (nI (i + 1))), (3, .int (nI (i % 12))), (0, .ref a), (1, .int st)]) (v := nI (i + 1)) d_Fz_pass_112 (j := 1) rfl (nI_add _ _) (by decide) rfl ?_
                      refine r_goto (tgt := 10) d_Fz_pass_115 (by decide) ?_
                      refine r_lv (lv' := [(2, .int (nI (i + 1))), (0, .ref a), (1, .int st)]) [0, 2, 3] rfl ?_
                      refine r_lvE (lv2 := [(2, .int (nI (i + 1))), (0, .ref a), (1, .int st)]) (rfl) ?_
                      refine r_cs (cs2 := [(a, .inr (2, [.ref a1, .ref a2, .ref a3, .ref a4, .ref a5, .ref a6, .int liq])), (a1, .inl (0, 108, .inl F1)), (a2, .inl (0, 108, .inl (gnS F1 F5 F6 (fa_fill (fun _ => 0) F2 108) (i + 1)))), (a3, .inl (0, 108, .inl F3)), (a4, .inl (0, 108, .inl F4)), (a5, .inl (0, 108, .inl F5)), (a6, .inl (0, 108, .inl F6))]) (by simp only [gnS, psA, psB, psC, psD, qa, qb, qc, qd, if_true, if_false]) ?_
                      exact ih (i + 1) (by omega) (by omega)
            · have q0 : ¬ i % 12 = 0 := z_nen (b := 0) (by omega) (by decide) c_63
              refine r_iload_n d_Fz_pass_66 rfl 0 rfl ?_
              refine r_bipush d_Fz_pass_67 (v := 11) (by decide) ?_
              refine r_icmp_ne (tgt := 86) d_Fz_pass_69 (by decide) (fun c_69 => ?_) (fun c_69 => ?_)
              · have qc : ¬ (i % 12 = 0 ∨ i % 12 = 11) := fun h => h.elim q0 (z_nen (b := 11) (by omega) (by decide) c_69)
                refine r_iload_n d_Fz_pass_86 rfl 1 rfl ?_
                refine r_bipush d_Fz_pass_87 (v := 12) (by decide) ?_
                refine r_icmp_lt (tgt := 98) d_Fz_pass_89 (by decide) (fun c_89 => ?_) (fun c_89 => ?_)
                · have qd : i < 12 ∨ 96 ≤ i := Or.inl (z_lt (b := 12) (by decide) (by omega) c_89)
                  refine r_aload_n d_Fz_pass_98 rfl 2 rfl ?_
                  refine r_get fs_Fz_15 d_Fz_pass_99 (q0 := 0) rfl rfl ?_
                  refine r_iload_n d_Fz_pass_102 rfl 1 rfl ?_
                  refine r_dup2_11 d_Fz_pass_103 rfl rfl ?_
                  refine r_iald d_Fz_pass_104 (q0 := 2) rfl (vp_in_nI (by omega) (by omega)) (v := (exS F1 i (i + 1) (F5 i) (gnS F1 F5 F6 (fa_fill (fun _ => 0) F2 108) i)) i) (by rw [nI_clamp (by omega)]) ?_
                  refine r_aload_n d_Fz_pass_105 rfl 2 rfl ?_
                  refine r_iload_n d_Fz_pass_106 rfl 1 rfl ?_
                  refine r_callV (As := [.int (nI i)]) (rest := [.int ((exS F1 i (i + 1) (F5 i) (gnS F1 F5 F6 (fa_fill (fun _ => 0) F2 108) i)) i), .int (nI i), .ref a2]) (csC := [(a, .inr (2, [.ref a1, .ref a2, .ref a3, .ref a4, .ref a5, .ref a6, .int liq])), (a1, .inl (0, 108, .inl F1)), (a2, .inl (0, 108, .inl (exS F1 i (i + 1) (F5 i) (gnS F1 F5 F6 (fa_fill (fun _ => 0) F2 108) i)))), (a3, .inl (0, 108, .inl F3)), (a4, .inl (0, 108, .inl F4)), (a5, .inl (0, 108, .inl F5)), (a6, .inl (0, 108, .inl F6))]) (is := [0, 1, 2, 3, 4, 5, 6]) (q0 := 0) rfl rfl ln_Fz_58 w_im_Fz_flowFromBeyond w_se_Fz_flowFromBeyond ok_Fz_pass_Fz_flowFromBeyond d_Fz_pass_107 (C_Fz_flow g a a1 a2 a3 a4 a5 a6 F1 (exS F1 i (i + 1) (F5 i) (gnS F1 F5 F6 (fa_fill (fun _ => 0) F2 108) i)) F3 F4 F5 F6 liq i (by omega)) rfl rfl (Nat.le_of_ble_eq_true rfl) rfl (by decide) (by omega) (by omega) (fun E cs1 hx => ?_) (fun v cs1 hx => ?_)
                  · exact absurd hx.1 (by simp)
                  · obtain ⟨e1, rfl⟩ := hx
                    cases e1
                    refine ⟨rfl, ?_⟩
                    refine r_st (st2 := [.int (flS F1 i), .int ((exS F1 i (i + 1) (F5 i) (gnS F1 F5 F6 (fa_fill (fun _ => 0) F2 108) i)) i), .int (nI i), .ref a2]) rfl ?_
                    refine r_cs (cs2 := [(a, .inr (2, [.ref a1, .ref a2, .ref a3, .ref a4, .ref a5, .ref a6, .int liq])), (a1, .inl (0, 108, .inl F1)), (a2, .inl (0, 108, .inl (exS F1 i (i + 1) (F5 i) (gnS F1 F5 F6 (fa_fill (fun _ => 0) F2 108) i)))), (a3, .inl (0, 108, .inl F3)), (a4, .inl (0, 108, .inl F4)), (a5, .inl (0, 108, .inl F5)), (a6, .inl (0, 108, .inl F6))]) rfl ?_
                    refine r_iadd d_Fz_pass_110 (v := ((exS F1 i (i + 1) (F5 i) (gnS F1 F5 F6 (fa_fill (fun _ => 0) F2 108) i)) i) + (flS F1 i)) rfl ?_
                    refine r_iast d_Fz_pass_111 (q0 := 2) rfl (vp_in_nI (by omega) (by omega)) (f' := upd (exS F1 i (i + 1) (F5 i) (gnS F1 F5 F6 (fa_fill (fun _ => 0) F2 108) i)) i (((exS F1 i (i + 1) (F5 i) (gnS F1 F5 F6 (fa_fill (fun _ => 0) F2 108) i)) i) + (flS F1 i))) (by rw [nI_clamp (by omega)]) (cs' := [(a, .inr (2, [.ref a1, .ref a2, .ref a3, .ref a4, .ref a5, .ref a6, .int liq])), (a1, .inl (0, 108, .inl F1)), (a2, .inl (0, 108, .inl (upd (exS F1 i (i + 1) (F5 i) (gnS F1 F5 F6 (fa_fill (fun _ => 0) F2 108) i)) i (((exS F1 i (i + 1) (F5 i) (gnS F1 F5 F6 (fa_fill (fun _ => 0) F2 108) i)) i) + (flS F1 i))))), (a3, .inl (0, 108, .inl F3)), (a4, .inl (0, 108, .inl F4)), (a5, .inl (0, 108, .inl F5)), (a6, .inl (0, 108, .inl F6))]) rfl ?_
                    refine r_iinc (lv' := [(2, .int (nI (i + 1))), (3, .int (nI (i % 12))), (0, .ref a), (1, .int st)]) (v := nI (i + 1)) d_Fz_pass_112 (j := 1) rfl (nI_add _ _) (by decide) rfl ?_
                    refine r_goto (tgt := 10) d_Fz_pass_115 (by decide) ?_
                    refine r_lv (lv' := [(2, .int (nI (i + 1))), (0, .ref a), (1, .int st)]) [0, 2, 3] rfl ?_
                    refine r_lvE (lv2 := [(2, .int (nI (i + 1))), (0, .ref a), (1, .int st)]) (rfl) ?_
                    refine r_cs (cs2 := [(a, .inr (2, [.ref a1, .ref a2, .ref a3, .ref a4, .ref a5, .ref a6, .int liq])), (a1, .inl (0, 108, .inl F1)), (a2, .inl (0, 108, .inl (gnS F1 F5 F6 (fa_fill (fun _ => 0) F2 108) (i + 1)))), (a3, .inl (0, 108, .inl F3)), (a4, .inl (0, 108, .inl F4)), (a5, .inl (0, 108, .inl F5)), (a6, .inl (0, 108, .inl F6))]) (by simp only [gnS, psA, psB, psC, psD, qa, qb, qc, qd, if_true, if_false]) ?_
                    exact ih (i + 1) (by omega) (by omega)
                · have q1 := z_nlt (b := 12) (by decide) (by omega) c_89
                  refine r_iload_n d_Fz_pass_92 rfl 1 rfl ?_
                  refine r_bipush d_Fz_pass_93 (v := 96) (by decide) ?_
                  refine r_icmp_lt (tgt := 112) d_Fz_pass_95 (by decide) (fun c_95 => ?_) (fun c_95 => ?_)
                  · have q2 := z_lt (b := 96) (by decide) (by omega) c_95
                    have qd : ¬ (i < 12 ∨ 96 ≤ i) := by omega
                    refine r_iinc (lv' := [(2, .int (nI (i + 1))), (3, .int (nI (i % 12))), (0, .ref a), (1, .int st)]) (v := nI (i + 1)) d_Fz_pass_112 (j := 1) rfl (nI_add _ _) (by decide) rfl ?_
                    refine r_goto (tgt := 10) d_Fz_pass_115 (by decide) ?_
                    refine r_lv (lv' := [(2, .int (nI (i + 1))), (0, .ref a), (1, .int st)]) [0, 2, 3] rfl ?_
                    refine r_lvE (lv2 := [(2, .int (nI (i + 1))), (0, .ref a), (1, .int st)]) (rfl) ?_
                    refine r_cs (cs2 := [(a, .inr (2, [.ref a1, .ref a2, .ref a3, .ref a4, .ref a5, .ref a6, .int liq])), (a1, .inl (0, 108, .inl F1)), (a2, .inl (0, 108, .inl (gnS F1 F5 F6 (fa_fill (fun _ => 0) F2 108) (i + 1)))), (a3, .inl (0, 108, .inl F3)), (a4, .inl (0, 108, .inl F4)), (a5, .inl (0, 108, .inl F5)), (a6, .inl (0, 108, .inl F6))]) (by simp only [gnS, psA, psB, psC, psD, qa, qb, qc, qd, if_true, if_false]) ?_
                    exact ih (i + 1) (by omega) (by omega)
                  · have qd : i < 12 ∨ 96 ≤ i := Or.inr (z_nlt (b := 96) (by decide) (by omega) c_95)
                    refine r_aload_n d_Fz_pass_98 rfl 2 rfl ?_
                    refine r_get fs_Fz_15 d_Fz_pass_99 (q0 := 0) rfl rfl ?_
                    refine r_iload_n d_Fz_pass_102 rfl 1 rfl ?_
                    refine r_dup2_11 d_Fz_pass_103 rfl rfl ?_
                    refine r_iald d_Fz_pass_104 (q0 := 2) rfl (vp_in_nI (by omega) (by omega)) (v := (exS F1 i (i + 1) (F5 i) (gnS F1 F5 F6 (fa_fill (fun _ => 0) F2 108) i)) i) (by rw [nI_clamp (by omega)]) ?_
                    refine r_aload_n d_Fz_pass_105 rfl 2 rfl ?_
                    refine r_iload_n d_Fz_pass_106 rfl 1 rfl ?_
                    refine r_callV (As := [.int (nI i)]) (rest := [.int ((exS F1 i (i + 1) (F5 i) (gnS F1 F5 F6 (fa_fill (fun _ => 0) F2 108) i)) i), .int (nI i), .ref a2]) (csC := [(a, .inr (2, [.ref a1, .ref a2, .ref a3, .ref a4, .ref a5, .ref a6, .int liq])), (a1, .inl (0, 108, .inl F1)), (a2, .inl (0, 108, .inl (exS F1 i (i + 1) (F5 i) (gnS F1 F5 F6 (fa_fill (fun _ => 0) F2 108) i)))), (a3, .inl (0, 108, .inl F3)), (a4, .inl (0, 108, .inl F4)), (a5, .inl (0, 108, .inl F5)), (a6, .inl (0, 108, .inl F6))]) (is := [0, 1, 2, 3, 4, 5, 6]) (q0 := 0) rfl rfl ln_Fz_58 w_im_Fz_flowFromBeyond w_se_Fz_flowFromBeyond ok_Fz_pass_Fz_flowFromBeyond d_Fz_pass_107 (C_Fz_flow g a a1 a2 a3 a4 a5 a6 F1 (exS F1 i (i + 1) (F5 i) (gnS F1 F5 F6 (fa_fill (fun _ => 0) F2 108) i)) F3 F4 F5 F6 liq i (by omega)) rfl rfl (Nat.le_of_ble_eq_true rfl) rfl (by decide) (by omega) (by omega) (fun E cs1 hx => ?_) (fun v cs1 hx => ?_)
                    · exact absurd hx.1 (by simp)
                    · obtain ⟨e1, rfl⟩ := hx
                      cases e1
                      refine ⟨rfl, ?_⟩
                      refine r_st (st2 := [.int (flS F1 i), .int ((exS F1 i (i + 1) (F5 i) (gnS F1 F5 F6 (fa_fill (fun _ => 0) F2 108) i)) i), .int (nI i), .ref a2]) rfl ?_
                      refine r_cs (cs2 := [(a, .inr (2, [.ref a1, .ref a2, .ref a3, .ref a4, .ref a5, .ref a6, .int liq])), (a1, .inl (0, 108, .inl F1)), (a2, .inl (0, 108, .inl (exS F1 i (i + 1) (F5 i) (gnS F1 F5 F6 (fa_fill (fun _ => 0) F2 108) i)))), (a3, .inl (0, 108, .inl F3)), (a4, .inl (0, 108, .inl F4)), (a5, .inl (0, 108, .inl F5)), (a6, .inl (0, 108, .inl F6))]) rfl ?_
                      refine r_iadd d_Fz_pass_110 (v := ((exS F1 i (i + 1) (F5 i) (gnS F1 F5 F6 (fa_fill (fun _ => 0) F2 108) i)) i) + (flS F1 i)) rfl ?_
                      refine r_iast d_Fz_pass_111 (q0 := 2) rfl (vp_in_nI (by omega) (by omega)) (f' := upd (exS F1 i (i + 1) (F5 i) (gnS F1 F5 F6 (fa_fill (fun _ => 0) F2 108) i)) i (((exS F1 i (i + 1) (F5 i) (gnS F1 F5 F6 (fa_fill (fun _ => 0) F2 108) i)) i) + (flS F1 i))) (by rw [nI_clamp (by omega)]) (cs' := [(a, .inr (2, [.ref a1, .ref a2, .ref a3, .ref a4, .ref a5, .ref a6, .int liq])), (a1, .inl (0, 108, .inl F1)), (a2, .inl (0, 108, .inl (upd (exS F1 i (i + 1) (F5 i) (gnS F1 F5 F6 (fa_fill (fun _ => 0) F2 108) i)) i (((exS F1 i (i + 1) (F5 i) (gnS F1 F5 F6 (fa_fill (fun _ => 0) F2 108) i)) i) + (flS F1 i))))), (a3, .inl (0, 108, .inl F3)), (a4, .inl (0, 108, .inl F4)), (a5, .inl (0, 108, .inl F5)), (a6, .inl (0, 108, .inl F6))]) rfl ?_
                      refine r_iinc (lv' := [(2, .int (nI (i + 1))), (3, .int (nI (i % 12))), (0, .ref a), (1, .int st)]) (v := nI (i + 1)) d_Fz_pass_112 (j := 1) rfl (nI_add _ _) (by decide) rfl ?_
                      refine r_goto (tgt := 10) d_Fz_pass_115 (by decide) ?_
                      refine r_lv (lv' := [(2, .int (nI (i + 1))), (0, .ref a), (1, .int st)]) [0, 2, 3] rfl ?_
                      refine r_lvE (lv2 := [(2, .int (nI (i + 1))), (0, .ref a), (1, .int st)]) (rfl) ?_
                      refine r_cs (cs2 := [(a, .inr (2, [.ref a1, .ref a2, .ref a3, .ref a4, .ref a5, .ref a6, .int liq])), (a1, .inl (0, 108, .inl F1)), (a2, .inl (0, 108, .inl (gnS F1 F5 F6 (fa_fill (fun _ => 0) F2 108) (i + 1)))), (a3, .inl (0, 108, .inl F3)), (a4, .inl (0, 108, .inl F4)), (a5, .inl (0, 108, .inl F5)), (a6, .inl (0, 108, .inl F6))]) (by simp only [gnS, psA, psB, psC, psD, qa, qb, qc, qd, if_true, if_false]) ?_
                      exact ih (i + 1) (by omega) (by omega)
              · have qc : i % 12 = 0 ∨ i % 12 = 11 := Or.inr (z_eqn (b := 11) (by omega) (by decide) c_69)
                refine r_aload_n d_Fz_pass_72 rfl 2 rfl ?_
                refine r_get fs_Fz_15 d_Fz_pass_73 (q0 := 0) rfl rfl ?_
                refine r_iload_n d_Fz_pass_76 rfl 1 rfl ?_
                refine r_dup2_11 d_Fz_pass_77 rfl rfl ?_
                refine r_iald d_Fz_pass_78 (q0 := 2) rfl (vp_in_nI (by omega) (by omega)) (v := (exS F1 i (i + 1) (F5 i) (gnS F1 F5 F6 (fa_fill (fun _ => 0) F2 108) i)) i) (by rw [nI_clamp (by omega)]) ?_
                refine r_aload_n d_Fz_pass_79 rfl 2 rfl ?_
                refine r_iload_n d_Fz_pass_80 rfl 1 rfl ?_
                refine r_callV (As := [.int (nI i)]) (rest := [.int ((exS F1 i (i + 1) (F5 i) (gnS F1 F5 F6 (fa_fill (fun _ => 0) F2 108) i)) i), .int (nI i), .ref a2]) (csC := [(a, .inr (2, [.ref a1, .ref a2, .ref a3, .ref a4, .ref a5, .ref a6, .int liq])), (a1, .inl (0, 108, .inl F1)), (a2, .inl (0, 108, .inl (exS F1 i (i + 1) (F5 i) (gnS F1 F5 F6 (fa_fill (fun _ => 0) F2 108) i)))), (a3, .inl (0, 108, .inl F3)), (a4, .inl (0, 108, .inl F4)), (a5, .inl (0, 108, .inl F5)), (a6, .inl (0, 108, .inl F6))]) (is := [0, 1, 2, 3, 4, 5, 6]) (q0 := 0) rfl rfl ln_Fz_58 w_im_Fz_flowFromBeyond w_se_Fz_flowFromBeyond ok_Fz_pass_Fz_flowFromBeyond d_Fz_pass_81 (C_Fz_flow g a a1 a2 a3 a4 a5 a6 F1 (exS F1 i (i + 1) (F5 i) (gnS F1 F5 F6 (fa_fill (fun _ => 0) F2 108) i)) F3 F4 F5 F6 liq i (by omega)) rfl rfl (Nat.le_of_ble_eq_true rfl) rfl (by decide) (by omega) (by omega) (fun E cs1 hx => ?_) (fun v cs1 hx => ?_)
                · exact absurd hx.1 (by simp)
                · obtain ⟨e1, rfl⟩ := hx
                  cases e1
                  refine ⟨rfl, ?_⟩
                  refine r_st (st2 := [.int (flS F1 i), .int ((exS F1 i (i + 1) (F5 i) (gnS F1 F5 F6 (fa_fill (fun _ => 0) F2 108) i)) i), .int (nI i), .ref a2]) rfl ?_
                  refine r_cs (cs2 := [(a, .inr (2, [.ref a1, .ref a2, .ref a3, .ref a4, .ref a5, .ref a6, .int liq])), (a1, .inl (0, 108, .inl F1)), (a2, .inl (0, 108, .inl (exS F1 i (i + 1) (F5 i) (gnS F1 F5 F6 (fa_fill (fun _ => 0) F2 108) i)))), (a3, .inl (0, 108, .inl F3)), (a4, .inl (0, 108, .inl F4)), (a5, .inl (0, 108, .inl F5)), (a6, .inl (0, 108, .inl F6))]) rfl ?_
                  refine r_iadd d_Fz_pass_84 (v := ((exS F1 i (i + 1) (F5 i) (gnS F1 F5 F6 (fa_fill (fun _ => 0) F2 108) i)) i) + (flS F1 i)) rfl ?_
                  refine r_iast d_Fz_pass_85 (q0 := 2) rfl (vp_in_nI (by omega) (by omega)) (f' := upd (exS F1 i (i + 1) (F5 i) (gnS F1 F5 F6 (fa_fill (fun _ => 0) F2 108) i)) i (((exS F1 i (i + 1) (F5 i) (gnS F1 F5 F6 (fa_fill (fun _ => 0) F2 108) i)) i) + (flS F1 i))) (by rw [nI_clamp (by omega)]) (cs' := [(a, .inr (2, [.ref a1, .ref a2, .ref a3, .ref a4, .ref a5, .ref a6, .int liq])), (a1, .inl (0, 108, .inl F1)), (a2, .inl (0, 108, .inl (upd (exS F1 i (i + 1) (F5 i) (gnS F1 F5 F6 (fa_fill (fun _ => 0) F2 108) i)) i (((exS F1 i (i + 1) (F5 i) (gnS F1 F5 F6 (fa_fill (fun _ => 0) F2 108) i)) i) + (flS F1 i))))), (a3, .inl (0, 108, .inl F3)), (a4, .inl (0, 108, .inl F4)), (a5, .inl (0, 108, .inl F5)), (a6, .inl (0, 108, .inl F6))]) rfl ?_
                  refine r_iload_n d_Fz_pass_86 rfl 1 rfl ?_
                  refine r_bipush d_Fz_pass_87 (v := 12) (by decide) ?_
                  refine r_icmp_lt (tgt := 98) d_Fz_pass_89 (by decide) (fun c_89 => ?_) (fun c_89 => ?_)
                  · have qd : i < 12 ∨ 96 ≤ i := Or.inl (z_lt (b := 12) (by decide) (by omega) c_89)
                    refine r_aload_n d_Fz_pass_98 rfl 2 rfl ?_
                    refine r_get fs_Fz_15 d_Fz_pass_99 (q0 := 0) rfl rfl ?_
                    refine r_iload_n d_Fz_pass_102 rfl 1 rfl ?_
                    refine r_dup2_11 d_Fz_pass_103 rfl rfl ?_
                    refine r_iald d_Fz_pass_104 (q0 := 2) rfl (vp_in_nI (by omega) (by omega)) (v := (upd (exS F1 i (i + 1) (F5 i) (gnS F1 F5 F6 (fa_fill (fun _ => 0) F2 108) i)) i (((exS F1 i (i + 1) (F5 i) (gnS F1 F5 F6 (fa_fill (fun _ => 0) F2 108) i)) i) + (flS F1 i))) i) (by rw [nI_clamp (by omega)]) ?_
                    refine r_aload_n d_Fz_pass_105 rfl 2 rfl ?_
                    refine r_iload_n d_Fz_pass_106 rfl 1 rfl ?_
                    refine r_callV (As := [.int (nI i)]) (rest := [.int ((upd (exS F1 i (i + 1) (F5 i) (gnS F1 F5 F6 (fa_fill (fun _ => 0) F2 108) i)) i (((exS F1 i (i + 1) (F5 i) (gnS F1 F5 F6 (fa_fill (fun _ => 0) F2 108) i)) i) + (flS F1 i))) i), .int (nI i), .ref a2]) (csC := [(a, .inr (2, [.ref a1, .ref a2, .ref a3, .ref a4, .ref a5, .ref a6, .int liq])), (a1, .inl (0, 108, .inl F1)), (a2, .inl (0, 108, .inl (upd (exS F1 i (i + 1) (F5 i) (gnS F1 F5 F6 (fa_fill (fun _ => 0) F2 108) i)) i (((exS F1 i (i + 1) (F5 i) (gnS F1 F5 F6 (fa_fill (fun _ => 0) F2 108) i)) i) + (flS F1 i))))), (a3, .inl (0, 108, .inl F3)), (a4, .inl (0, 108, .inl F4)), (a5, .inl (0, 108, .inl F5)), (a6, .inl (0, 108, .inl F6))]) (is := [0, 1, 2, 3, 4, 5, 6]) (q0 := 0) rfl rfl ln_Fz_58 w_im_Fz_flowFromBeyond w_se_Fz_flowFromBeyond ok_Fz_pass_Fz_flowFromBeyond d_Fz_pass_107 (C_Fz_flow g a a1 a2 a3 a4 a5 a6 F1 (upd (exS F1 i (i + 1) (F5 i) (gnS F1 F5 F6 (fa_fill (fun _ => 0) F2 108) i)) i (((exS F1 i (i + 1) (F5 i) (gnS F1 F5 F6 (fa_fill (fun _ => 0) F2 108) i)) i) + (flS F1 i))) F3 F4 F5 F6 liq i (by omega)) rfl rfl (Nat.le_of_ble_eq_true rfl) rfl (by decide) (by omega) (by omega) (fun E cs1 hx => ?_) (fun v cs1 hx => ?_)
                    · exact absurd hx.1 (by simp)
                    · obtain ⟨e1, rfl⟩ := hx
                      cases e1
                      refine ⟨rfl, ?_⟩
                      refine r_st (st2 := [.int (flS F1 i), .int ((upd (exS F1 i (i + 1) (F5 i) (gnS F1 F5 F6 (fa_fill (fun _ => 0) F2 108) i)) i (((exS F1 i (i + 1) (F5 i) (gnS F1 F5 F6 (fa_fill (fun _ => 0) F2 108) i)) i) + (flS F1 i))) i), .int (nI i), .ref a2]) rfl ?_
                      refine r_cs (cs2 := [(a, .inr (2, [.ref a1, .ref a2, .ref a3, .ref a4, .ref a5, .ref a6, .int liq])), (a1, .inl (0, 108, .inl F1)), (a2, .inl (0, 108, .inl (upd (exS F1 i (i + 1) (F5 i) (gnS F1 F5 F6 (fa_fill (fun _ => 0) F2 108) i)) i (((exS F1 i (i + 1) (F5 i) (gnS F1 F5 F6 (fa_fill (fun _ => 0) F2 108) i)) i) + (flS F1 i))))), (a3, .inl (0, 108, .inl F3)), (a4, .inl (0, 108, .inl F4)), (a5, .inl (0, 108, .inl F5)), (a6, .inl (0, 108, .inl F6))]) rfl ?_
                      refine r_iadd d_Fz_pass_110 (v := ((upd (exS F1 i (i + 1) (F5 i) (gnS F1 F5 F6 (fa_fill (fun _ => 0) F2 108) i)) i (((exS F1 i (i + 1) (F5 i) (gnS F1 F5 F6 (fa_fill (fun _ => 0) F2 108) i)) i) + (flS F1 i))) i) + (flS F1 i)) rfl ?_
                      refine r_iast d_Fz_pass_111 (q0 := 2) rfl (vp_in_nI (by omega) (by omega)) (f' := upd (upd (exS F1 i (i + 1) (F5 i) (gnS F1 F5 F6 (fa_fill (fun _ => 0) F2 108) i)) i (((exS F1 i (i + 1) (F5 i) (gnS F1 F5 F6 (fa_fill (fun _ => 0) F2 108) i)) i) + (flS F1 i))) i (((upd (exS F1 i (i + 1) (F5 i) (gnS F1 F5 F6 (fa_fill (fun _ => 0) F2 108) i)) i (((exS F1 i (i + 1) (F5 i) (gnS F1 F5 F6 (fa_fill (fun _ => 0) F2 108) i)) i) + (flS F1 i))) i) + (flS F1 i))) (by rw [nI_clamp (by omega)]) (cs' := [(a, .inr (2, [.ref a1, .ref a2, .ref a3, .ref a4, .ref a5, .ref a6, .int liq])), (a1, .inl (0, 108, .inl F1)), (a2, .inl (0, 108, .inl (upd (upd (exS F1 i (i + 1) (F5 i) (gnS F1 F5 F6 (fa_fill (fun _ => 0) F2 108) i)) i (((exS F1 i (i + 1) (F5 i) (gnS F1 F5 F6 (fa_fill (fun _ => 0) F2 108) i)) i) + (flS F1 i))) i (((upd (exS F1 i (i + 1) (F5 i) (gnS F1 F5 F6 (fa_fill (fun _ => 0) F2 108) i)) i (((exS F1 i (i + 1) (F5 i) (gnS F1 F5 F6 (fa_fill (fun _ => 0) F2 108) i)) i) + (flS F1 i))) i) + (flS F1 i))))), (a3, .inl (0, 108, .inl F3)), (a4, .inl (0, 108, .inl F4)), (a5, .inl (0, 108, .inl F5)), (a6, .inl (0, 108, .inl F6))]) rfl ?_
                      refine r_iinc (lv' := [(2, .int (nI (i + 1))), (3, .int (nI (i % 12))), (0, .ref a), (1, .int st)]) (v := nI (i + 1)) d_Fz_pass_112 (j := 1) rfl (nI_add _ _) (by decide) rfl ?_
                      refine r_goto (tgt := 10) d_Fz_pass_115 (by decide) ?_
                      refine r_lv (lv' := [(2, .int (nI (i + 1))), (0, .ref a), (1, .int st)]) [0, 2, 3] rfl ?_
                      refine r_lvE (lv2 := [(2, .int (nI (i + 1))), (0, .ref a), (1, .int st)]) (rfl) ?_
                      refine r_cs (cs2 := [(a, .inr (2, [.ref a1, .ref a2, .ref a3, .ref a4, .ref a5, .ref a6, .int liq])), (a1, .inl (0, 108, .inl F1)), (a2, .inl (0, 108, .inl (gnS F1 F5 F6 (fa_fill (fun _ => 0) F2 108) (i + 1)))), (a3, .inl (0, 108, .inl F3)), (a4, .inl (0, 108, .inl F4)), (a5, .inl (0, 108, .inl F5)), (a6, .inl (0, 108, .inl F6))]) (by simp only [gnS, psA, psB, psC, psD, qa, qb, qc, qd, if_true, if_false]) ?_
                      exact ih (i + 1) (by omega) (by omega)
                  · have q1 := z_nlt (b := 12) (by decide) (by omega) c_89
                    refine r_iload_n d_Fz_pass_92 rfl 1 rfl ?_
                    refine r_bipush d_Fz_pass_93 (v := 96) (by decide) ?_
                    refine r_icmp_lt (tgt := 112) d_Fz_pass_95 (by decide) (fun c_95 => ?_) (fun c_95 => ?_)
                    · have q2 := z_lt (b := 96) (by decide) (by omega) c_95
                      have qd : ¬ (i < 12 ∨ 96 ≤ i) := by omega
                      refine r_iinc (lv' := [(2, .int (nI (i + 1))), (3, .int (nI (i % 12))), (0, .ref a), (1, .int st)]) (v := nI (i + 1)) d_Fz_pass_112 (j := 1) rfl (nI_add _ _) (by decide) rfl ?_
                      refine r_goto (tgt := 10) d_Fz_pass_115 (by decide) ?_
                      refine r_lv (lv' := [(2, .int (nI (i + 1))), (0, .ref a), (1, .int st)]) [0, 2, 3] rfl ?_
                      refine r_lvE (lv2 := [(2, .int (nI (i + 1))), (0, .ref a), (1, .int st)]) (rfl) ?_
                      refine r_cs (cs2 := [(a, .inr (2, [.ref a1, .ref a2, .ref a3, .ref a4, .ref a5, .ref a6, .int liq])), (a1, .inl (0, 108, .inl F1)), (a2, .inl (0, 108, .inl (gnS F1 F5 F6 (fa_fill (fun _ => 0) F2 108) (i + 1)))), (a3, .inl (0, 108, .inl F3)), (a4, .inl (0, 108, .inl F4)), (a5, .inl (0, 108, .inl F5)), (a6, .inl (0, 108, .inl F6))]) (by simp only [gnS, psA, psB, psC, psD, qa, qb, qc, qd, if_true, if_false]) ?_
                      exact ih (i + 1) (by omega) (by omega)
                    · have qd : i < 12 ∨ 96 ≤ i := Or.inr (z_nlt (b := 96) (by decide) (by omega) c_95)
                      refine r_aload_n d_Fz_pass_98 rfl 2 rfl ?_
                      refine r_get fs_Fz_15 d_Fz_pass_99 (q0 := 0) rfl rfl ?_
                      refine r_iload_n d_Fz_pass_102 rfl 1 rfl ?_
                      refine r_dup2_11 d_Fz_pass_103 rfl rfl ?_
                      refine r_iald d_Fz_pass_104 (q0 := 2) rfl (vp_in_nI (by omega) (by omega)) (v := (upd (exS F1 i (i + 1) (F5 i) (gnS F1 F5 F6 (fa_fill (fun _ => 0) F2 108) i)) i (((exS F1 i (i + 1) (F5 i) (gnS F1 F5 F6 (fa_fill (fun _ => 0) F2 108) i)) i) + (flS F1 i))) i) (by rw [nI_clamp (by omega)]) ?_
                      refine r_aload_n d_Fz_pass_105 rfl 2 rfl ?_
                      refine r_iload_n d_Fz_pass_106 rfl 1 rfl ?_
                      refine r_callV (As := [.int (nI i)]) (rest := [.int ((upd (exS F1 i (i + 1) (F5 i) (gnS F1 F5 F6 (fa_fill (fun _ => 0) F2 108) i)) i (((exS F1 i (i + 1) (F5 i) (gnS F1 F5 F6 (fa_fill (fun _ => 0) F2 108) i)) i) + (flS F1 i))) i), .int (nI i), .ref a2]) (csC := [(a, .inr (2, [.ref a1, .ref a2, .ref a3, .ref a4, .ref a5, .ref a6, .int liq])), (a1, .inl (0, 108, .inl F1)), (a2, .inl (0, 108, .inl (upd (exS F1 i (i + 1) (F5 i) (gnS F1 F5 F6 (fa_fill (fun _ => 0) F2 108) i)) i (((exS F1 i (i + 1) (F5 i) (gnS F1 F5 F6 (fa_fill (fun _ => 0) F2 108) i)) i) + (flS F1 i))))), (a3, .inl (0, 108, .inl F3)), (a4, .inl (0, 108, .inl F4)), (a5, .inl (0, 108, .inl F5)), (a6, .inl (0, 108, .inl F6))]) (is := [0, 1, 2, 3, 4, 5, 6]) (q0 := 0) rfl rfl ln_Fz_58 w_im_Fz_flowFromBeyond w_se_Fz_flowFromBeyond ok_Fz_pass_Fz_flowFromBeyond d_Fz_pass_107 (C_Fz_flow g a a1 a2 a3 a4 a5 a6 F1 (upd (exS F1 i (i + 1) (F5 i) (gnS F1 F5 F6 (fa_fill (fun _ => 0) F2 108) i)) i (((exS F1 i (i + 1) (F5 i) (gnS F1 F5 F6 (fa_fill (fun _ => 0) F2 108) i)) i) + (flS F1 i))) F3 F4 F5 F6 liq i (by omega)) rfl rfl (Nat.le_of_ble_eq_true rfl) rfl (by decide) (by omega) (by omega) (fun E cs1 hx => ?_) (fun v cs1 hx => ?_)
                      · exact absurd hx.1 (by simp)
                      · obtain ⟨e1, rfl⟩ := hx
                        cases e1
                        refine ⟨rfl, ?_⟩
                        refine r_st (st2 := [.int (flS F1 i), .int ((upd (exS F1 i (i + 1) (F5 i) (gnS F1 F5 F6 (fa_fill (fun _ => 0) F2 108) i)) i (((exS F1 i (i + 1) (F5 i) (gnS F1 F5 F6 (fa_fill (fun _ => 0) F2 108) i)) i) + (flS F1 i))) i), .int (nI i), .ref a2]) rfl ?_
                        refine r_cs (cs2 := [(a, .inr (2, [.ref a1, .ref a2, .ref a3, .ref a4, .ref a5, .ref a6, .int liq])), (a1, .inl (0, 108, .inl F1)), (a2, .inl (0, 108, .inl (upd (exS F1 i (i + 1) (F5 i) (gnS F1 F5 F6 (fa_fill (fun _ => 0) F2 108) i)) i (((exS F1 i (i + 1) (F5 i) (gnS F1 F5 F6 (fa_fill (fun _ => 0) F2 108) i)) i) + (flS F1 i))))), (a3, .inl (0, 108, .inl F3)), (a4, .inl (0, 108, .inl F4)), (a5, .inl (0, 108, .inl F5)), (a6, .inl (0, 108, .inl F6))]) rfl ?_
                        refine r_iadd d_Fz_pass_110 (v := ((upd (exS F1 i (i + 1) (F5 i) (gnS F1 F5 F6 (fa_fill (fun _ => 0) F2 108) i)) i (((exS F1 i (i + 1) (F5 i) (gnS F1 F5 F6 (fa_fill (fun _ => 0) F2 108) i)) i) + (flS F1 i))) i) + (flS F1 i)) rfl ?_
                        refine r_iast d_Fz_pass_111 (q0 := 2) rfl (vp_in_nI (by omega) (by omega)) (f' := upd (upd (exS F1 i (i + 1) (F5 i) (gnS F1 F5 F6 (fa_fill (fun _ => 0) F2 108) i)) i (((exS F1 i (i + 1) (F5 i) (gnS F1 F5 F6 (fa_fill (fun _ => 0) F2 108) i)) i) + (flS F1 i))) i (((upd (exS F1 i (i + 1) (F5 i) (gnS F1 F5 F6 (fa_fill (fun _ => 0) F2 108) i)) i (((exS F1 i (i + 1) (F5 i) (gnS F1 F5 F6 (fa_fill (fun _ => 0) F2 108) i)) i) + (flS F1 i))) i) + (flS F1 i))) (by rw [nI_clamp (by omega)]) (cs' := [(a, .inr (2, [.ref a1, .ref a2, .ref a3, .ref a4, .ref a5, .ref a6, .int liq])), (a1, .inl (0, 108, .inl F1)), (a2, .inl (0, 108, .inl (upd (upd (exS F1 i (i + 1) (F5 i) (gnS F1 F5 F6 (fa_fill (fun _ => 0) F2 108) i)) i (((exS F1 i (i + 1) (F5 i) (gnS F1 F5 F6 (fa_fill (fun _ => 0) F2 108) i)) i) + (flS F1 i))) i (((upd (exS F1 i (i + 1) (F5 i) (gnS F1 F5 F6 (fa_fill (fun _ => 0) F2 108) i)) i (((exS F1 i (i + 1) (F5 i) (gnS F1 F5 F6 (fa_fill (fun _ => 0) F2 108) i)) i) + (flS F1 i))) i) + (flS F1 i))))), (a3, .inl (0, 108, .inl F3)), (a4, .inl (0, 108, .inl F4)), (a5, .inl (0, 108, .inl F5)), (a6, .inl (0, 108, .inl F6))]) rfl ?_
                        refine r_iinc (lv' := [(2, .int (nI (i + 1))), (3, .int (nI (i % 12))), (0, .ref a), (1, .int st)]) (v := nI (i + 1)) d_Fz_pass_112 (j := 1) rfl (nI_add _ _) (by decide) rfl ?_
                        refine r_goto (tgt := 10) d_Fz_pass_115 (by decide) ?_
                        refine r_lv (lv' := [(2, .int (nI (i + 1))), (0, .ref a), (1, .int st)]) [0, 2, 3] rfl ?_
                        refine r_lvE (lv2 := [(2, .int (nI (i + 1))), (0, .ref a), (1, .int st)]) (rfl) ?_
                        refine r_cs (cs2 := [(a, .inr (2, [.ref a1, .ref a2, .ref a3, .ref a4, .ref a5, .ref a6, .int liq])), (a1, .inl (0, 108, .inl F1)), (a2, .inl (0, 108, .inl (gnS F1 F5 F6 (fa_fill (fun _ => 0) F2 108) (i + 1)))), (a3, .inl (0, 108, .inl F3)), (a4, .inl (0, 108, .inl F4)), (a5, .inl (0, 108, .inl F5)), (a6, .inl (0, 108, .inl F6))]) (by simp only [gnS, psA, psB, psC, psD, qa, qb, qc, qd, if_true, if_false]) ?_
                        exact ih (i + 1) (by omega) (by omega)
          · have qb : i < 96 := z_nle (a := 96) (by omega) (by decide) c_44
            refine r_aload_n d_Fz_pass_47 rfl 2 rfl ?_
            refine r_iload_n d_Fz_pass_48 rfl 1 rfl ?_
            refine r_iload_n d_Fz_pass_49 rfl 1 rfl ?_
            refine r_bipush d_Fz_pass_50 (v := 12) (by decide) ?_
            refine r_iadd d_Fz_pass_52 (v := nI (i + 12)) (nI_add _ _) ?_
            refine r_aload_n d_Fz_pass_53 rfl 2 rfl ?_
            refine r_get fs_Fz_27 d_Fz_pass_54 (q0 := 0) rfl rfl ?_
            refine r_iload_n d_Fz_pass_57 rfl 1 rfl ?_
            refine r_iald d_Fz_pass_58 (q0 := 6) rfl (vp_in_nI (by omega) (by omega)) (v := F6 i) (by rw [nI_clamp (by omega)]) ?_
            refine r_callV (As := [.int (nI i), .int (nI (i + 12)), .int (F6 i)]) (rest := []) (csC := [(a, .inr (2, [.ref a1, .ref a2, .ref a3, .ref a4, .ref a5, .ref a6, .int liq])), (a1, .inl (0, 108, .inl F1)), (a2, .inl (0, 108, .inl (exS F1 i (i + 1) (F5 i) (gnS F1 F5 F6 (fa_fill (fun _ => 0) F2 108) i)))), (a3, .inl (0, 108, .inl F3)), (a4, .inl (0, 108, .inl F4)), (a5, .inl (0, 108, .inl F5)), (a6, .inl (0, 108, .inl F6))]) (is := [0, 1, 2, 3, 4, 5, 6]) (q0 := 0) rfl rfl ln_Fz_55 w_im_Fz_exchange w_se_Fz_exchange ok_Fz_pass_Fz_exchange d_Fz_pass_59 (C_Fz_exchange g a a1 a2 a3 a4 a5 a6 F1 (exS F1 i (i + 1) (F5 i) (gnS F1 F5 F6 (fa_fill (fun _ => 0) F2 108) i)) F3 F4 F5 F6 liq i (i + 12) (by omega) (by omega) (F6 i)) rfl rfl (Nat.le_of_ble_eq_true rfl) rfl (by decide) (by omega) (by omega) (fun E cs1 hx => ?_) (fun v cs1 hx => ?_)
            · exact absurd hx.1 (by simp)
            · obtain ⟨e1, rfl⟩ := hx
              cases e1
              refine ⟨rfl, ?_⟩
              refine r_st (st2 := []) rfl ?_
              refine r_cs (cs2 := [(a, .inr (2, [.ref a1, .ref a2, .ref a3, .ref a4, .ref a5, .ref a6, .int liq])), (a1, .inl (0, 108, .inl F1)), (a2, .inl (0, 108, .inl (exS F1 i (i + 12) (F6 i) (exS F1 i (i + 1) (F5 i) (gnS F1 F5 F6 (fa_fill (fun _ => 0) F2 108) i))))), (a3, .inl (0, 108, .inl F3)), (a4, .inl (0, 108, .inl F4)), (a5, .inl (0, 108, .inl F5)), (a6, .inl (0, 108, .inl F6))]) rfl ?_
              refine r_iload_n d_Fz_pass_62 rfl 0 rfl ?_
              refine r_if_eq (tgt := 72) d_Fz_pass_63 (by decide) (fun c_63 => ?_) (fun c_63 => ?_)
              · have qc : i % 12 = 0 ∨ i % 12 = 11 := Or.inl (z_eqn (b := 0) (by omega) (by decide) c_63)
                refine r_aload_n d_Fz_pass_72 rfl 2 rfl ?_
                refine r_get fs_Fz_15 d_Fz_pass_73 (q0 := 0) rfl rfl ?_
                refine r_iload_n d_Fz_pass_76 rfl 1 rfl ?_
                refine r_dup2_11 d_Fz_pass_77 rfl rfl ?_
                refine r_iald d_Fz_pass_78 (q0 := 2) rfl (vp_in_nI (by omega) (by omega)) (v := (exS F1 i (i + 12) (F6 i) (exS F1 i (i + 1) (F5 i) (gnS F1 F5 F6 (fa_fill (fun _ => 0) F2 108) i))) i) (by rw [nI_clamp (by omega)]) ?_
                refine r_aload_n d_Fz_pass_79 rfl 2 rfl ?_
                refine r_iload_n d_Fz_pass_80 rfl 1 rfl ?_
                refine r_callV (As := [.int (nI i)]) (rest := [.int ((exS F1 i (i + 12) (F6 i) (exS F1 i (i + 1) (F5 i) (gnS F1 F5 F6 (fa_fill (fun _ => 0) F2 108) i))) i), .int (nI i), .ref a2]) (csC := [(a, .inr (2, [.ref a1, .ref a2, .ref a3, .ref a4, .ref a5, .ref a6, .int liq])), (a1, .inl (0, 108, .inl F1)), (a2, .inl (0, 108, .inl (exS F1 i (i + 12) (F6 i) (exS F1 i (i + 1) (F5 i) (gnS F1 F5 F6 (fa_fill (fun _ => 0) F2 108) i))))), (a3, .inl (0, 108, .inl F3)), (a4, .inl (0, 108, .inl F4)), (a5, .inl (0, 108, .inl F5)), (a6, .inl (0, 108, .inl F6))]) (is := [0, 1, 2, 3, 4, 5, 6]) (q0 := 0) rfl rfl ln_Fz_58 w_im_Fz_flowFromBeyond w_se_Fz_flowFromBeyond ok_Fz_pass_Fz_flowFromBeyond d_Fz_pass_81 (C_Fz_flow g a a1 a2 a3 a4 a5 a6 F1 (exS F1 i (i + 12) (F6 i) (exS F1 i (i + 1) (F5 i) (gnS F1 F5 F6 (fa_fill (fun _ => 0) F2 108) i))) F3 F4 F5 F6 liq i (by omega)) rfl rfl (Nat.le_of_ble_eq_true rfl) rfl (by decide) (by omega) (by omega) (fun E cs1 hx => ?_) (fun v cs1 hx => ?_)
                · exact absurd hx.1 (by simp)
                · obtain ⟨e1, rfl⟩ := hx
                  cases e1
                  refine ⟨rfl, ?_⟩
                  refine r_st (st2 := [.int (flS F1 i), .int ((exS F1 i (i + 12) (F6 i) (exS F1 i (i + 1) (F5 i) (gnS F1 F5 F6 (fa_fill (fun _ => 0) F2 108) i))) i), .int (nI i), .ref a2]) rfl ?_
                  refine r_cs (cs2 := [(a, .inr (2, [.ref a1, .ref a2, .ref a3, .ref a4, .ref a5, .ref a6, .int liq])), (a1, .inl (0, 108, .inl F1)), (a2, .inl (0, 108, .inl (exS F1 i (i + 12) (F6 i) (exS F1 i (i + 1) (F5 i) (gnS F1 F5 F6 (fa_fill (fun _ => 0) F2 108) i))))), (a3, .inl (0, 108, .inl F3)), (a4, .inl (0, 108, .inl F4)), (a5, .inl (0, 108, .inl F5)), (a6, .inl (0, 108, .inl F6))]) rfl ?_
                  refine r_iadd d_Fz_pass_84 (v := ((exS F1 i (i + 12) (F6 i) (exS F1 i (i + 1) (F5 i) (gnS F1 F5 F6 (fa_fill (fun _ => 0) F2 108) i))) i) + (flS F1 i)) rfl ?_
                  refine r_iast d_Fz_pass_85 (q0 := 2) rfl (vp_in_nI (by omega) (by omega)) (f' := upd (exS F1 i (i + 12) (F6 i) (exS F1 i (i + 1) (F5 i) (gnS F1 F5 F6 (fa_fill (fun _ => 0) F2 108) i))) i (((exS F1 i (i + 12) (F6 i) (exS F1 i (i + 1) (F5 i) (gnS F1 F5 F6 (fa_fill (fun _ => 0) F2 108) i))) i) + (flS F1 i))) (by rw [nI_clamp (by omega)]) (cs' := [(a, .inr (2, [.ref a1, .ref a2, .ref a3, .ref a4, .ref a5, .ref a6, .int liq])), (a1, .inl (0, 108, .inl F1)), (a2, .inl (0, 108, .inl (upd (exS F1 i (i + 12) (F6 i) (exS F1 i (i + 1) (F5 i) (gnS F1 F5 F6 (fa_fill (fun _ => 0) F2 108) i))) i (((exS F1 i (i + 12) (F6 i) (exS F1 i (i + 1) (F5 i) (gnS F1 F5 F6 (fa_fill (fun _ => 0) F2 108) i))) i) + (flS F1 i))))), (a3, .inl (0, 108, .inl F3)), (a4, .inl (0, 108, .inl F4)), (a5, .inl (0, 108, .inl F5)), (a6, .inl (0, 108, .inl F6))]) rfl ?_
                  refine r_iload_n d_Fz_pass_86 rfl 1 rfl ?_
                  refine r_bipush d_Fz_pass_87 (v := 12) (by decide) ?_
                  refine r_icmp_lt (tgt := 98) d_Fz_pass_89 (by decide) (fun c_89 => ?_) (fun c_89 => ?_)
                  · have qd : i < 12 ∨ 96 ≤ i := Or.inl (z_lt (b := 12) (by decide) (by omega) c_89)
                    refine r_aload_n d_Fz_pass_98 rfl 2 rfl ?_
                    refine r_get fs_Fz_15 d_Fz_pass_99 (q0 := 0) rfl rfl ?_
                    refine r_iload_n d_Fz_pass_102 rfl 1 rfl ?_
                    refine r_dup2_11 d_Fz_pass_103 rfl rfl ?_
                    refine r_iald d_Fz_pass_104 (q0 := 2) rfl (vp_in_nI (by omega) (by omega)) (v := (upd (exS F1 i (i + 12) (F6 i) (exS F1 i (i + 1) (F5 i) (gnS F1 F5 F6 (fa_fill (fun _ => 0) F2 108) i))) i (((exS F1 i (i + 12) (F6 i) (exS F1 i (i + 1) (F5 i) (gnS F1 F5 F6 (fa_fill (fun _ => 0) F2 108) i))) i) + (flS F1 i))) i) (by rw [nI_clamp (by omega)]) ?_
                    refine r_aload_n d_Fz_pass_105 rfl 2 rfl ?_
                    refine r_iload_n d_Fz_pass_106 rfl 1 rfl ?_
                    refine r_callV (As := [.int (nI i)]) (rest := [.int ((upd (exS F1 i (i + 12) (F6 i) (exS F1 i (i + 1) (F5 i) (gnS F1 F5 F6 (fa_fill (fun _ => 0) F2 108) i))) i (((exS F1 i (i + 12) (F6 i) (exS F1 i (i + 1) (F5 i) (gnS F1 F5 F6 (fa_fill (fun _ => 0) F2 108) i))) i) + (flS F1 i))) i), .int (nI i), .ref a2]) (csC := [(a, .inr (2, [.ref a1, .ref a2, .ref a3, .ref a4, .ref a5, .ref a6, .int liq])), (a1, .inl (0, 108, .inl F1)), (a2, .inl (0, 108, .inl (upd (exS F1 i (i + 12) (F6 i) (exS F1 i (i + 1) (F5 i) (gnS F1 F5 F6 (fa_fill (fun _ => 0) F2 108) i))) i (((exS F1 i (i + 12) (F6 i) (exS F1 i (i + 1) (F5 i) (gnS F1 F5 F6 (fa_fill (fun _ => 0) F2 108) i))) i) + (flS F1 i))))), (a3, .inl (0, 108, .inl F3)), (a4, .inl (0, 108, .inl F4)), (a5, .inl (0, 108, .inl F5)), (a6, .inl (0, 108, .inl F6))]) (is := [0, 1, 2, 3, 4, 5, 6]) (q0 := 0) rfl rfl ln_Fz_58 w_im_Fz_flowFromBeyond w_se_Fz_flowFromBeyond ok_Fz_pass_Fz_flowFromBeyond d_Fz_pass_107 (C_Fz_flow g a a1 a2 a3 a4 a5 a6 F1 (upd (exS F1 i (i + 12) (F6 i) (exS F1 i (i + 1) (F5 i) (gnS F1 F5 F6 (fa_fill (fun _ => 0) F2 108) i))) i (((exS F1 i (i + 12) (F6 i) (exS F1 i (i + 1) (F5 i) (gnS F1 F5 F6 (fa_fill (fun _ => 0) F2 108) i))) i) + (flS F1 i))) F3 F4 F5 F6 liq i (by omega)) rfl rfl (Nat.le_of_ble_eq_true rfl) rfl (by decide) (by omega) (by omega) (fun E cs1 hx => ?_) (fun v cs1 hx => ?_)
                    · exact absurd hx.1 (by simp)
                    · obtain ⟨e1, rfl⟩ := hx
                      cases e1
                      refine ⟨rfl, ?_⟩
                      refine r_st (st2 := [.int (flS F1 i), .int ((upd (exS F1 i (i + 12) (F6 i) (exS F1 i (i + 1) (F5 i) (gnS F1 F5 F6 (fa_fill (fun _ => 0) F2 108) i))) i (((exS F1 i (i + 12) (F6 i) (exS F1 i (i + 1) (F5 i) (gnS F1 F5 F6 (fa_fill (fun _ => 0) F2 108) i))) i) + (flS F1 i))) i), .int (nI i), .ref a2]) rfl ?_
                      refine r_cs (cs2 := [(a, .inr (2, [.ref a1, .ref a2, .ref a3, .ref a4, .ref a5, .ref a6, .int liq])), (a1, .inl (0, 108, .inl F1)), (a2, .inl (0, 108, .inl (upd (exS F1 i (i + 12) (F6 i) (exS F1 i (i + 1) (F5 i) (gnS F1 F5 F6 (fa_fill (fun _ => 0) F2 108) i))) i (((exS F1 i (i + 12) (F6 i) (exS F1 i (i + 1) (F5 i) (gnS F1 F5 F6 (fa_fill (fun _ => 0) F2 108) i))) i) + (flS F1 i))))), (a3, .inl (0, 108, .inl F3)), (a4, .inl (0, 108, .inl F4)), (a5, .inl (0, 108, .inl F5)), (a6, .inl (0, 108, .inl F6))]) rfl ?_
                      refine r_iadd d_Fz_pass_110 (v := ((upd (exS F1 i (i + 12) (F6 i) (exS F1 i (i + 1) (F5 i) (gnS F1 F5 F6 (fa_fill (fun _ => 0) F2 108) i))) i (((exS F1 i (i + 12) (F6 i) (exS F1 i (i + 1) (F5 i) (gnS F1 F5 F6 (fa_fill (fun _ => 0) F2 108) i))) i) + (flS F1 i))) i) + (flS F1 i)) rfl ?_
                      refine r_iast d_Fz_pass_111 (q0 := 2) rfl (vp_in_nI (by omega) (by omega)) (f' := upd (upd (exS F1 i (i + 12) (F6 i) (exS F1 i (i + 1) (F5 i) (gnS F1 F5 F6 (fa_fill (fun _ => 0) F2 108) i))) i (((exS F1 i (i + 12) (F6 i) (exS F1 i (i + 1) (F5 i) (gnS F1 F5 F6 (fa_fill (fun _ => 0) F2 108) i))) i) + (flS F1 i))) i (((upd (exS F1 i (i + 12) (F6 i) (exS F1 i (i + 1) (F5 i) (gnS F1 F5 F6 (fa_fill (fun _ => 0) F2 108) i))) i (((exS F1 i (i + 12) (F6 i) (exS F1 i (i + 1) (F5 i) (gnS F1 F5 F6 (fa_fill (fun _ => 0) F2 108) i))) i) + (flS F1 i))) i) + (flS F1 i))) (by rw [nI_clamp (by omega)]) (cs' := [(a, .inr (2, [.ref a1, .ref a2, .ref a3, .ref a4, .ref a5, .ref a6, .int liq])), (a1, .inl (0, 108, .inl F1)), (a2, .inl (0, 108, .inl (upd (upd (exS F1 i (i + 12) (F6 i) (exS F1 i (i + 1) (F5 i) (gnS F1 F5 F6 (fa_fill (fun _ => 0) F2 108) i))) i (((exS F1 i (i + 12) (F6 i) (exS F1 i (i + 1) (F5 i) (gnS F1 F5 F6 (fa_fill (fun _ => 0) F2 108) i))) i) + (flS F1 i))) i (((upd (exS F1 i (i + 12) (F6 i) (exS F1 i (i + 1) (F5 i) (gnS F1 F5 F6 (fa_fill (fun _ => 0) F2 108) i))) i (((exS F1 i (i + 12) (F6 i) (exS F1 i (i + 1) (F5 i) (gnS F1 F5 F6 (fa_fill (fun _ => 0) F2 108) i))) i) + (flS F1 i))) i) + (flS F1 i))))), (a3, .inl (0, 108, .inl F3)), (a4, .inl (0, 108, .inl F4)), (a5, .inl (0, 108, .inl F5)), (a6, .inl (0, 108, .inl F6))]) rfl ?_
                      refine r_iinc (lv' := [(2, .int (nI (i + 1))), (3, .int (nI (i % 12))), (0, .ref a), (1, .int st)]) (v := nI (i + 1)) d_Fz_pass_112 (j := 1) rfl (nI_add _ _) (by decide) rfl ?_
                      refine r_goto (tgt := 10) d_Fz_pass_115 (by decide) ?_
                      refine r_lv (lv' := [(2, .int (nI (i + 1))), (0, .ref a), (1, .int st)]) [0, 2, 3] rfl ?_
                      refine r_lvE (lv2 := [(2, .int (nI (i + 1))), (0, .ref a), (1, .int st)]) (rfl) ?_
                      refine r_cs (cs2 := [(a, .inr (2, [.ref a1, .ref a2, .ref a3, .ref a4, .ref a5, .ref a6, .int liq])), (a1, .inl (0, 108, .inl F1)), (a2, .inl (0, 108, .inl (gnS F1 F5 F6 (fa_fill (fun _ => 0) F2 108) (i + 1)))), (a3, .inl (0, 108, .inl F3)), (a4, .inl (0, 108, .inl F4)), (a5, .inl (0, 108, .inl F5)), (a6, .inl (0, 108, .inl F6))]) (by simp only [gnS, psA, psB, psC, psD, qa, qb, qc, qd, if_true, if_false]) ?_
                      exact ih (i + 1) (by omega) (by omega)
                  · have q1 := z_nlt (b := 12) (by decide) (by omega) c_89
                    refine r_iload_n d_Fz_pass_92 rfl 1 rfl ?_
                    refine r_bipush d_Fz_pass_93 (v := 96) (by decide) ?_
                    refine r_icmp_lt (tgt := 112) d_Fz_pass_95 (by decide) (fun c_95 => ?_) (fun c_95 => ?_)
                    · have q2 := z_lt (b := 96) (by decide) (by omega) c_95
                      have qd : ¬ (i < 12 ∨ 96 ≤ i) := by omega
                      refine r_iinc (lv' := [(2, .int (nI (i + 1))), (3, .int (nI (i % 12))), (0, .ref a), (1, .int st)]) (v := nI (i + 1)) d_Fz_pass_112 (j := 1) rfl (nI_add _ _) (by decide) rfl ?_
                      refine r_goto (tgt := 10) d_Fz_pass_115 (by decide) ?_
                      refine r_lv (lv' := [(2, .int (nI (i + 1))), (0, .ref a), (1, .int st)]) [0, 2, 3] rfl ?_
                      refine r_lvE (lv2 := [(2, .int (nI (i + 1))), (0, .ref a), (1, .int st)]) (rfl) ?_
                      refine r_cs (cs2 := [(a, .inr (2, [.ref a1, .ref a2, .ref a3, .ref a4, .ref a5, .ref a6, .int liq])), (a1, .inl (0, 108, .inl F1)), (a2, .inl (0, 108, .inl (gnS F1 F5 F6 (fa_fill (fun _ => 0) F2 108) (i + 1)))), (a3, .inl (0, 108, .inl F3)), (a4, .inl (0, 108, .inl F4)), (a5, .inl (0, 108, .inl F5)), (a6, .inl (0, 108, .inl F6))]) (by simp only [gnS, psA, psB, psC, psD, qa, qb, qc, qd, if_true, if_false]) ?_
                      exact ih (i + 1) (by omega) (by omega)
                    · have qd : i < 12 ∨ 96 ≤ i := Or.inr (z_nlt (b := 96) (by decide) (by omega) c_95)
                      refine r_aload_n d_Fz_pass_98 rfl 2 rfl ?_
                      refine r_get fs_Fz_15 d_Fz_pass_99 (q0 := 0) rfl rfl ?_
                      refine r_iload_n d_Fz_pass_102 rfl 1 rfl ?_
                      refine r_dup2_11 d_Fz_pass_103 rfl rfl ?_
                      refine r_iald d_Fz_pass_104 (q0 := 2) rfl (vp_in_nI (by omega) (by omega)) (v := (upd (exS F1 i (i + 12) (F6 i) (exS F1 i (i + 1) (F5 i) (gnS F1 F5 F6 (fa_fill (fun _ => 0) F2 108) i))) i (((exS F1 i (i + 12) (F6 i) (exS F1 i (i + 1) (F5 i) (gnS F1 F5 F6 (fa_fill (fun _ => 0) F2 108) i))) i) + (flS F1 i))) i) (by rw [nI_clamp (by omega)]) ?_
                      refine r_aload_n d_Fz_pass_105 rfl 2 rfl ?_
                      refine r_iload_n d_Fz_pass_106 rfl 1 rfl ?_
                      refine r_callV (As := [.int (nI i)]) (rest := [.int ((upd (exS F1 i (i + 12) (F6 i) (exS F1 i (i + 1) (F5 i) (gnS F1 F5 F6 (fa_fill (fun _ => 0) F2 108) i))) i (((exS F1 i (i + 12) (F6 i) (exS F1 i (i + 1) (F5 i) (gnS F1 F5 F6 (fa_fill (fun _ => 0) F2 108) i))) i) + (flS F1 i))) i), .int (nI i), .ref a2]) (csC := [(a, .inr (2, [.ref a1, .ref a2, .ref a3, .ref a4, .ref a5, .ref a6, .int liq])), (a1, .inl (0, 108, .inl F1)), (a2, .inl (0, 108, .inl (upd (exS F1 i (i + 12) (F6 i) (exS F1 i (i + 1) (F5 i) (gnS F1 F5 F6 (fa_fill (fun _ => 0) F2 108) i))) i (((exS F1 i (i + 12) (F6 i) (exS F1 i (i + 1) (F5 i) (gnS F1 F5 F6 (fa_fill (fun _ => 0) F2 108) i))) i) + (flS F1 i))))), (a3, .inl (0, 108, .inl F3)), (a4, .inl (0, 108, .inl F4)), (a5, .inl (0, 108, .inl F5)), (a6, .inl (0, 108, .inl F6))]) (is := [0, 1, 2, 3, 4, 5, 6]) (q0 := 0) rfl rfl ln_Fz_58 w_im_Fz_flowFromBeyond w_se_Fz_flowFromBeyond ok_Fz_pass_Fz_flowFromBeyond d_Fz_pass_107 (C_Fz_flow g a a1 a2 a3 a4 a5 a6 F1 (upd (exS F1 i (i + 12) (F6 i) (exS F1 i (i + 1) (F5 i) (gnS F1 F5 F6 (fa_fill (fun _ => 0) F2 108) i))) i (((exS F1 i (i + 12) (F6 i) (exS F1 i (i + 1) (F5 i) (gnS F1 F5 F6 (fa_fill (fun _ => 0) F2 108) i))) i) + (flS F1 i))) F3 F4 F5 F6 liq i (by omega)) rfl rfl (Nat.le_of_ble_eq_true rfl) rfl (by decide) (by omega) (by omega) (fun E cs1 hx => ?_) (fun v cs1 hx => ?_)
                      · exact absurd hx.1 (by simp)
                      · obtain ⟨e1, rfl⟩ := hx
                        cases e1
                        refine ⟨rfl, ?_⟩
                        refine r_st (st2 := [.int (flS F1 i), .int ((upd (exS F1 i (i + 12) (F6 i) (exS F1 i (i + 1) (F5 i) (gnS F1 F5 F6 (fa_fill (fun _ => 0) F2 108) i))) i (((exS F1 i (i + 12) (F6 i) (exS F1 i (i + 1) (F5 i) (gnS F1 F5 F6 (fa_fill (fun _ => 0) F2 108) i))) i) + (flS F1 i))) i), .int (nI i), .ref a2]) rfl ?_
                        refine r_cs (cs2 := [(a, .inr (2, [.ref a1, .ref a2, .ref a3, .ref a4, .ref a5, .ref a6, .int liq])), (a1, .inl (0, 108, .inl F1)), (a2, .inl (0, 108, .inl (upd (exS F1 i (i + 12) (F6 i) (exS F1 i (i + 1) (F5 i) (gnS F1 F5 F6 (fa_fill (fun _ => 0) F2 108) i))) i (((exS F1 i (i + 12) (F6 i) (exS F1 i (i + 1) (F5 i) (gnS F1 F5 F6 (fa_fill (fun _ => 0) F2 108) i))) i) + (flS F1 i))))), (a3, .inl (0, 108, .inl F3)), (a4, .inl (0, 108, .inl F4)), (a5, .inl (0, 108, .inl F5)), (a6, .inl (0, 108, .inl F6))]) rfl ?_
                        refine r_iadd d_Fz_pass_110 (v := ((upd (exS F1 i (i + 12) (F6 i) (exS F1 i (i + 1) (F5 i) (gnS F1 F5 F6 (fa_fill (fun _ => 0) F2 108) i))) i (((exS F1 i (i + 12) (F6 i) (exS F1 i (i + 1) (F5 i) (gnS F1 F5 F6 (fa_fill (fun _ => 0) F2 108) i))) i) + (flS F1 i))) i) + (flS F1 i)) rfl ?_
                        refine r_iast d_Fz_pass_111 (q0 := 2) rfl (vp_in_nI (by omega) (by omega)) (f' := upd (upd (exS F1 i (i + 12) (F6 i) (exS F1 i (i + 1) (F5 i) (gnS F1 F5 F6 (fa_fill (fun _ => 0) F2 108) i))) i (((exS F1 i (i + 12) (F6 i) (exS F1 i (i + 1) (F5 i) (gnS F1 F5 F6 (fa_fill (fun _ => 0) F2 108) i))) i) + (flS F1 i))) i (((upd (exS F1 i (i + 12) (F6 i) (exS F1 i (i + 1) (F5 i) (gnS F1 F5 F6 (fa_fill (fun _ => 0) F2 108) i))) i (((exS F1 i (i + 12) (F6 i) (exS F1 i (i + 1) (F5 i) (gnS F1 F5 F6 (fa_fill (fun _ => 0) F2 108) i))) i) + (flS F1 i))) i) + (flS F1 i))) (by rw [nI_clamp (by omega)]) (cs' := [(a, .inr (2, [.ref a1, .ref a2, .ref a3, .ref a4, .ref a5, .ref a6, .int liq])), (a1, .inl (0, 108, .inl F1)), (a2, .inl (0, 108, .inl (upd (upd (exS F1 i (i + 12) (F6 i) (exS F1 i (i + 1) (F5 i) (gnS F1 F5 F6 (fa_fill (fun _ => 0) F2 108) i))) i (((exS F1 i (i + 12) (F6 i) (exS F1 i (i + 1) (F5 i) (gnS F1 F5 F6 (fa_fill (fun _ => 0) F2 108) i))) i) + (flS F1 i))) i (((upd (exS F1 i (i + 12) (F6 i) (exS F1 i (i + 1) (F5 i) (gnS F1 F5 F6 (fa_fill (fun _ => 0) F2 108) i))) i (((exS F1 i (i + 12) (F6 i) (exS F1 i (i + 1) (F5 i) (gnS F1 F5 F6 (fa_fill (fun _ => 0) F2 108) i))) i) + (flS F1 i))) i) + (flS F1 i))))), (a3, .inl (0, 108, .inl F3)), (a4, .inl (0, 108, .inl F4)), (a5, .inl (0, 108, .inl F5)), (a6, .inl (0, 108, .inl F6))]) rfl ?_
                        refine r_iinc (lv' := [(2, .int (nI (i + 1))), (3, .int (nI (i % 12))), (0, .ref a), (1, .int st)]) (v := nI (i + 1)) d_Fz_pass_112 (j := 1) rfl (nI_add _ _) (by decide) rfl ?_
                        refine r_goto (tgt := 10) d_Fz_pass_115 (by decide) ?_
                        refine r_lv (lv' := [(2, .int (nI (i + 1))), (0, .ref a), (1, .int st)]) [0, 2, 3] rfl ?_
                        refine r_lvE (lv2 := [(2, .int (nI (i + 1))), (0, .ref a), (1, .int st)]) (rfl) ?_
                        refine r_cs (cs2 := [(a, .inr (2, [.ref a1, .ref a2, .ref a3, .ref a4, .ref a5, .ref a6, .int liq])), (a1, .inl (0, 108, .inl F1)), (a2, .inl (0, 108, .inl (gnS F1 F5 F6 (fa_fill (fun _ => 0) F2 108) (i + 1)))), (a3, .inl (0, 108, .inl F3)), (a4, .inl (0, 108, .inl F4)), (a5, .inl (0, 108, .inl F5)), (a6, .inl (0, 108, .inl F6))]) (by simp only [gnS, psA, psB, psC, psD, qa, qb, qc, qd, if_true, if_false]) ?_
                        exact ih (i + 1) (by omega) (by omega)
              · have q0 : ¬ i % 12 = 0 := z_nen (b := 0) (by omega) (by decide) c_63
                refine r_iload_n d_Fz_pass_66 rfl 0 rfl ?_
                refine r_bipush d_Fz_pass_67 (v := 11) (by decide) ?_
                refine r_icmp_ne (tgt := 86) d_Fz_pass_69 (by decide) (fun c_69 => ?_) (fun c_69 => ?_)
                · have qc : ¬ (i % 12 = 0 ∨ i % 12 = 11) := fun h => h.elim q0 (z_nen (b := 11) (by omega) (by decide) c_69)
                  refine r_iload_n d_Fz_pass_86 rfl 1 rfl ?_
                  refine r_bipush d_Fz_pass_87 (v := 12) (by decide) ?_
                  refine r_icmp_lt (tgt := 98) d_Fz_pass_89 (by decide) (fun c_89 => ?_) (fun c_89 => ?_)
                  · have qd : i < 12 ∨ 96 ≤ i := Or.inl (z_lt (b := 12) (by decide) (by omega) c_89)
                    refine r_aload_n d_Fz_pass_98 rfl 2 rfl ?_
                    refine r_get fs_Fz_15 d_Fz_pass_99 (q0 := 0) rfl rfl ?_
                    refine r_iload_n d_Fz_pass_102 rfl 1 rfl ?_
                    refine r_dup2_11 d_Fz_pass_103 rfl rfl ?_
                    refine r_iald d_Fz_pass_104 (q0 := 2) rfl (vp_in_nI (by omega) (by omega)) (v := (exS F1 i (i + 12) (F6 i) (exS F1 i (i + 1) (F5 i) (gnS F1 F5 F6 (fa_fill (fun _ => 0) F2 108) i))) i) (by rw [nI_clamp (by omega)]) ?_
                    refine r_aload_n d_Fz_pass_105 rfl 2 rfl ?_
                    refine r_iload_n d_Fz_pass_106 rfl 1 rfl ?_
                    refine r_callV (As := [.int (nI i)]) (rest := [.int ((exS F1 i (i + 12) (F6 i) (exS F1 i (i + 1) (F5 i) (gnS F1 F5 F6 (fa_fill (fun _ => 0) F2 108) i))) i), .int (nI i), .ref a2]) (csC := [(a, .inr (2, [.ref a1, .ref a2, .ref a3, .ref a4, .ref a5, .ref a6, .int liq])), (a1, .inl (0, 108, .inl F1)), (a2, .inl (0, 108, .inl (exS F1 i (i + 12) (F6 i) (exS F1 i (i + 1) (F5 i) (gnS F1 F5 F6 (fa_fill (fun _ => 0) F2 108) i))))), (a3, .inl (0, 108, .inl F3)), (a4, .inl (0, 108, .inl F4)), (a5, .inl (0, 108, .inl F5)), (a6, .inl (0, 108, .inl F6))]) (is := [0, 1, 2, 3, 4, 5, 6]) (q0 := 0) rfl rfl ln_Fz_58 w_im_Fz_flowFromBeyond w_se_Fz_flowFromBeyond ok_Fz_pass_Fz_flowFromBeyond d_Fz_pass_107 (C_Fz_flow g a a1 a2 a3 a4 a5 a6 F1 (exS F1 i (i + 12) (F6 i) (exS F1 i (i + 1) (F5 i) (gnS F1 F5 F6 (fa_fill (fun _ => 0) F2 108) i))) F3 F4 F5 F6 liq i (by omega)) rfl rfl (Nat.le_of_ble_eq_true rfl) rfl (by decide) (by omega) (by omega) (fun E cs1 hx => ?_) (fun v cs1 hx => ?_)
                    · exact absurd hx.1 (by simp)
                    · obtain ⟨e1, rfl⟩ := hx
                      cases e1
                      refine ⟨rfl, ?_⟩
                      refine r_st (st2 := [.int (flS F1 i), .int ((exS F1 i (i + 12) (F6 i) (exS F1 i (i + 1) (F5 i) (gnS F1 F5 F6 (fa_fill (fun _ => 0) F2 108) i))) i), .int (nI i), .ref a2]) rfl ?_
                      refine r_cs (cs2 := [(a, .inr (2, [.ref a1, .ref a2, .ref a3, .ref a4, .ref a5, .ref a6, .int liq])), (a1, .inl (0, 108, .inl F1)), (a2, .inl (0, 108, .inl (exS F1 i (i + 12) (F6 i) (exS F1 i (i + 1) (F5 i) (gnS F1 F5 F6 (fa_fill (fun _ => 0) F2 108) i))))), (a3, .inl (0, 108, .inl F3)), (a4, .inl (0, 108, .inl F4)), (a5, .inl (0, 108, .inl F5)), (a6, .inl (0, 108, .inl F6))]) rfl ?_
                      refine r_iadd d_Fz_pass_110 (v := ((exS F1 i (i + 12) (F6 i) (exS F1 i (i + 1) (F5 i) (gnS F1 F5 F6 (fa_fill (fun _ => 0) F2 108) i))) i) + (flS F1 i)) rfl ?_
                      refine r_iast d_Fz_pass_111 (q0 := 2) rfl (vp_in_nI (by omega) (by omega)) (f' := upd (exS F1 i (i + 12) (F6 i) (exS F1 i (i + 1) (F5 i) (gnS F1 F5 F6 (fa_fill (fun _ => 0) F2 108) i))) i (((exS F1 i (i + 12) (F6 i) (exS F1 i (i + 1) (F5 i) (gnS F1 F5 F6 (fa_fill (fun _ => 0) F2 108) i))) i) + (flS F1 i))) (by rw [nI_clamp (by omega)]) (cs' := [(a, .inr (2, [.ref a1, .ref a2, .ref a3, .ref a4, .ref a5, .ref a6, .int liq])), (a1, .inl (0, 108, .inl F1)), (a2, .inl (0, 108, .inl (upd (exS F1 i (i + 12) (F6 i) (exS F1 i (i + 1) (F5 i) (gnS F1 F5 F6 (fa_fill (fun _ => 0) F2 108) i))) i (((exS F1 i (i + 12) (F6 i) (exS F1 i (i + 1) (F5 i) (gnS F1 F5 F6 (fa_fill (fun _ => 0) F2 108) i))) i) + (flS F1 i))))), (a3, .inl (0, 108, .inl F3)), (a4, .inl (0, 108, .inl F4)), (a5, .inl (0, 108, .inl F5)), (a6, .inl (0, 108, .inl F6))]) rfl ?_
                      refine r_iinc (lv' := [(2, .int (nI (i + 1))), (3, .int (nI (i % 12))), (0, .ref a), (1, .int st)]) (v := nI (i + 1)) d_Fz_pass_112 (j := 1) rfl (nI_add _ _) (by decide) rfl ?_
                      refine r_goto (tgt := 10) d_Fz_pass_115 (by decide) ?_
                      refine r_lv (lv' := [(2, .int (nI (i + 1))), (0, .ref a), (1, .int st)]) [0, 2, 3] rfl ?_
                      refine r_lvE (lv2 := [(2, .int (nI (i + 1))), (0, .ref a), (1, .int st)]) (rfl) ?_
                      refine r_cs (cs2 := [(a, .inr (2, [.ref a1, .ref a2, .ref a3, .ref a4, .ref a5, .ref a6, .int liq])), (a1, .inl (0, 108, .inl F1)), (a2, .inl (0, 108, .inl (gnS F1 F5 F6 (fa_fill (fun _ => 0) F2 108) (i + 1)))), (a3, .inl (0, 108, .inl F3)), (a4, .inl (0, 108, .inl F4)), (a5, .inl (0, 108, .inl F5)), (a6, .inl (0, 108, .inl F6))]) (by simp only [gnS, psA, psB, psC, psD, qa, qb, qc, qd, if_true, if_false]) ?_
                      exact ih (i + 1) (by omega) (by omega)
                  · have q1 := z_nlt (b := 12) (by decide) (by omega) c_89
                    refine r_iload_n d_Fz_pass_92 rfl 1 rfl ?_
                    refine r_bipush d_Fz_pass_93 (v := 96) (by decide) ?_
                    refine r_icmp_lt (tgt := 112) d_Fz_pass_95 (by decide) (fun c_95 => ?_) (fun c_95 => ?_)
                    · have q2 := z_lt (b := 96) (by decide) (by omega) c_95
                      have qd : ¬ (i < 12 ∨ 96 ≤ i) := by omega
                      refine r_iinc (lv' := [(2, .int (nI (i + 1))), (3, .int (nI (i % 12))), (0, .ref a), (1, .int st)]) (v := nI (i + 1)) d_Fz_pass_112 (j := 1) rfl (nI_add _ _) (by decide) rfl ?_
                      refine r_goto (tgt := 10) d_Fz_pass_115 (by decide) ?_
                      refine r_lv (lv' := [(2, .int (nI (i + 1))), (0, .ref a), (1, .int st)]) [0, 2, 3] rfl ?_
                      refine r_lvE (lv2 := [(2, .int (nI (i + 1))), (0, .ref a), (1, .int st)]) (rfl) ?_
                      refine r_cs (cs2 := [(a, .inr (2, [.ref a1, .ref a2, .ref a3, .ref a4, .ref a5, .ref a6, .int liq])), (a1, .inl (0, 108, .inl F1)), (a2, .inl (0, 108, .inl (gnS F1 F5 F6 (fa_fill (fun _ => 0) F2 108) (i + 1)))), (a3, .inl (0, 108, .inl F3)), (a4, .inl (0, 108, .inl F4)), (a5, .inl (0, 108, .inl F5)), (a6, .inl (0, 108, .inl F6))]) (by simp only [gnS, psA, psB, psC, psD, qa, qb, qc, qd, if_true, if_false]) ?_
                      exact ih (i + 1) (by omega) (by omega)
                    · have qd : i < 12 ∨ 96 ≤ i := Or.inr (z_nlt (b := 96) (by decide) (by omega) c_95)
                      refine r_aload_n d_Fz_pass_98 rfl 2 rfl ?_
                      refine r_get fs_Fz_15 d_Fz_pass_99 (q0 := 0) rfl rfl ?_
                      refine r_iload_n d_Fz_pass_102 rfl 1 rfl ?_
                      refine r_dup2_11 d_Fz_pass_103 rfl rfl ?_
                      refine r_iald d_Fz_pass_104 (q0 := 2) rfl (vp_in_nI (by omega) (by omega)) (v := (exS F1 i (i + 12) (F6 i) (exS F1 i (i + 1) (F5 i) (gnS F1 F5 F6 (fa_fill (fun _ => 0) F2 108) i))) i) (by rw [nI_clamp (by omega)]) ?_
                      refine r_aload_n d_Fz_pass_105 rfl 2 rfl ?_
                      refine r_iload_n d_Fz_pass_106 rfl 1 rfl ?_
                      refine r_callV (As := [.int (nI i)]) (rest := [.int ((exS F1 i (i + 12) (F6 i) (exS F1 i (i + 1) (F5 i) (gnS F1 F5 F6 (fa_fill (fun _ => 0) F2 108) i))) i), .int (nI i), .ref a2]) (csC := [(a, .inr (2, [.ref a1, .ref a2, .ref a3, .ref a4, .ref a5, .ref a6, .int liq])), (a1, .inl (0, 108, .inl F1)), (a2, .inl (0, 108, .inl (exS F1 i (i + 12) (F6 i) (exS F1 i (i + 1) (F5 i) (gnS F1 F5 F6 (fa_fill (fun _ => 0) F2 108) i))))), (a3, .inl (0, 108, .inl F3)), (a4, .inl (0, 108, .inl F4)), (a5, .inl (0, 108, .inl F5)), (a6, .inl (0, 108, .inl F6))]) (is := [0, 1, 2, 3, 4, 5, 6]) (q0 := 0) rfl rfl ln_Fz_58 w_im_Fz_flowFromBeyond w_se_Fz_flowFromBeyond ok_Fz_pass_Fz_flowFromBeyond d_Fz_pass_107 (C_Fz_flow g a a1 a2 a3 a4 a5 a6 F1 (exS F1 i (i + 12) (F6 i) (exS F1 i (i + 1) (F5 i) (gnS F1 F5 F6 (fa_fill (fun _ => 0) F2 108) i))) F3 F4 F5 F6 liq i (by omega)) rfl rfl (Nat.le_of_ble_eq_true rfl) rfl (by decide) (by omega) (by omega) (fun E cs1 hx => ?_) (fun v cs1 hx => ?_)
                      · exact absurd hx.1 (by simp)
                      · obtain ⟨e1, rfl⟩ := hx
                        cases e1
                        refine ⟨rfl, ?_⟩
                        refine r_st (st2 := [.int (flS F1 i), .int ((exS F1 i (i + 12) (F6 i) (exS F1 i (i + 1) (F5 i) (gnS F1 F5 F6 (fa_fill (fun _ => 0) F2 108) i))) i), .int (nI i), .ref a2]) rfl ?_
                        refine r_cs (cs2 := [(a, .inr (2, [.ref a1, .ref a2, .ref a3, .ref a4, .ref a5, .ref a6, .int liq])), (a1, .inl (0, 108, .inl F1)), (a2, .inl (0, 108, .inl (exS F1 i (i + 12) (F6 i) (exS F1 i (i + 1) (F5 i) (gnS F1 F5 F6 (fa_fill (fun _ => 0) F2 108) i))))), (a3, .inl (0, 108, .inl F3)), (a4, .inl (0, 108, .inl F4)), (a5, .inl (0, 108, .inl F5)), (a6, .inl (0, 108, .inl F6))]) rfl ?_
                        refine r_iadd d_Fz_pass_110 (v := ((exS F1 i (i + 12) (F6 i) (exS F1 i (i + 1) (F5 i) (gnS F1 F5 F6 (fa_fill (fun _ => 0) F2 108) i))) i) + (flS F1 i)) rfl ?_
                        refine r_iast d_Fz_pass_111 (q0 := 2) rfl (vp_in_nI (by omega) (by omega)) (f' := upd (exS F1 i (i + 12) (F6 i) (exS F1 i (i + 1) (F5 i) (gnS F1 F5 F6 (fa_fill (fun _ => 0) F2 108) i))) i (((exS F1 i (i + 12) (F6 i) (exS F1 i (i + 1) (F5 i) (gnS F1 F5 F6 (fa_fill (fun _ => 0) F2 108) i))) i) + (flS F1 i))) (by rw [nI_clamp (by omega)]) (cs' := [(a, .inr (2, [.ref a1, .ref a2, .ref a3, .ref a4, .ref a5, .ref a6, .int liq])), (a1, .inl (0, 108, .inl F1)), (a2, .inl (0, 108, .inl (upd (exS F1 i (i + 12) (F6 i) (exS F1 i (i + 1) (F5 i) (gnS F1 F5 F6 (fa_fill (fun _ => 0) F2 108) i))) i (((exS F1 i (i + 12) (F6 i) (exS F1 i (i + 1) (F5 i) (gnS F1 F5 F6 (fa_fill (fun _ => 0) F2 108) i))) i) + (flS F1 i))))), (a3, .inl (0, 108, .inl F3)), (a4, .inl (0, 108, .inl F4)), (a5, .inl (0, 108, .inl F5)), (a6, .inl (0, 108, .inl F6))]) rfl ?_
                        refine r_iinc (lv' := [(2, .int (nI (i + 1))), (3, .int (nI (i % 12))), (0, .ref a), (1, .int st)]) (v := nI (i + 1)) d_Fz_pass_112 (j := 1) rfl (nI_add _ _) (by decide) rfl ?_
                        refine r_goto (tgt := 10) d_Fz_pass_115 (by decide) ?_
                        refine r_lv (lv' := [(2, .int (nI (i + 1))), (0, .ref a), (1, .int st)]) [0, 2, 3] rfl ?_
                        refine r_lvE (lv2 := [(2, .int (nI (i + 1))), (0, .ref a), (1, .int st)]) (rfl) ?_
                        refine r_cs (cs2 := [(a, .inr (2, [.ref a1, .ref a2, .ref a3, .ref a4, .ref a5, .ref a6, .int liq])), (a1, .inl (0, 108, .inl F1)), (a2, .inl (0, 108, .inl (gnS F1 F5 F6 (fa_fill (fun _ => 0) F2 108) (i + 1)))), (a3, .inl (0, 108, .inl F3)), (a4, .inl (0, 108, .inl F4)), (a5, .inl (0, 108, .inl F5)), (a6, .inl (0, 108, .inl F6))]) (by simp only [gnS, psA, psB, psC, psD, qa, qb, qc, qd, if_true, if_false]) ?_
                        exact ih (i + 1) (by omega) (by omega)
                · have qc : i % 12 = 0 ∨ i % 12 = 11 := Or.inr (z_eqn (b := 11) (by omega) (by decide) c_69)
                  refine r_aload_n d_Fz_pass_72 rfl 2 rfl ?_
                  refine r_get fs_Fz_15 d_Fz_pass_73 (q0 := 0) rfl rfl ?_
                  refine r_iload_n d_Fz_pass_76 rfl 1 rfl ?_
                  refine r_dup2_11 d_Fz_pass_77 rfl rfl ?_
                  refine r_iald d_Fz_pass_78 (q0 := 2) rfl (vp_in_nI (by omega) (by omega)) (v := (exS F1 i (i + 12) (F6 i) (exS F1 i (i + 1) (F5 i) (gnS F1 F5 F6 (fa_fill (fun _ => 0) F2 108) i))) i) (by rw [nI_clamp (by omega)]) ?_
                  refine r_aload_n d_Fz_pass_79 rfl 2 rfl ?_
                  refine r_iload_n d_Fz_pass_80 rfl 1 rfl ?_
                  refine r_callV (As := [.int (nI i)]) (rest := [.int ((exS F1 i (i + 12) (F6 i) (exS F1 i (i + 1) (F5 i) (gnS F1 F5 F6 (fa_fill (fun _ => 0) F2 108) i))) i), .int (nI i), .ref a2]) (csC := [(a, .inr (2, [.ref a1, .ref a2, .ref a3, .ref a4, .ref a5, .ref a6, .int liq])), (a1, .inl (0, 108, .inl F1)), (a2, .inl (0, 108, .inl (exS F1 i (i + 12) (F6 i) (exS F1 i (i + 1) (F5 i) (gnS F1 F5 F6 (fa_fill (fun _ => 0) F2 108) i))))), (a3, .inl (0, 108, .inl F3)), (a4, .inl (0, 108, .inl F4)), (a5, .inl (0, 108, .inl F5)), (a6, .inl (0, 108, .inl F6))]) (is := [0, 1, 2, 3, 4, 5, 6]) (q0 := 0) rfl rfl ln_Fz_58 w_im_Fz_flowFromBeyond w_se_Fz_flowFromBeyond ok_Fz_pass_Fz_flowFromBeyond d_Fz_pass_81 (C_Fz_flow g a a1 a2 a3 a4 a5 a6 F1 (exS F1 i (i + 12) (F6 i) (exS F1 i (i + 1) (F5 i) (gnS F1 F5 F6 (fa_fill (fun _ => 0) F2 108) i))) F3 F4 F5 F6 liq i (by omega)) rfl rfl (Nat.le_of_ble_eq_true rfl) rfl (by decide) (by omega) (by omega) (fun E cs1 hx => ?_) (fun v cs1 hx => ?_)
                  · exact absurd hx.1 (by simp)
                  · obtain ⟨e1, rfl⟩ := hx
                    cases e1
                    refine ⟨rfl, ?_⟩
                    refine r_st (st2 := [.int (flS F1 i), .int ((exS F1 i (i + 12) (F6 i) (exS F1 i (i + 1) (F5 i) (gnS F1 F5 F6 (fa_fill (fun _ => 0) F2 108) i))) i), .int (nI i), .ref a2]) rfl ?_
                    refine r_cs (cs2 := [(a, .inr (2, [.ref a1, .ref a2, .ref a3, .ref a4, .ref a5, .ref a6, .int liq])), (a1, .inl (0, 108, .inl F1)), (a2, .inl (0, 108, .inl (exS F1 i (i + 12) (F6 i) (exS F1 i (i + 1) (F5 i) (gnS F1 F5 F6 (fa_fill (fun _ => 0) F2 108) i))))), (a3, .inl (0, 108, .inl F3)), (a4, .inl (0, 108, .inl F4)), (a5, .inl (0, 108, .inl F5)), (a6, .inl (0, 108, .inl F6))]) rfl ?_
                    refine r_iadd d_Fz_pass_84 (v := ((exS F1 i (i + 12) (F6 i) (exS F1 i (i + 1) (F5 i) (gnS F1 F5 F6 (fa_fill (fun _ => 0) F2 108) i))) i) + (flS F1 i)) rfl ?_
                    refine r_iast d_Fz_pass_85 (q0 := 2) rfl (vp_in_nI (by omega) (by omega)) (f' := upd (exS F1 i (i + 12) (F6 i) (exS F1 i (i + 1) (F5 i) (gnS F1 F5 F6 (fa_fill (fun _ => 0) F2 108) i))) i (((exS F1 i (i + 12) (F6 i) (exS F1 i (i + 1) (F5 i) (gnS F1 F5 F6 (fa_fill (fun _ => 0) F2 108) i))) i) + (flS F1 i))) (by rw [nI_clamp (by omega)]) (cs' := [(a, .inr (2, [.ref a1, .ref a2, .ref a3, .ref a4, .ref a5, .ref a6, .int liq])), (a1, .inl (0, 108, .inl F1)), (a2, .inl (0, 108, .inl (upd (exS F1 i (i + 12) (F6 i) (exS F1 i (i + 1) (F5 i) (gnS F1 F5 F6 (fa_fill (fun _ => 0) F2 108) i))) i (((exS F1 i (i + 12) (F6 i) (exS F1 i (i + 1) (F5 i) (gnS F1 F5 F6 (fa_fill (fun _ => 0) F2 108) i))) i) + (flS F1 i))))), (a3, .inl (0, 108, .inl F3)), (a4, .inl (0, 108, .inl F4)), (a5, .inl (0, 108, .inl F5)), (a6, .inl (0, 108, .inl F6))]) rfl ?_
                    refine r_iload_n d_Fz_pass_86 rfl 1 rfl ?_
                    refine r_bipush d_Fz_pass_87 (v := 12) (by decide) ?_
                    refine r_icmp_lt (tgt := 98) d_Fz_pass_89 (by decide) (fun c_89 => ?_) (fun c_89 => ?_)
                    · have qd : i < 12 ∨ 96 ≤ i := Or.inl (z_lt (b := 12) (by decide) (by omega) c_89)
                      refine r_aload_n d_Fz_pass_98 rfl 2 rfl ?_
                      refine r_get fs_Fz_15 d_Fz_pass_99 (q0 := 0) rfl rfl ?_
                      refine r_iload_n d_Fz_pass_102 rfl 1 rfl ?_
                      refine r_dup2_11 d_Fz_pass_103 rfl rfl ?_
                      refine r_iald d_Fz_pass_104 (q0 := 2) rfl (vp_in_nI (by omega) (by omega)) (v := (upd (exS F1 i (i + 12) (F6 i) (exS F1 i (i + 1) (F5 i) (gnS F1 F5 F6 (fa_fill (fun _ => 0) F2 108) i))) i (((exS F1 i (i + 12) (F6 i) (exS F1 i (i + 1) (F5 i) (gnS F1 F5 F6 (fa_fill (fun _ => 0) F2 108) i))) i) + (flS F1 i))) i) (by rw [nI_clamp (by omega)]) ?_
                      refine r_aload_n d_Fz_pass_105 rfl 2 rfl ?_
                      refine r_iload_n d_Fz_pass_106 rfl 1 rfl ?_
                      refine r_callV (As := [.int (nI i)]) (rest := [.int ((upd (exS F1 i (i + 12) (F6 i) (exS F1 i (i + 1) (F5 i) (gnS F1 F5 F6 (fa_fill (fun _ => 0) F2 108) i))) i (((exS F1 i (i + 12) (F6 i) (exS F1 i (i + 1) (F5 i) (gnS F1 F5 F6 (fa_fill (fun _ => 0) F2 108) i))) i) + (flS F1 i))) i), .int (nI i), .ref a2]) (csC := [(a, .inr (2, [.ref a1, .ref a2, .ref a3, .ref a4, .ref a5, .ref a6, .int liq])), (a1, .inl (0, 108, .inl F1)), (a2, .inl (0, 108, .inl (upd (exS F1 i (i + 12) (F6 i) (exS F1 i (i + 1) (F5 i) (gnS F1 F5 F6 (fa_fill (fun _ => 0) F2 108) i))) i (((exS F1 i (i + 12) (F6 i) (exS F1 i (i + 1) (F5 i) (gnS F1 F5 F6 (fa_fill (fun _ => 0) F2 108) i))) i) + (flS F1 i))))), (a3, .inl (0, 108, .inl F3)), (a4, .inl (0, 108, .inl F4)), (a5, .inl (0, 108, .inl F5)), (a6, .inl (0, 108, .inl F6))]) (is := [0, 1, 2, 3, 4, 5, 6]) (q0 := 0) rfl rfl ln_Fz_58 w_im_Fz_flowFromBeyond w_se_Fz_flowFromBeyond ok_Fz_pass_Fz_flowFromBeyond d_Fz_pass_107 (C_Fz_flow g a a1 a2 a3 a4 a5 a6 F1 (upd (exS F1 i (i + 12) (F6 i) (exS F1 i (i + 1) (F5 i) (gnS F1 F5 F6 (fa_fill (fun _ => 0) F2 108) i))) i (((exS F1 i (i + 12) (F6 i) (exS F1 i (i + 1) (F5 i) (gnS F1 F5 F6 (fa_fill (fun _ => 0) F2 108) i))) i) + (flS F1 i))) F3 F4 F5 F6 liq i (by omega)) rfl rfl (Nat.le_of_ble_eq_true rfl) rfl (by decide) (by omega) (by omega) (fun E cs1 hx => ?_) (fun v cs1 hx => ?_)
                      · exact absurd hx.1 (by simp)
                      · obtain ⟨e1, rfl⟩ := hx
                        cases e1
                        refine ⟨rfl, ?_⟩
                        refine r_st (st2 := [.int (flS F1 i), .int ((upd (exS F1 i (i + 12) (F6 i) (exS F1 i (i + 1) (F5 i) (gnS F1 F5 F6 (fa_fill (fun _ => 0) F2 108) i))) i (((exS F1 i (i + 12) (F6 i) (exS F1 i (i + 1) (F5 i) (gnS F1 F5 F6 (fa_fill (fun _ => 0) F2 108) i))) i) + (flS F1 i))) i), .int (nI i), .ref a2]) rfl ?_
                        refine r_cs (cs2 := [(a, .inr (2, [.ref a1, .ref a2, .ref a3, .ref a4, .ref a5, .ref a6, .int liq])), (a1, .inl (0, 108, .inl F1)), (a2, .inl (0, 108, .inl (upd (exS F1 i (i + 12) (F6 i) (exS F1 i (i + 1) (F5 i) (gnS F1 F5 F6 (fa_fill (fun _ => 0) F2 108) i))) i (((exS F1 i (i + 12) (F6 i) (exS F1 i (i + 1) (F5 i) (gnS F1 F5 F6 (fa_fill (fun _ => 0) F2 108) i))) i) + (flS F1 i))))), (a3, .inl (0, 108, .inl F3)), (a4, .inl (0, 108, .inl F4)), (a5, .inl (0, 108, .inl F5)), (a6, .inl (0, 108, .inl F6))]) rfl ?_
                        refine r_iadd d_Fz_pass_110 (v := ((upd (exS F1 i (i + 12) (F6 i) (exS F1 i (i + 1) (F5 i) (gnS F1 F5 F6 (fa_fill (fun _ => 0) F2 108) i))) i (((exS F1 i (i + 12) (F6 i) (exS F1 i (i + 1) (F5 i) (gnS F1 F5 F6 (fa_fill (fun _ => 0) F2 108) i))) i) + (flS F1 i))) i) + (flS F1 i)) rfl ?_
                        refine r_iast d_Fz_pass_111 (q0 := 2) rfl (vp_in_nI (by omega) (by omega)) (f' := upd (upd (exS F1 i (i + 12) (F6 i) (exS F1 i (i + 1) (F5 i) (gnS F1 F5 F6 (fa_fill (fun _ => 0) F2 108) i))) i (((exS F1 i (i + 12) (F6 i) (exS F1 i (i + 1) (F5 i) (gnS F1 F5 F6 (fa_fill (fun _ => 0) F2 108) i))) i) + (flS F1 i))) i (((upd (exS F1 i (i + 12) (F6 i) (exS F1 i (i + 1) (F5 i) (gnS F1 F5 F6 (fa_fill (fun _ => 0) F2 108) i))) i (((exS F1 i (i + 12) (F6 i) (exS F1 i (i + 1) (F5 i) (gnS F1 F5 F6 (fa_fill (fun _ => 0) F2 108) i))) i) + (flS F1 i))) i) + (flS F1 i))) (by rw [nI_clamp (by omega)]) (cs' := [(a, .inr (2, [.ref a1, .ref a2, .ref a3, .ref a4, .ref a5, .ref a6, .int liq])), (a1, .inl (0, 108, .inl F1)), (a2, .inl (0, 108, .inl (upd (upd (exS F1 i (i + 12) (F6 i) (exS F1 i (i + 1) (F5 i) (gnS F1 F5 F6 (fa_fill (fun _ => 0) F2 108) i))) i (((exS F1 i (i + 12) (F6 i) (exS F1 i (i + 1) (F5 i) (gnS F1 F5 F6 (fa_fill (fun _ => 0) F2 108) i))) i) + (flS F1 i))) i (((upd (exS F1 i (i + 12) (F6 i) (exS F1 i (i + 1) (F5 i) (gnS F1 F5 F6 (fa_fill (fun _ => 0) F2 108) i))) i (((exS F1 i (i + 12) (F6 i) (exS F1 i (i + 1) (F5 i) (gnS F1 F5 F6 (fa_fill (fun _ => 0) F2 108) i))) i) + (flS F1 i))) i) + (flS F1 i))))), (a3, .inl (0, 108, .inl F3)), (a4, .inl (0, 108, .inl F4)), (a5, .inl (0, 108, .inl F5)), (a6, .inl (0, 108, .inl F6))]) rfl ?_
                        refine r_iinc (lv' := [(2, .int (nI (i + 1))), (3, .int (nI (i % 12))), (0, .ref a), (1, .int st)]) (v := nI (i + 1)) d_Fz_pass_112 (j := 1) rfl (nI_add _ _) (by decide) rfl ?_
                        refine r_goto (tgt := 10) d_Fz_pass_115 (by decide) ?_
                        refine r_lv (lv' := [(2, .int (nI (i + 1))), (0, .ref a), (1, .int st)]) [0, 2, 3] rfl ?_
                        refine r_lvE (lv2 := [(2, .int (nI (i + 1))), (0, .ref a), (1, .int st)]) (rfl) ?_
                        refine r_cs (cs2 := [(a, .inr (2, [.ref a1, .ref a2, .ref a3, .ref a4, .ref a5, .ref a6, .int liq])), (a1, .inl (0, 108, .inl F1)), (a2, .inl (0, 108, .inl (gnS F1 F5 F6 (fa_fill (fun _ => 0) F2 108) (i + 1)))), (a3, .inl (0, 108, .inl F3)), (a4, .inl (0, 108, .inl F4)), (a5, .inl (0, 108, .inl F5)), (a6, .inl (0, 108, .inl F6))]) (by simp only [gnS, psA, psB, psC, psD, qa, qb, qc, qd, if_true, if_false]) ?_
                        exact ih (i + 1) (by omega) (by omega)
                    · have q1 := z_nlt (b := 12) (by decide) (by omega) c_89
                      refine r_iload_n d_Fz_pass_92 rfl 1 rfl ?_
                      refine r_bipush d_Fz_pass_93 (v := 96) (by decide) ?_
                      refine r_icmp_lt (tgt := 112) d_Fz_pass_95 (by decide) (fun c_95 => ?_) (fun c_95 => ?_)
                      · have q2 := z_lt (b := 96) (by decide) (by omega) c_95
                        have qd : ¬ (i < 12 ∨ 96 ≤ i) := by omega
                        refine r_iinc (lv' := [(2, .int (nI (i + 1))), (3, .int (nI (i % 12))), (0, .ref a), (1, .int st)]) (v := nI (i + 1)) d_Fz_pass_112 (j := 1) rfl (nI_add _ _) (by decide) rfl ?_
                        refine r_goto (tgt := 10) d_Fz_pass_115 (by decide) ?_
                        refine r_lv (lv' := [(2, .int (nI (i + 1))), (0, .ref a), (1, .int st)]) [0, 2, 3] rfl ?_
                        refine r_lvE (lv2 := [(2, .int (nI (i + 1))), (0, .ref a), (1, .int st)]) (rfl) ?_
                        refine r_cs (cs2 := [(a, .inr (2, [.ref a1, .ref a2, .ref a3, .ref a4, .ref a5, .ref a6, .int liq])), (a1, .inl (0, 108, .inl F1)), (a2, .inl (0, 108, .inl (gnS F1 F5 F6 (fa_fill (fun _ => 0) F2 108) (i + 1)))), (a3, .inl (0, 108, .inl F3)), (a4, .inl (0, 108, .inl F4)), (a5, .inl (0, 108, .inl F5)), (a6, .inl (0, 108, .inl F6))]) (by simp only [gnS, psA, psB, psC, psD, qa, qb, qc, qd, if_true, if_false]) ?_
                        exact ih (i + 1) (by omega) (by omega)
                      · have qd : i < 12 ∨ 96 ≤ i := Or.inr (z_nlt (b := 96) (by decide) (by omega) c_95)
                        refine r_aload_n d_Fz_pass_98 rfl 2 rfl ?_
                        refine r_get fs_Fz_15 d_Fz_pass_99 (q0 := 0) rfl rfl ?_
                        refine r_iload_n d_Fz_pass_102 rfl 1 rfl ?_
                        refine r_dup2_11 d_Fz_pass_103 rfl rfl ?_
                        refine r_iald d_Fz_pass_104 (q0 := 2) rfl (vp_in_nI (by omega) (by omega)) (v := (upd (exS F1 i (i + 12) (F6 i) (exS F1 i (i + 1) (F5 i) (gnS F1 F5 F6 (fa_fill (fun _ => 0) F2 108) i))) i (((exS F1 i (i + 12) (F6 i) (exS F1 i (i + 1) (F5 i) (gnS F1 F5 F6 (fa_fill (fun _ => 0) F2 108) i))) i) + (flS F1 i))) i) (by rw [nI_clamp (by omega)]) ?_
                        refine r_aload_n d_Fz_pass_105 rfl 2 rfl ?_
                        refine r_iload_n d_Fz_pass_106 rfl 1 rfl ?_
                        refine r_callV (As := [.int (nI i)]) (rest := [.int ((upd (exS F1 i (i + 12) (F6 i) (exS F1 i (i + 1) (F5 i) (gnS F1 F5 F6 (fa_fill (fun _ => 0) F2 108) i))) i (((exS F1 i (i + 12) (F6 i) (exS F1 i (i + 1) (F5 i) (gnS F1 F5 F6 (fa_fill (fun _ => 0) F2 108) i))) i) + (flS F1 i))) i), .int (nI i), .ref a2]) (csC := [(a, .inr (2, [.ref a1, .ref a2, .ref a3, .ref a4, .ref a5, .ref a6, .int liq])), (a1, .inl (0, 108, .inl F1)), (a2, .inl (0, 108, .inl (upd (exS F1 i (i + 12) (F6 i) (exS F1 i (i + 1) (F5 i) (gnS F1 F5 F6 (fa_fill (fun _ => 0) F2 108) i))) i (((exS F1 i (i + 12) (F6 i) (exS F1 i (i + 1) (F5 i) (gnS F1 F5 F6 (fa_fill (fun _ => 0) F2 108) i))) i) + (flS F1 i))))), (a3, .inl (0, 108, .inl F3)), (a4, .inl (0, 108, .inl F4)), (a5, .inl (0, 108, .inl F5)), (a6, .inl (0, 108, .inl F6))]) (is := [0, 1, 2, 3, 4, 5, 6]) (q0 := 0) rfl rfl ln_Fz_58 w_im_Fz_flowFromBeyond w_se_Fz_flowFromBeyond ok_Fz_pass_Fz_flowFromBeyond d_Fz_pass_107 (C_Fz_flow g a a1 a2 a3 a4 a5 a6 F1 (upd (exS F1 i (i + 12) (F6 i) (exS F1 i (i + 1) (F5 i) (gnS F1 F5 F6 (fa_fill (fun _ => 0) F2 108) i))) i (((exS F1 i (i + 12) (F6 i) (exS F1 i (i + 1) (F5 i) (gnS F1 F5 F6 (fa_fill (fun _ => 0) F2 108) i))) i) + (flS F1 i))) F3 F4 F5 F6 liq i (by omega)) rfl rfl (Nat.le_of_ble_eq_true rfl) rfl (by decide) (by omega) (by omega) (fun E cs1 hx => ?_) (fun v cs1 hx => ?_)
                        · exact absurd hx.1 (by simp)
                        · obtain ⟨e1, rfl⟩ := hx
                          cases e1
                          refine ⟨rfl, ?_⟩
                          refine r_st (st2 := [.int (flS F1 i), .int ((upd (exS F1 i (i + 12) (F6 i) (exS F1 i (i + 1) (F5 i) (gnS F1 F5 F6 (fa_fill (fun _ => 0) F2 108) i))) i (((exS F1 i (i + 12) (F6 i) (exS F1 i (i + 1) (F5 i) (gnS F1 F5 F6 (fa_fill (fun _ => 0) F2 108) i))) i) + (flS F1 i))) i), .int (nI i), .ref a2]) rfl ?_
                          refine r_cs (cs2 := [(a, .inr (2, [.ref a1, .ref a2, .ref a3, .ref a4, .ref a5, .ref a6, .int liq])), (a1, .inl (0, 108, .inl F1)), (a2, .inl (0, 108, .inl (upd (exS F1 i (i + 12) (F6 i) (exS F1 i (i + 1) (F5 i) (gnS F1 F5 F6 (fa_fill (fun _ => 0) F2 108) i))) i (((exS F1 i (i + 12) (F6 i) (exS F1 i (i + 1) (F5 i) (gnS F1 F5 F6 (fa_fill (fun _ => 0) F2 108) i))) i) + (flS F1 i))))), (a3, .inl (0, 108, .inl F3)), (a4, .inl (0, 108, .inl F4)), (a5, .inl (0, 108, .inl F5)), (a6, .inl (0, 108, .inl F6))]) rfl ?_
                          refine r_iadd d_Fz_pass_110 (v := ((upd (exS F1 i (i + 12) (F6 i) (exS F1 i (i + 1) (F5 i) (gnS F1 F5 F6 (fa_fill (fun _ => 0) F2 108) i))) i (((exS F1 i (i + 12) (F6 i) (exS F1 i (i + 1) (F5 i) (gnS F1 F5 F6 (fa_fill (fun _ => 0) F2 108) i))) i) + (flS F1 i))) i) + (flS F1 i)) rfl ?_
                          refine r_iast d_Fz_pass_111 (q0 := 2) rfl (vp_in_nI (by omega) (by omega)) (f' := upd (upd (exS F1 i (i + 12) (F6 i) (exS F1 i (i + 1) (F5 i) (gnS F1 F5 F6 (fa_fill (fun _ => 0) F2 108) i))) i (((exS F1 i (i + 12) (F6 i) (exS F1 i (i + 1) (F5 i) (gnS F1 F5 F6 (fa_fill (fun _ => 0) F2 108) i))) i) + (flS F1 i))) i (((upd (exS F1 i (i + 12) (F6 i) (exS F1 i (i + 1) (F5 i) (gnS F1 F5 F6 (fa_fill (fun _ => 0) F2 108) i))) i (((exS F1 i (i + 12) (F6 i) (exS F1 i (i + 1) (F5 i) (gnS F1 F5 F6 (fa_fill (fun _ => 0) F2 108) i))) i) + (flS F1 i))) i) + (flS F1 i))) (by rw [nI_clamp (by omega)]) (cs' := [(a, .inr (2, [.ref a1, .ref a2, .ref a3, .ref a4, .ref a5, .ref a6, .int liq])), (a1, .inl (0, 108, .inl F1)), (a2, .inl (0, 108, .inl (upd (upd (exS F1 i (i + 12) (F6 i) (exS F1 i (i + 1) (F5 i) (gnS F1 F5 F6 (fa_fill (fun _ => 0) F2 108) i))) i (((exS F1 i (i + 12) (F6 i) (exS F1 i (i + 1) (F5 i) (gnS F1 F5 F6 (fa_fill (fun _ => 0) F2 108) i))) i) + (flS F1 i))) i (((upd (exS F1 i (i + 12) (F6 i) (exS F1 i (i + 1) (F5 i) (gnS F1 F5 F6 (fa_fill (fun _ => 0) F2 108) i))) i (((exS F1 i (i + 12) (F6 i) (exS F1 i (i + 1) (F5 i) (gnS F1 F5 F6 (fa_fill (fun _ => 0) F2 108) i))) i) + (flS F1 i))) i) + (flS F1 i))))), (a3, .inl (0, 108, .inl F3)), (a4, .inl (0, 108, .inl F4)), (a5, .inl (0, 108, .inl F5)), (a6, .inl (0, 108, .inl F6))]) rfl ?_
                          refine r_iinc (lv' := [(2, .int (nI (i + 1))), (3, .int (nI (i % 12))), (0, .ref a), (1, .int st)]) (v := nI (i + 1)) d_Fz_pass_112 (j := 1) rfl (nI_add _ _) (by decide) rfl ?_
                          refine r_goto (tgt := 10) d_Fz_pass_115 (by decide) ?_
                          refine r_lv (lv' := [(2, .int (nI (i + 1))), (0, .ref a), (1, .int st)]) [0, 2, 3] rfl ?_
                          refine r_lvE (lv2 := [(2, .int (nI (i + 1))), (0, .ref a), (1, .int st)]) (rfl) ?_
                          refine r_cs (cs2 := [(a, .inr (2, [.ref a1, .ref a2, .ref a3, .ref a4, .ref a5, .ref a6, .int liq])), (a1, .inl (0, 108, .inl F1)), (a2, .inl (0, 108, .inl (gnS F1 F5 F6 (fa_fill (fun _ => 0) F2 108) (i + 1)))), (a3, .inl (0, 108, .inl F3)), (a4, .inl (0, 108, .inl F4)), (a5, .inl (0, 108, .inl F5)), (a6, .inl (0, 108, .inl F6))]) (by simp only [gnS, psA, psB, psC, psD, qa, qb, qc, qd, if_true, if_false]) ?_
                          exact ih (i + 1) (by omega) (by omega)
set_option maxHeartbeats 4000000 in
set_option maxRecDepth 100000 in
theorem C_Fz_pass (g : zG) (a a1 a2 a3 a4 a5 a6 : Nat) (F1 F2 F3 F4 F5 F6 : Nat → Int32) (liq : Int32) (st : Int32) : CT g M_Fz_pass [.ref a, .int st] [(a, .inr (2, [.ref a1, .ref a2, .ref a3, .ref a4, .ref a5, .ref a6, .int liq])), (a1, .inl (0, 108, .inl F1)), (a2, .inl (0, 108, .inl F2)), (a3, .inl (0, 108, .inl F3)), (a4, .inl (0, 108, .inl F4)), (a5, .inl (0, 108, .inl F5)), (a6, .inl (0, 108, .inl F6))] (fun o cs1 => o = .inl none ∧ cs1 = [(a, .inr (2, [.ref a1, .ref a2, .ref a3, .ref a4, .ref a5, .ref a6, .int ((stS (gnS F1 F5 F6 (fa_fill (fun _ => 0) F2 108) 108) st (F1, F3, F4, liq) 108).2.2.2)])), (a1, .inl (0, 108, .inl ((stS (gnS F1 F5 F6 (fa_fill (fun _ => 0) F2 108) 108) st (F1, F3, F4, liq) 108).1))), (a2, .inl (0, 108, .inl (gnS F1 F5 F6 (fa_fill (fun _ => 0) F2 108) 108))), (a3, .inl (0, 108, .inl ((stS (gnS F1 F5 F6 (fa_fill (fun _ => 0) F2 108) 108) st (F1, F3, F4, liq) 108).2.1))), (a4, .inl (0, 108, .inl ((stS (gnS F1 F5 F6 (fa_fill (fun _ => 0) F2 108) 108) st (F1, F3, F4, liq) 108).2.2.1))), (a5, .inl (0, 108, .inl F5)), (a6, .inl (0, 108, .inl F6))]) 0 0 := by
  refine z_of (by decide) rfl (Nat.le_of_ble_eq_true rfl) (fun w0 => ?_)
  refine r_lvE (lv2 := [(0, .ref a), (1, .int st)]) rfl ?_
  refine r_aload_n d_Fz_pass_0 rfl 0 rfl ?_
  refine r_get fs_Fz_15 d_Fz_pass_1 (q0 := 0) rfl rfl ?_
  refine r_iconst d_Fz_pass_4 (v := 0) (by decide) ?_
  refine r_callS (As := [.ref a2, .int 0]) (rest := []) (csC := [(a2, .inl (0, 108, .inl F2))]) (is := [2]) ln_Fz_49 w_st_Arrays_fill ok_Fz_pass_Arrays_fill d_Fz_pass_5 (C_Ar_fill g a2 0 F2) rfl rfl (Nat.le_of_ble_eq_true rfl) rfl (by decide) (by omega) (by omega) (fun E cs1 hx => ?_) (fun v cs1 hx => ?_)
  · exact absurd hx.1 (by simp)
  · obtain ⟨e1, rfl⟩ := hx
    cases e1
    refine ⟨rfl, ?_⟩
    refine r_st (st2 := []) rfl ?_
    refine r_cs (cs2 := [(a, .inr (2, [.ref a1, .ref a2, .ref a3, .ref a4, .ref a5, .ref a6, .int liq])), (a1, .inl (0, 108, .inl F1)), (a2, .inl (0, 108, .inl (fa_fill (fun _ => 0) F2 108))), (a3, .inl (0, 108, .inl F3)), (a4, .inl (0, 108, .inl F4)), (a5, .inl (0, 108, .inl F5)), (a6, .inl (0, 108, .inl F6))]) rfl ?_
    refine r_iconst d_Fz_pass_8 (v := 0) (by decide) ?_
    refine r_istore_n (lv' := [(2, .int 0), (0, .ref a), (1, .int st)]) d_Fz_pass_9 rfl (by decide) rfl ?_
    refine r_lvE (lv2 := [(2, .int (nI 0)), (0, .ref a), (1, .int st)]) (rfl) ?_
    refine r_cs (cs2 := [(a, .inr (2, [.ref a1, .ref a2, .ref a3, .ref a4, .ref a5, .ref a6, .int liq])), (a1, .inl (0, 108, .inl F1)), (a2, .inl (0, 108, .inl (gnS F1 F5 F6 (fa_fill (fun _ => 0) F2 108) 0))), (a3, .inl (0, 108, .inl F3)), (a4, .inl (0, 108, .inl F4)), (a5, .inl (0, 108, .inl F5)), (a6, .inl (0, 108, .inl F6))]) (rfl) ?_
    exact L_Fz_pass_10 g a a1 a2 a3 a4 a5 a6 F1 F2 F3 F4 F5 F6 liq st w0 _  (108 + 1) 0 (Nat.zero_le _) (by omega)
abbrev M_Fz_begin : zM := (⟨"Ironpour$Freezing", "begin", "([C[II)V"⟩, prog_4_method_3_code, 7, (Option.none : Option FieldType), 2, 46, [])
theorem d_Fz_begin_8 : decode prog_4_method_3_code 8 = .ok (.iload 4, 2) := zo_21 (d := 4) (zd_b zq_prog_4_method_3_code_0 8 rfl rfl rfl) (zd_b zq_prog_4_method_3_code_0 9 rfl rfl rfl)
theorem d_Fz_begin_10 : decode prog_4_method_3_code 10 = .ok (.bipush 108, 2) := zo_16 (d := 108) (zd_b zq_prog_4_method_3_code_0 10 rfl rfl rfl) (zd_b zq_prog_4_method_3_code_0 11 rfl rfl rfl) (by decide +kernel)
theorem d_Fz_begin_12 : decode prog_4_method_3_code 12 = .ok (.if_icmp .ge 147, 3) := zo_162 (d := 0) (e := 147) (zd_b zq_prog_4_method_3_code_0 12 rfl rfl rfl) (zd_b zq_prog_4_method_3_code_0 13 rfl rfl rfl) (zd_b zq_prog_4_method_3_code_0 14 rfl rfl rfl) (by decide +kernel)
theorem d_Fz_begin_159 : decode prog_4_method_3_code 159 = .ok (.return_, 1) := zo_177 (zd_b zq_prog_4_method_3_code_4 31 rfl rfl rfl)
theorem d_Fz_begin_15 : decode prog_4_method_3_code 15 = .ok (.aload_n 0, 1) := zo_42 (zd_b zq_prog_4_method_3_code_0 15 rfl rfl rfl)
theorem d_Fz_begin_16 : decode prog_4_method_3_code 16 = .ok (.getfield 18, 3) := zo_180 (d := 0) (e := 18) (zd_b zq_prog_4_method_3_code_0 16 rfl rfl rfl) (zd_b zq_prog_4_method_3_code_0 17 rfl rfl rfl) (zd_b zq_prog_4_method_3_code_0 18 rfl rfl rfl)
theorem d_Fz_begin_19 : decode prog_4_method_3_code 19 = .ok (.iload 4, 2) := zo_21 (d := 4) (zd_b zq_prog_4_method_3_code_0 19 rfl rfl rfl) (zd_b zq_prog_4_method_3_code_0 20 rfl rfl rfl)
theorem d_Fz_begin_21 : decode prog_4_method_3_code 21 = .ok (.sipush 300, 3) := zo_17 (d := 1) (e := 44) (zd_b zq_prog_4_method_3_code_0 21 rfl rfl rfl) (zd_b zq_prog_4_method_3_code_0 22 rfl rfl rfl) (zd_b zq_prog_4_method_3_code_0 23 rfl rfl rfl) (by decide +kernel)
theorem d_Fz_begin_24 : decode prog_4_method_3_code 24 = .ok (.iastore, 1) := zo_79 (zd_b zq_prog_4_method_3_code_0 24 rfl rfl rfl)
theorem d_Fz_begin_25 : decode prog_4_method_3_code 25 = .ok (.aload_n 2, 1) := zo_44 (zd_b zq_prog_4_method_3_code_0 25 rfl rfl rfl)
theorem d_Fz_begin_26 : decode prog_4_method_3_code 26 = .ok (.iload 4, 2) := zo_21 (d := 4) (zd_b zq_prog_4_method_3_code_0 26 rfl rfl rfl) (zd_b zq_prog_4_method_3_code_0 27 rfl rfl rfl)
theorem d_Fz_begin_28 : decode prog_4_method_3_code 28 = .ok (.iaload, 1) := zo_46 (zd_b zq_prog_4_method_3_code_0 28 rfl rfl rfl)
theorem d_Fz_begin_29 : decode prog_4_method_3_code 29 = .ok (.ifCond .ge 23, 3) := zo_156 (d := 0) (e := 23) (zd_b zq_prog_4_method_3_code_0 29 rfl rfl rfl) (zd_b zq_prog_4_method_3_code_0 30 rfl rfl rfl) (zd_b zq_prog_4_method_3_code_0 31 rfl rfl rfl) (by decide +kernel)
theorem d_Fz_begin_52 : decode prog_4_method_3_code 52 = .ok (.aload_n 0, 1) := zo_42 (zd_b zq_prog_4_method_3_code_1 20 rfl rfl rfl)
theorem d_Fz_begin_53 : decode prog_4_method_3_code 53 = .ok (.getfield 21, 3) := zo_180 (d := 0) (e := 21) (zd_b zq_prog_4_method_3_code_1 21 rfl rfl rfl) (zd_b zq_prog_4_method_3_code_1 22 rfl rfl rfl) (zd_b zq_prog_4_method_3_code_1 23 rfl rfl rfl)
theorem d_Fz_begin_56 : decode prog_4_method_3_code 56 = .ok (.iload 4, 2) := zo_21 (d := 4) (zd_b zq_prog_4_method_3_code_1 24 rfl rfl rfl) (zd_b zq_prog_4_method_3_code_1 25 rfl rfl rfl)
theorem d_Fz_begin_58 : decode prog_4_method_3_code 58 = .ok (.sipush 401, 3) := zo_17 (d := 1) (e := 145) (zd_b zq_prog_4_method_3_code_1 26 rfl rfl rfl) (zd_b zq_prog_4_method_3_code_1 27 rfl rfl rfl) (zd_b zq_prog_4_method_3_code_1 28 rfl rfl rfl) (by decide +kernel)
theorem d_Fz_begin_61 : decode prog_4_method_3_code 61 = .ok (.iastore, 1) := zo_79 (zd_b zq_prog_4_method_3_code_1 29 rfl rfl rfl)
theorem d_Fz_begin_62 : decode prog_4_method_3_code 62 = .ok (.aload_n 0, 1) := zo_42 (zd_b zq_prog_4_method_3_code_1 30 rfl rfl rfl)
theorem d_Fz_begin_63 : decode prog_4_method_3_code 63 = .ok (.dup, 1) := zo_89 (zd_b zq_prog_4_method_3_code_1 31 rfl rfl rfl)
theorem d_Fz_begin_64 : decode prog_4_method_3_code 64 = .ok (.getfield 30, 3) := zo_180 (d := 0) (e := 30) (zd_b zq_prog_4_method_3_code_2 0 rfl rfl rfl) (zd_b zq_prog_4_method_3_code_2 1 rfl rfl rfl) (zd_b zq_prog_4_method_3_code_2 2 rfl rfl rfl)
theorem d_Fz_begin_67 : decode prog_4_method_3_code 67 = .ok (.iconst 1, 1) := zo_4 (zd_b zq_prog_4_method_3_code_2 3 rfl rfl rfl)
theorem d_Fz_begin_68 : decode prog_4_method_3_code 68 = .ok (.iadd, 1) := zo_96 (zd_b zq_prog_4_method_3_code_2 4 rfl rfl rfl)
theorem d_Fz_begin_69 : decode prog_4_method_3_code 69 = .ok (.putfield 30, 3) := zo_181 (d := 0) (e := 30) (zd_b zq_prog_4_method_3_code_2 5 rfl rfl rfl) (zd_b zq_prog_4_method_3_code_2 6 rfl rfl rfl) (zd_b zq_prog_4_method_3_code_2 7 rfl rfl rfl)
theorem d_Fz_begin_72 : decode prog_4_method_3_code 72 = .ok (.aload_n 0, 1) := zo_42 (zd_b zq_prog_4_method_3_code_2 8 rfl rfl rfl)
theorem d_Fz_begin_73 : decode prog_4_method_3_code 73 = .ok (.iload 4, 2) := zo_21 (d := 4) (zd_b zq_prog_4_method_3_code_2 9 rfl rfl rfl) (zd_b zq_prog_4_method_3_code_2 10 rfl rfl rfl)
theorem d_Fz_begin_75 : decode prog_4_method_3_code 75 = .ok (.iload_n 3, 1) := zo_29 (zd_b zq_prog_4_method_3_code_2 11 rfl rfl rfl)
theorem d_Fz_begin_76 : decode prog_4_method_3_code 76 = .ok (.aload_n 2, 1) := zo_44 (zd_b zq_prog_4_method_3_code_2 12 rfl rfl rfl)
theorem d_Fz_begin_77 : decode prog_4_method_3_code 77 = .ok (.iload 4, 2) := zo_21 (d := 4) (zd_b zq_prog_4_method_3_code_2 13 rfl rfl rfl) (zd_b zq_prog_4_method_3_code_2 14 rfl rfl rfl)
theorem d_Fz_begin_79 : decode prog_4_method_3_code 79 = .ok (.iaload, 1) := zo_46 (zd_b zq_prog_4_method_3_code_2 15 rfl rfl rfl)
theorem d_Fz_begin_80 : decode prog_4_method_3_code 80 = .ok (.invokestatic 34, 3) := zo_184 (d := 0) (e := 34) (zd_b zq_prog_4_method_3_code_2 16 rfl rfl rfl) (zd_b zq_prog_4_method_3_code_2 17 rfl rfl rfl) (zd_b zq_prog_4_method_3_code_2 18 rfl rfl rfl)
theorem ok_Fz_begin_Fz_heatWhenFilled : z_ok M_Fz_begin M_Fz_heatWhenFilled 2 := ⟨z_mj2 (i := 236) rfl (by decide +kernel), rfl, ⟨by decide +kernel, by decide +kernel, by decide +kernel⟩, ⟨by decide, by decide⟩, z_mj1 (i := 4) rfl (by decide +kernel), rfl⟩
theorem ln_Fz_34 : Cond.methodLink "Ironpour$Freezing" 34 M_Fz_heatWhenFilled.1 ∈ z_gw := z_mj2 (i := 234) rfl (by decide +kernel)
theorem w_st_Fz_heatWhenFilled : Cond.static M_Fz_heatWhenFilled.1 ∈ z_gw := z_mj2 (i := 235) rfl (by decide +kernel)
theorem d_Fz_begin_83 : decode prog_4_method_3_code 83 = .ok (.iconst 0, 1) := zo_3 (zd_b zq_prog_4_method_3_code_2 19 rfl rfl rfl)
theorem d_Fz_begin_84 : decode prog_4_method_3_code 84 = .ok (.invokevirtual 38, 3) := zo_182 (d := 0) (e := 38) (zd_b zq_prog_4_method_3_code_2 20 rfl rfl rfl) (zd_b zq_prog_4_method_3_code_2 21 rfl rfl rfl) (zd_b zq_prog_4_method_3_code_2 22 rfl rfl rfl)
theorem ok_Fz_begin_Fz_becomeHeat : z_ok M_Fz_begin M_Fz_becomeHeat 3 := ⟨z_mj3 (i := 0) rfl (by decide +kernel), rfl, ⟨by decide +kernel, by decide +kernel, by decide +kernel⟩, ⟨by decide, by decide⟩, z_mj1 (i := 4) rfl (by decide +kernel), rfl⟩
theorem d_Fz_begin_87 : decode prog_4_method_3_code 87 = .ok (.iload 4, 2) := zo_21 (d := 4) (zd_b zq_prog_4_method_3_code_2 23 rfl rfl rfl) (zd_b zq_prog_4_method_3_code_2 24 rfl rfl rfl)
theorem d_Fz_begin_89 : decode prog_4_method_3_code 89 = .ok (.iconst 2, 1) := zo_5 (zd_b zq_prog_4_method_3_code_2 25 rfl rfl rfl)
theorem d_Fz_begin_90 : decode prog_4_method_3_code 90 = .ok (.invokestatic 42, 3) := zo_184 (d := 0) (e := 42) (zd_b zq_prog_4_method_3_code_2 26 rfl rfl rfl) (zd_b zq_prog_4_method_3_code_2 27 rfl rfl rfl) (zd_b zq_prog_4_method_3_code_2 28 rfl rfl rfl)
theorem ok_Fz_begin_Ip_beside : z_ok M_Fz_begin M_Ip_beside 2 := ⟨z_mj2 (i := 133) rfl (by decide +kernel), rfl, ⟨by decide +kernel, by decide +kernel, by decide +kernel⟩, ⟨by decide, by decide⟩, z_mj1 (i := 1) rfl (by decide +kernel), rfl⟩
theorem ln_Fz_42 : Cond.methodLinkNest "Ironpour$Freezing" 42 M_Ip_beside.1 "Ironpour" ∈ z_nw := z_mk3 (i := 1) rfl (by decide +kernel)
theorem w_st_Ip_beside : Cond.static M_Ip_beside.1 ∈ z_gw := z_mj2 (i := 132) rfl (by decide +kernel)
theorem d_Fz_begin_93 : decode prog_4_method_3_code 93 = .ok (.istore 5, 2) := zo_54 (d := 5) (zd_b zq_prog_4_method_3_code_2 29 rfl rfl rfl) (zd_b zq_prog_4_method_3_code_2 30 rfl rfl rfl)
theorem d_Fz_begin_95 : decode prog_4_method_3_code 95 = .ok (.iload 4, 2) := zo_21 (d := 4) (zd_b zq_prog_4_method_3_code_2 31 rfl rfl rfl) (zd_b zq_prog_4_method_3_code_3 0 rfl rfl rfl)
theorem d_Fz_begin_97 : decode prog_4_method_3_code 97 = .ok (.iconst 3, 1) := zo_6 (zd_b zq_prog_4_method_3_code_3 1 rfl rfl rfl)
theorem d_Fz_begin_98 : decode prog_4_method_3_code 98 = .ok (.invokestatic 42, 3) := zo_184 (d := 0) (e := 42) (zd_b zq_prog_4_method_3_code_3 2 rfl rfl rfl) (zd_b zq_prog_4_method_3_code_3 3 rfl rfl rfl) (zd_b zq_prog_4_method_3_code_3 4 rfl rfl rfl)
theorem d_Fz_begin_101 : decode prog_4_method_3_code 101 = .ok (.istore 6, 2) := zo_54 (d := 6) (zd_b zq_prog_4_method_3_code_3 5 rfl rfl rfl) (zd_b zq_prog_4_method_3_code_3 6 rfl rfl rfl)
theorem d_Fz_begin_103 : decode prog_4_method_3_code 103 = .ok (.aload_n 0, 1) := zo_42 (zd_b zq_prog_4_method_3_code_3 7 rfl rfl rfl)
theorem d_Fz_begin_104 : decode prog_4_method_3_code 104 = .ok (.getfield 24, 3) := zo_180 (d := 0) (e := 24) (zd_b zq_prog_4_method_3_code_3 8 rfl rfl rfl) (zd_b zq_prog_4_method_3_code_3 9 rfl rfl rfl) (zd_b zq_prog_4_method_3_code_3 10 rfl rfl rfl)
theorem d_Fz_begin_107 : decode prog_4_method_3_code 107 = .ok (.iload 4, 2) := zo_21 (d := 4) (zd_b zq_prog_4_method_3_code_3 11 rfl rfl rfl) (zd_b zq_prog_4_method_3_code_3 12 rfl rfl rfl)
theorem d_Fz_begin_109 : decode prog_4_method_3_code 109 = .ok (.iload 5, 2) := zo_21 (d := 5) (zd_b zq_prog_4_method_3_code_3 13 rfl rfl rfl) (zd_b zq_prog_4_method_3_code_3 14 rfl rfl rfl)
theorem d_Fz_begin_111 : decode prog_4_method_3_code 111 = .ok (.ifCond .ge 7, 3) := zo_156 (d := 0) (e := 7) (zd_b zq_prog_4_method_3_code_3 15 rfl rfl rfl) (zd_b zq_prog_4_method_3_code_3 16 rfl rfl rfl) (zd_b zq_prog_4_method_3_code_3 17 rfl rfl rfl) (by decide +kernel)
theorem d_Fz_begin_118 : decode prog_4_method_3_code 118 = .ok (.aload_n 1, 1) := zo_43 (zd_b zq_prog_4_method_3_code_3 22 rfl rfl rfl)
theorem d_Fz_begin_119 : decode prog_4_method_3_code 119 = .ok (.aload_n 2, 1) := zo_44 (zd_b zq_prog_4_method_3_code_3 23 rfl rfl rfl)
theorem d_Fz_begin_120 : decode prog_4_method_3_code 120 = .ok (.iload 4, 2) := zo_21 (d := 4) (zd_b zq_prog_4_method_3_code_3 24 rfl rfl rfl) (zd_b zq_prog_4_method_3_code_3 25 rfl rfl rfl)
theorem d_Fz_begin_122 : decode prog_4_method_3_code 122 = .ok (.iload 5, 2) := zo_21 (d := 5) (zd_b zq_prog_4_method_3_code_3 26 rfl rfl rfl) (zd_b zq_prog_4_method_3_code_3 27 rfl rfl rfl)
theorem d_Fz_begin_124 : decode prog_4_method_3_code 124 = .ok (.invokestatic 45, 3) := zo_184 (d := 0) (e := 45) (zd_b zq_prog_4_method_3_code_3 28 rfl rfl rfl) (zd_b zq_prog_4_method_3_code_3 29 rfl rfl rfl) (zd_b zq_prog_4_method_3_code_3 30 rfl rfl rfl)
theorem ok_Fz_begin_Fz_passingBetween : z_ok M_Fz_begin M_Fz_passingBetween 4 := ⟨z_mj3 (i := 4) rfl (by decide +kernel), rfl, ⟨by decide +kernel, by decide +kernel, by decide +kernel⟩, ⟨by decide, by decide⟩, z_mj1 (i := 4) rfl (by decide +kernel), rfl⟩
theorem ln_Fz_45 : Cond.methodLink "Ironpour$Freezing" 45 M_Fz_passingBetween.1 ∈ z_gw := z_mj3 (i := 2) rfl (by decide +kernel)
theorem w_st_Fz_passingBetween : Cond.static M_Fz_passingBetween.1 ∈ z_gw := z_mj3 (i := 3) rfl (by decide +kernel)
theorem d_Fz_begin_127 : decode prog_4_method_3_code 127 = .ok (.iastore, 1) := zo_79 (zd_b zq_prog_4_method_3_code_3 31 rfl rfl rfl)
theorem d_Fz_begin_128 : decode prog_4_method_3_code 128 = .ok (.aload_n 0, 1) := zo_42 (zd_b zq_prog_4_method_3_code_4 0 rfl rfl rfl)
theorem d_Fz_begin_129 : decode prog_4_method_3_code 129 = .ok (.getfield 27, 3) := zo_180 (d := 0) (e := 27) (zd_b zq_prog_4_method_3_code_4 1 rfl rfl rfl) (zd_b zq_prog_4_method_3_code_4 2 rfl rfl rfl) (zd_b zq_prog_4_method_3_code_4 3 rfl rfl rfl)
theorem d_Fz_begin_132 : decode prog_4_method_3_code 132 = .ok (.iload 4, 2) := zo_21 (d := 4) (zd_b zq_prog_4_method_3_code_4 4 rfl rfl rfl) (zd_b zq_prog_4_method_3_code_4 5 rfl rfl rfl)
theorem d_Fz_begin_134 : decode prog_4_method_3_code 134 = .ok (.iload 6, 2) := zo_21 (d := 6) (zd_b zq_prog_4_method_3_code_4 6 rfl rfl rfl) (zd_b zq_prog_4_method_3_code_4 7 rfl rfl rfl)
theorem d_Fz_begin_136 : decode prog_4_method_3_code 136 = .ok (.ifCond .ge 7, 3) := zo_156 (d := 0) (e := 7) (zd_b zq_prog_4_method_3_code_4 8 rfl rfl rfl) (zd_b zq_prog_4_method_3_code_4 9 rfl rfl rfl) (zd_b zq_prog_4_method_3_code_4 10 rfl rfl rfl) (by decide +kernel)
theorem d_Fz_begin_143 : decode prog_4_method_3_code 143 = .ok (.aload_n 1, 1) := zo_43 (zd_b zq_prog_4_method_3_code_4 15 rfl rfl rfl)
theorem d_Fz_begin_144 : decode prog_4_method_3_code 144 = .ok (.aload_n 2, 1) := zo_44 (zd_b zq_prog_4_method_3_code_4 16 rfl rfl rfl)
theorem d_Fz_begin_145 : decode prog_4_method_3_code 145 = .ok (.iload 4, 2) := zo_21 (d := 4) (zd_b zq_prog_4_method_3_code_4 17 rfl rfl rfl) (zd_b zq_prog_4_method_3_code_4 18 rfl rfl rfl)
theorem d_Fz_begin_147 : decode prog_4_method_3_code 147 = .ok (.iload 6, 2) := zo_21 (d := 6) (zd_b zq_prog_4_method_3_code_4 19 rfl rfl rfl) (zd_b zq_prog_4_method_3_code_4 20 rfl rfl rfl)
theorem d_Fz_begin_149 : decode prog_4_method_3_code 149 = .ok (.invokestatic 45, 3) := zo_184 (d := 0) (e := 45) (zd_b zq_prog_4_method_3_code_4 21 rfl rfl rfl) (zd_b zq_prog_4_method_3_code_4 22 rfl rfl rfl) (zd_b zq_prog_4_method_3_code_4 23 rfl rfl rfl)
theorem d_Fz_begin_152 : decode prog_4_method_3_code 152 = .ok (.iastore, 1) := zo_79 (zd_b zq_prog_4_method_3_code_4 24 rfl rfl rfl)
theorem d_Fz_begin_153 : decode prog_4_method_3_code 153 = .ok (.iinc 4 1, 3) := by decide +kernel
theorem d_Fz_begin_156 : decode prog_4_method_3_code 156 = .ok (.goto (-148), 3) := zo_167 (d := 255) (e := 108) (zd_b zq_prog_4_method_3_code_4 28 rfl rfl rfl) (zd_b zq_prog_4_method_3_code_4 29 rfl rfl rfl) (zd_b zq_prog_4_method_3_code_4 30 rfl rfl rfl) (by decide +kernel)
theorem d_Fz_begin_139 : decode prog_4_method_3_code 139 = .ok (.iconst 0, 1) := zo_3 (zd_b zq_prog_4_method_3_code_4 11 rfl rfl rfl)
theorem d_Fz_begin_140 : decode prog_4_method_3_code 140 = .ok (.goto 12, 3) := zo_167 (d := 0) (e := 12) (zd_b zq_prog_4_method_3_code_4 12 rfl rfl rfl) (zd_b zq_prog_4_method_3_code_4 13 rfl rfl rfl) (zd_b zq_prog_4_method_3_code_4 14 rfl rfl rfl) (by decide +kernel)
theorem d_Fz_begin_114 : decode prog_4_method_3_code 114 = .ok (.iconst 0, 1) := zo_3 (zd_b zq_prog_4_method_3_code_3 18 rfl rfl rfl)
theorem d_Fz_begin_115 : decode prog_4_method_3_code 115 = .ok (.goto 12, 3) := zo_167 (d := 0) (e := 12) (zd_b zq_prog_4_method_3_code_3 19 rfl rfl rfl) (zd_b zq_prog_4_method_3_code_3 20 rfl rfl rfl) (zd_b zq_prog_4_method_3_code_3 21 rfl rfl rfl) (by decide +kernel)
theorem d_Fz_begin_32 : decode prog_4_method_3_code 32 = .ok (.aload_n 0, 1) := zo_42 (zd_b zq_prog_4_method_3_code_1 0 rfl rfl rfl)
theorem d_Fz_begin_33 : decode prog_4_method_3_code 33 = .ok (.getfield 21, 3) := zo_180 (d := 0) (e := 21) (zd_b zq_prog_4_method_3_code_1 1 rfl rfl rfl) (zd_b zq_prog_4_method_3_code_1 2 rfl rfl rfl) (zd_b zq_prog_4_method_3_code_1 3 rfl rfl rfl)
theorem d_Fz_begin_36 : decode prog_4_method_3_code 36 = .ok (.iload 4, 2) := zo_21 (d := 4) (zd_b zq_prog_4_method_3_code_1 4 rfl rfl rfl) (zd_b zq_prog_4_method_3_code_1 5 rfl rfl rfl)
theorem d_Fz_begin_38 : decode prog_4_method_3_code 38 = .ok (.iconst (-1), 1) := zo_2 (zd_b zq_prog_4_method_3_code_1 6 rfl rfl rfl)
theorem d_Fz_begin_39 : decode prog_4_method_3_code 39 = .ok (.iastore, 1) := zo_79 (zd_b zq_prog_4_method_3_code_1 7 rfl rfl rfl)
theorem d_Fz_begin_40 : decode prog_4_method_3_code 40 = .ok (.aload_n 0, 1) := zo_42 (zd_b zq_prog_4_method_3_code_1 8 rfl rfl rfl)
theorem d_Fz_begin_41 : decode prog_4_method_3_code 41 = .ok (.getfield 9, 3) := zo_180 (d := 0) (e := 9) (zd_b zq_prog_4_method_3_code_1 9 rfl rfl rfl) (zd_b zq_prog_4_method_3_code_1 10 rfl rfl rfl) (zd_b zq_prog_4_method_3_code_1 11 rfl rfl rfl)
theorem d_Fz_begin_44 : decode prog_4_method_3_code 44 = .ok (.iload 4, 2) := zo_21 (d := 4) (zd_b zq_prog_4_method_3_code_1 12 rfl rfl rfl) (zd_b zq_prog_4_method_3_code_1 13 rfl rfl rfl)
theorem d_Fz_begin_46 : decode prog_4_method_3_code 46 = .ok (.bipush 20, 2) := zo_16 (d := 20) (zd_b zq_prog_4_method_3_code_1 14 rfl rfl rfl) (zd_b zq_prog_4_method_3_code_1 15 rfl rfl rfl) (by decide +kernel)
theorem d_Fz_begin_48 : decode prog_4_method_3_code 48 = .ok (.iastore, 1) := zo_79 (zd_b zq_prog_4_method_3_code_1 16 rfl rfl rfl)
theorem d_Fz_begin_49 : decode prog_4_method_3_code 49 = .ok (.goto 38, 3) := zo_167 (d := 0) (e := 38) (zd_b zq_prog_4_method_3_code_1 17 rfl rfl rfl) (zd_b zq_prog_4_method_3_code_1 18 rfl rfl rfl) (zd_b zq_prog_4_method_3_code_1 19 rfl rfl rfl) (by decide +kernel)
theorem d_Fz_begin_0 : decode prog_4_method_3_code 0 = .ok (.aload_n 0, 1) := zo_42 (zd_b zq_prog_4_method_3_code_0 0 rfl rfl rfl)
theorem d_Fz_begin_1 : decode prog_4_method_3_code 1 = .ok (.iconst 0, 1) := zo_3 (zd_b zq_prog_4_method_3_code_0 1 rfl rfl rfl)
theorem d_Fz_begin_2 : decode prog_4_method_3_code 2 = .ok (.putfield 30, 3) := zo_181 (d := 0) (e := 30) (zd_b zq_prog_4_method_3_code_0 2 rfl rfl rfl) (zd_b zq_prog_4_method_3_code_0 3 rfl rfl rfl) (zd_b zq_prog_4_method_3_code_0 4 rfl rfl rfl)
theorem d_Fz_begin_5 : decode prog_4_method_3_code 5 = .ok (.iconst 0, 1) := zo_3 (zd_b zq_prog_4_method_3_code_0 5 rfl rfl rfl)
theorem d_Fz_begin_6 : decode prog_4_method_3_code 6 = .ok (.istore 4, 2) := zo_54 (d := 4) (zd_b zq_prog_4_method_3_code_0 6 rfl rfl rfl) (zd_b zq_prog_4_method_3_code_0 7 rfl rfl rfl)
set_option maxHeartbeats 4000000 in
set_option maxRecDepth 100000 in
theorem L_Fz_begin_8 (g : zG) (a a1 a2 a3 a4 a5 a6 : Nat) (F1 F2 F3 F4 F5 F6 : Nat → Int32) (liq : Int32) (b c : Nat) (ce fi : Nat → Int32) (h : Int32) (w0 : zW) (n : Nat) : ∀ (d i : Nat), i ≤ 108 → 108 < i + d → DV g M_Fz_begin (fun o cs1 => o = .inl none ∧ cs1 = [(a, .inr (2, [.ref a1, .ref a2, .ref a3, .ref a4, .ref a5, .ref a6, .int ((bgS ce fi h (F1, F3, F4, liq) 108).2.2.2)])), (a1, .inl (0, 108, .inl ((bgS ce fi h (F1, F3, F4, liq) 108).1))), (a2, .inl (0, 108, .inl F2)), (a3, .inl (0, 108, .inl ((bgS ce fi h (F1, F3, F4, liq) 108).2.1))), (a4, .inl (0, 108, .inl ((bgS ce fi h (F1, F3, F4, liq) 108).2.2.1))), (a5, .inl (0, 108, .inl (toS ce fi 2 F5 108))), (a6, .inl (0, 108, .inl (toS ce fi 3 F6 108))), (b, .inl (1, 108, .inl ce)), (c, .inl (0, 108, .inl fi))]) w0 n 8 [(4, .int (nI i)), (0, .ref a), (1, .ref b), (2, .ref c), (3, .int h)] [] [(a, .inr (2, [.ref a1, .ref a2, .ref a3, .ref a4, .ref a5, .ref a6, .int ((bgS ce fi h (F1, F3, F4, liq) i).2.2.2)])), (a1, .inl (0, 108, .inl ((bgS ce fi h (F1, F3, F4, liq) i).1))), (a2, .inl (0, 108, .inl F2)), (a3, .inl (0, 108, .inl ((bgS ce fi h (F1, F3, F4, liq) i).2.1))), (a4, .inl (0, 108, .inl ((bgS ce fi h (F1, F3, F4, liq) i).2.2.1))), (a5, .inl (0, 108, .inl (toS ce fi 2 F5 i))), (a6, .inl (0, 108, .inl (toS ce fi 3 F6 i))), (b, .inl (1, 108, .inl ce)), (c, .inl (0, 108, .inl fi))] 0 0 := by
  intro d
  induction d with
  | zero => intro i h1 h2 ; exact absurd h2 (by omega)
  | succ d ih =>
    intro i h1 h2 
    refine r_iload d_Fz_begin_8 0 rfl ?_
    refine r_bipush d_Fz_begin_10 (v := 108) (by decide) ?_
    refine r_icmp_ge (tgt := 159) d_Fz_begin_12 (by decide) (fun c_12 => ?_) (fun c_12 => ?_)
    · have hn := z_le (a := 108) (by omega) (by decide) c_12
      obtain rfl : i = 108 := by omega
      refine r_vret d_Fz_begin_159 rfl ?_
      exact ⟨rfl, rfl⟩
    · have hn := z_nle (a := 108) (by omega) (by decide) c_12
      refine r_aload_n d_Fz_begin_15 rfl 1 rfl ?_
      refine r_get fs_Fz_18 d_Fz_begin_16 (q0 := 0) rfl rfl ?_
      refine r_iload d_Fz_begin_19 0 rfl ?_
      refine r_sipush d_Fz_begin_21 (v := 300) (by decide) ?_
      refine r_iast d_Fz_begin_24 (q0 := 3) rfl (vp_in_nI (by omega) (by omega)) (f' := upd ((bgS ce fi h (F1, F3, F4, liq) i).2.1) i 300) (by rw [nI_clamp (by omega)]) (cs' := [(a, .inr (2, [.ref a1, .ref a2, .ref a3, .ref a4, .ref a5, .ref a6, .int ((bgS ce fi h (F1, F3, F4, liq) i).2.2.2)])), (a1, .inl (0, 108, .inl ((bgS ce fi h (F1, F3, F4, liq) i).1))), (a2, .inl (0, 108, .inl F2)), (a3, .inl (0, 108, .inl (upd ((bgS ce fi h (F1, F3, F4, liq) i).2.1) i 300))), (a4, .inl (0, 108, .inl ((bgS ce fi h (F1, F3, F4, liq) i).2.2.1))), (a5, .inl (0, 108, .inl (toS ce fi 2 F5 i))), (a6, .inl (0, 108, .inl (toS ce fi 3 F6 i))), (b, .inl (1, 108, .inl ce)), (c, .inl (0, 108, .inl fi))]) rfl ?_
      refine r_aload_n d_Fz_begin_25 rfl 3 rfl ?_
      refine r_iload d_Fz_begin_26 0 rfl ?_
      refine r_iald d_Fz_begin_28 (q0 := 8) rfl (vp_in_nI (by omega) (by omega)) (v := fi i) (by rw [nI_clamp (by omega)]) ?_
      refine r_if_ge (tgt := 52) d_Fz_begin_29 (by decide) (fun c_29 => ?_) (fun c_29 => ?_)
      · have hfi : ¬ fi i < 0 := Int32.not_lt.mpr c_29
        refine r_aload_n d_Fz_begin_52 rfl 1 rfl ?_
        refine r_get fs_Fz_21 d_Fz_begin_53 (q0 := 0) rfl rfl ?_
        refine r_iload d_Fz_begin_56 0 rfl ?_
        refine r_sipush d_Fz_begin_58 (v := 401) (by decide) ?_
        refine r_iast d_Fz_begin_61 (q0 := 4) rfl (vp_in_nI (by omega) (by omega)) (f' := upd ((bgS ce fi h (F1, F3, F4, liq) i).2.2.1) i 401) (by rw [nI_clamp (by omega)]) (cs' := [(a, .inr (2, [.ref a1, .ref a2, .ref a3, .ref a4, .ref a5, .ref a6, .int ((bgS ce fi h (F1, F3, F4, liq) i).2.2.2)])), (a1, .inl (0, 108, .inl ((bgS ce fi h (F1, F3, F4, liq) i).1))), (a2, .inl (0, 108, .inl F2)), (a3, .inl (0, 108, .inl (upd ((bgS ce fi h (F1, F3, F4, liq) i).2.1) i 300))), (a4, .inl (0, 108, .inl (upd ((bgS ce fi h (F1, F3, F4, liq) i).2.2.1) i 401))), (a5, .inl (0, 108, .inl (toS ce fi 2 F5 i))), (a6, .inl (0, 108, .inl (toS ce fi 3 F6 i))), (b, .inl (1, 108, .inl ce)), (c, .inl (0, 108, .inl fi))]) rfl ?_
        refine r_aload_n d_Fz_begin_62 rfl 1 rfl ?_
        refine r_dup d_Fz_begin_63 rfl ?_
        refine r_get fs_Fz_30 d_Fz_begin_64 (q0 := 0) rfl rfl ?_
        refine r_iconst d_Fz_begin_67 (v := 1) (by decide) ?_
        refine r_iadd d_Fz_begin_68 (v := ((bgS ce fi h (F1, F3, F4, liq) i).2.2.2) + 1) rfl ?_
        refine r_put fp_Fz_30 d_Fz_begin_69 (fun h => nomatch h) rfl rfl (q0 := 0) rfl (Nat.le_of_ble_eq_true rfl) (cs' := [(a, .inr (2, [.ref a1, .ref a2, .ref a3, .ref a4, .ref a5, .ref a6, .int (((bgS ce fi h (F1, F3, F4, liq) i).2.2.2) + 1)])), (a1, .inl (0, 108, .inl ((bgS ce fi h (F1, F3, F4, liq) i).1))), (a2, .inl (0, 108, .inl F2)), (a3, .inl (0, 108, .inl (upd ((bgS ce fi h (F1, F3, F4, liq) i).2.1) i 300))), (a4, .inl (0, 108, .inl (upd ((bgS ce fi h (F1, F3, F4, liq) i).2.2.1) i 401))), (a5, .inl (0, 108, .inl (toS ce fi 2 F5 i))), (a6, .inl (0, 108, .inl (toS ce fi 3 F6 i))), (b, .inl (1, 108, .inl ce)), (c, .inl (0, 108, .inl fi))]) rfl ?_
        refine r_aload_n d_Fz_begin_72 rfl 1 rfl ?_
        refine r_iload d_Fz_begin_73 0 rfl ?_
        refine r_iload_n d_Fz_begin_75 rfl 4 rfl ?_
        refine r_aload_n d_Fz_begin_76 rfl 3 rfl ?_
        refine r_iload d_Fz_begin_77 0 rfl ?_
        refine r_iald d_Fz_begin_79 (q0 := 8) rfl (vp_in_nI (by omega) (by omega)) (v := fi i) (by rw [nI_clamp (by omega)]) ?_
        refine r_callS (As := [.int h, .int (fi i)]) (rest := [.int (nI i), .ref a]) (csC := []) (is := []) ln_Fz_34 w_st_Fz_heatWhenFilled ok_Fz_begin_Fz_heatWhenFilled d_Fz_begin_80 (C_Fz_hwf g h (fi i)) rfl rfl (Nat.le_of_ble_eq_true rfl) rfl (by decide) (by omega) (by omega) (fun E cs1 hx => ?_) (fun v cs1 hx => ?_)
        · exact absurd hx.1 (by simp)
        · obtain ⟨e1, rfl⟩ := hx
          cases e1
          refine ⟨rfl, ?_⟩
          refine r_st (st2 := [.int (z_hwf h (fi i)), .int (nI i), .ref a]) rfl ?_
          refine r_cs (cs2 := [(a, .inr (2, [.ref a1, .ref a2, .ref a3, .ref a4, .ref a5, .ref a6, .int (((bgS ce fi h (F1, F3, F4, liq) i).2.2.2) + 1)])), (a1, .inl (0, 108, .inl ((bgS ce fi h (F1, F3, F4, liq) i).1))), (a2, .inl (0, 108, .inl F2)), (a3, .inl (0, 108, .inl (upd ((bgS ce fi h (F1, F3, F4, liq) i).2.1) i 300))), (a4, .inl (0, 108, .inl (upd ((bgS ce fi h (F1, F3, F4, liq) i).2.2.1) i 401))), (a5, .inl (0, 108, .inl (toS ce fi 2 F5 i))), (a6, .inl (0, 108, .inl (toS ce fi 3 F6 i))), (b, .inl (1, 108, .inl ce)), (c, .inl (0, 108, .inl fi))]) rfl ?_
          refine r_iconst d_Fz_begin_83 (v := 0) (by decide) ?_
          refine r_callV (As := [.int (nI i), .int (z_hwf h (fi i)), .int 0]) (rest := []) (csC := [(a, .inr (2, [.ref a1, .ref a2, .ref a3, .ref a4, .ref a5, .ref a6, .int (((bgS ce fi h (F1, F3, F4, liq) i).2.2.2) + 1)])), (a1, .inl (0, 108, .inl ((bgS ce fi h (F1, F3, F4, liq) i).1))), (a2, .inl (0, 108, .inl F2)), (a3, .inl (0, 108, .inl (upd ((bgS ce fi h (F1, F3, F4, liq) i).2.1) i 300))), (a4, .inl (0, 108, .inl (upd ((bgS ce fi h (F1, F3, F4, liq) i).2.2.1) i 401))), (a5, .inl (0, 108, .inl (toS ce fi 2 F5 i))), (a6, .inl (0, 108, .inl (toS ce fi 3 F6 i)))]) (is := [0, 1, 2, 3, 4, 5, 6]) (q0 := 0) rfl rfl ln_Fz_38 w_im_Fz_becomeHeat w_se_Fz_becomeHeat ok_Fz_begin_Fz_becomeHeat d_Fz_begin_84 (C_Fz_becomeHeat g a a1 a2 a3 a4 a5 a6 ((bgS ce fi h (F1, F3, F4, liq) i).1) F2 (upd ((bgS ce fi h (F1, F3, F4, liq) i).2.1) i 300) (upd ((bgS ce fi h (F1, F3, F4, liq) i).2.2.1) i 401) (toS ce fi 2 F5 i) (toS ce fi 3 F6 i) (((bgS ce fi h (F1, F3, F4, liq) i).2.2.2) + 1) i (by omega) (z_hwf h (fi i)) 0) rfl rfl (Nat.le_of_ble_eq_true rfl) rfl (by decide) (by omega) (by omega) (fun E cs1 hx => ?_) (fun v cs1 hx => ?_)
          · exact absurd hx.1 (by simp)
          · obtain ⟨e1, rfl⟩ := hx
            cases e1
            refine ⟨rfl, ?_⟩
            refine r_st (st2 := []) rfl ?_
            refine r_cs (cs2 := [(a, .inr (2, [.ref a1, .ref a2, .ref a3, .ref a4, .ref a5, .ref a6, .int ((bhS i (z_hwf h (fi i)) 0 (((bgS ce fi h (F1, F3, F4, liq) i).1), (upd ((bgS ce fi h (F1, F3, F4, liq) i).2.1) i 300), (upd ((bgS ce fi h (F1, F3, F4, liq) i).2.2.1) i 401), (((bgS ce fi h (F1, F3, F4, liq) i).2.2.2) + 1))).2.2.2)])), (a1, .inl (0, 108, .inl ((bhS i (z_hwf h (fi i)) 0 (((bgS ce fi h (F1, F3, F4, liq) i).1), (upd ((bgS ce fi h (F1, F3, F4, liq) i).2.1) i 300), (upd ((bgS ce fi h (F1, F3, F4, liq) i).2.2.1) i 401), (((bgS ce fi h (F1, F3, F4, liq) i).2.2.2) + 1))).1))), (a2, .inl (0, 108, .inl F2)), (a3, .inl (0, 108, .inl ((bhS i (z_hwf h (fi i)) 0 (((bgS ce fi h (F1, F3, F4, liq) i).1), (upd ((bgS ce fi h (F1, F3, F4, liq) i).2.1) i 300), (upd ((bgS ce fi h (F1, F3, F4, liq) i).2.2.1) i 401), (((bgS ce fi h (F1, F3, F4, liq) i).2.2.2) + 1))).2.1))), (a4, .inl (0, 108, .inl ((bhS i (z_hwf h (fi i)) 0 (((bgS ce fi h (F1, F3, F4, liq) i).1), (upd ((bgS ce fi h (F1, F3, F4, liq) i).2.1) i 300), (upd ((bgS ce fi h (F1, F3, F4, liq) i).2.2.1) i 401), (((bgS ce fi h (F1, F3, F4, liq) i).2.2.2) + 1))).2.2.1))), (a5, .inl (0, 108, .inl (toS ce fi 2 F5 i))), (a6, .inl (0, 108, .inl (toS ce fi 3 F6 i))), (b, .inl (1, 108, .inl ce)), (c, .inl (0, 108, .inl fi))]) rfl ?_
            refine r_iload d_Fz_begin_87 0 rfl ?_
            refine r_iconst d_Fz_begin_89 (v := 2) (by decide) ?_
            refine r_callSN (As := [.int (nI i), .int 2]) (rest := []) (csC := []) (is := []) ln_Fz_42 w_st_Ip_beside ok_Fz_begin_Ip_beside d_Fz_begin_90 (C_Ip_beside g i 2 (by omega) (by decide)) rfl rfl (Nat.le_of_ble_eq_true rfl) rfl (by decide) (by omega) (by omega) (fun E cs1 hx => ?_) (fun v cs1 hx => ?_)
            · exact absurd hx.1 (by simp)
            · obtain ⟨e1, rfl⟩ := hx
              cases e1
              refine ⟨rfl, ?_⟩
              refine r_st (st2 := [.int (oI (bs i 2))]) rfl ?_
              refine r_cs (cs2 := [(a, .inr (2, [.ref a1, .ref a2, .ref a3, .ref a4, .ref a5, .ref a6, .int ((bhS i (z_hwf h (fi i)) 0 (((bgS ce fi h (F1, F3, F4, liq) i).1), (upd ((bgS ce fi h (F1, F3, F4, liq) i).2.1) i 300), (upd ((bgS ce fi h (F1, F3, F4, liq) i).2.2.1) i 401), (((bgS ce fi h (F1, F3, F4, liq) i).2.2.2) + 1))).2.2.2)])), (a1, .inl (0, 108, .inl ((bhS i (z_hwf h (fi i)) 0 (((bgS ce fi h (F1, F3, F4, liq) i).1), (upd ((bgS ce fi h (F1, F3, F4, liq) i).2.1) i 300), (upd ((bgS ce fi h (F1, F3, F4, liq) i).2.2.1) i 401), (((bgS ce fi h (F1, F3, F4, liq) i).2.2.2) + 1))).1))), (a2, .inl (0, 108, .inl F2)), (a3, .inl (0, 108, .inl ((bhS i (z_hwf h (fi i)) 0 (((bgS ce fi h (F1, F3, F4, liq) i).1), (upd ((bgS ce fi h (F1, F3, F4, liq) i).2.1) i 300), (upd ((bgS ce fi h (F1, F3, F4, liq) i).2.2.1) i 401), (((bgS ce fi h (F1, F3, F4, liq) i).2.2.2) + 1))).2.1))), (a4, .inl (0, 108, .inl ((bhS i (z_hwf h (fi i)) 0 (((bgS ce fi h (F1, F3, F4, liq) i).1), (upd ((bgS ce fi h (F1, F3, F4, liq) i).2.1) i 300), (upd ((bgS ce fi h (F1, F3, F4, liq) i).2.2.1) i 401), (((bgS ce fi h (F1, F3, F4, liq) i).2.2.2) + 1))).2.2.1))), (a5, .inl (0, 108, .inl (toS ce fi 2 F5 i))), (a6, .inl (0, 108, .inl (toS ce fi 3 F6 i))), (b, .inl (1, 108, .inl ce)), (c, .inl (0, 108, .inl fi))]) rfl ?_
              refine r_istore (lv' := [(5, .int (oI (bs i 2))), (4, .int (nI i)), (0, .ref a), (1, .ref b), (2, .ref c), (3, .int h)]) d_Fz_begin_93 (by decide) rfl ?_
              refine r_iload d_Fz_begin_95 1 rfl ?_
              refine r_iconst d_Fz_begin_97 (v := 3) (by decide) ?_
              refine r_callSN (As := [.int (nI i), .int 3]) (rest := []) (csC := []) (is := []) ln_Fz_42 w_st_Ip_beside ok_Fz_begin_Ip_beside d_Fz_begin_98 (C_Ip_beside g i 3 (by omega) (by decide)) rfl rfl (Nat.le_of_ble_eq_true rfl) rfl (by decide) (by omega) (by omega) (fun E cs1 hx => ?_) (fun v cs1 hx => ?_)
              · exact absurd hx.1 (by simp)
              · obtain ⟨e1, rfl⟩ := hx
                cases e1
                refine ⟨rfl, ?_⟩
                refine r_st (st2 := [.int (oI (bs i 3))]) rfl ?_
                refine r_cs (cs2 := [(a, .inr (2, [.ref a1, .ref a2, .ref a3, .ref a4, .ref a5, .ref a6, .int ((bhS i (z_hwf h (fi i)) 0 (((bgS ce fi h (F1, F3, F4, liq) i).1), (upd ((bgS ce fi h (F1, F3, F4, liq) i).2.1) i 300), (upd ((bgS ce fi h (F1, F3, F4, liq) i).2.2.1) i 401), (((bgS ce fi h (F1, F3, F4, liq) i).2.2.2) + 1))).2.2.2)])), (a1, .inl (0, 108, .inl ((bhS i (z_hwf h (fi i)) 0 (((bgS ce fi h (F1, F3, F4, liq) i).1), (upd ((bgS ce fi h (F1, F3, F4, liq) i).2.1) i 300), (upd ((bgS ce fi h (F1, F3, F4, liq) i).2.2.1) i 401), (((bgS ce fi h (F1, F3, F4, liq) i).2.2.2) + 1))).1))), (a2, .inl (0, 108, .inl F2)), (a3, .inl (0, 108, .inl ((bhS i (z_hwf h (fi i)) 0 (((bgS ce fi h (F1, F3, F4, liq) i).1), (upd ((bgS ce fi h (F1, F3, F4, liq) i).2.1) i 300), (upd ((bgS ce fi h (F1, F3, F4, liq) i).2.2.1) i 401), (((bgS ce fi h (F1, F3, F4, liq) i).2.2.2) + 1))).2.1))), (a4, .inl (0, 108, .inl ((bhS i (z_hwf h (fi i)) 0 (((bgS ce fi h (F1, F3, F4, liq) i).1), (upd ((bgS ce fi h (F1, F3, F4, liq) i).2.1) i 300), (upd ((bgS ce fi h (F1, F3, F4, liq) i).2.2.1) i 401), (((bgS ce fi h (F1, F3, F4, liq) i).2.2.2) + 1))).2.2.1))), (a5, .inl (0, 108, .inl (toS ce fi 2 F5 i))), (a6, .inl (0, 108, .inl (toS ce fi 3 F6 i))), (b, .inl (1, 108, .inl ce)), (c, .inl (0, 108, .inl fi))]) rfl ?_
                refine r_istore (lv' := [(6, .int (oI (bs i 3))), (5, .int (oI (bs i 2))), (4, .int (nI i)), (0, .ref a), (1, .ref b), (2, .ref c), (3, .int h)]) d_Fz_begin_101 (by decide) rfl ?_
                refine r_aload_n d_Fz_begin_103 rfl 3 rfl ?_
                refine r_get fs_Fz_24 d_Fz_begin_104 (q0 := 0) rfl rfl ?_
                refine r_iload d_Fz_begin_107 2 rfl ?_
                refine r_iload d_Fz_begin_109 1 rfl ?_
                refine r_if_ge (tgt := 118) d_Fz_begin_111 (by decide) (fun c_111 => ?_) (fun c_111 => ?_)
                · obtain ⟨o, ho⟩ := oI_pos c_111
                  rw [ho]
                  refine r_aload_n d_Fz_begin_118 rfl 4 rfl ?_
                  refine r_aload_n d_Fz_begin_119 rfl 5 rfl ?_
                  refine r_iload d_Fz_begin_120 2 rfl ?_
                  refine r_iload d_Fz_begin_122 1 rfl ?_
                  refine r_callS (As := [.ref b, .ref c, .int (nI i), .int (nI o)]) (rest := [.int (nI i), .ref a5]) (csC := [(b, .inl (1, 108, .inl ce)), (c, .inl (0, 108, .inl fi))]) (is := [7, 8]) ln_Fz_45 w_st_Fz_passingBetween ok_Fz_begin_Fz_passingBetween d_Fz_begin_124 (C_Fz_passing g b c ce fi i o (by omega) (bs_lt (by omega) ho)) rfl rfl (Nat.le_of_ble_eq_true rfl) rfl (by decide) (by omega) (by omega) (fun E cs1 hx => ?_) (fun v cs1 hx => ?_)
                  · exact absurd hx.1 (by simp)
                  · obtain ⟨e1, rfl⟩ := hx
                    cases e1
                    refine ⟨rfl, ?_⟩
                    refine r_st (st2 := [.int (pbS ce fi i o), .int (nI i), .ref a5]) rfl ?_
                    refine r_cs (cs2 := [(a, .inr (2, [.ref a1, .ref a2, .ref a3, .ref a4, .ref a5, .ref a6, .int ((bhS i (z_hwf h (fi i)) 0 (((bgS ce fi h (F1, F3, F4, liq) i).1), (upd ((bgS ce fi h (F1, F3, F4, liq) i).2.1) i 300), (upd ((bgS ce fi h (F1, F3, F4, liq) i).2.2.1) i 401), (((bgS ce fi h (F1, F3, F4, liq) i).2.2.2) + 1))).2.2.2)])), (a1, .inl (0, 108, .inl ((bhS i (z_hwf h (fi i)) 0 (((bgS ce fi h (F1, F3, F4, liq) i).1), (upd ((bgS ce fi h (F1, F3, F4, liq) i).2.1) i 300), (upd ((bgS ce fi h (F1, F3, F4, liq) i).2.2.1) i 401), (((bgS ce fi h (F1, F3, F4, liq) i).2.2.2) + 1))).1))), (a2, .inl (0, 108, .inl F2)), (a3, .inl (0, 108, .inl ((bhS i (z_hwf h (fi i)) 0 (((bgS ce fi h (F1, F3, F4, liq) i).1), (upd ((bgS ce fi h (F1, F3, F4, liq) i).2.1) i 300), (upd ((bgS ce fi h (F1, F3, F4, liq) i).2.2.1) i 401), (((bgS ce fi h (F1, F3, F4, liq) i).2.2.2) + 1))).2.1))), (a4, .inl (0, 108, .inl ((bhS i (z_hwf h (fi i)) 0 (((bgS ce fi h (F1, F3, F4, liq) i).1), (upd ((bgS ce fi h (F1, F3, F4, liq) i).2.1) i 300), (upd ((bgS ce fi h (F1, F3, F4, liq) i).2.2.1) i 401), (((bgS ce fi h (F1, F3, F4, liq) i).2.2.2) + 1))).2.2.1))), (a5, .inl (0, 108, .inl (toS ce fi 2 F5 i))), (a6, .inl (0, 108, .inl (toS ce fi 3 F6 i))), (b, .inl (1, 108, .inl ce)), (c, .inl (0, 108, .inl fi))]) rfl ?_
                    refine r_iast d_Fz_begin_127 (q0 := 5) rfl (vp_in_nI (by omega) (by omega)) (f' := upd (toS ce fi 2 F5 i) i (pbS ce fi i o)) (by rw [nI_clamp (by omega)]) (cs' := [(a, .inr (2, [.ref a1, .ref a2, .ref a3, .ref a4, .ref a5, .ref a6, .int ((bhS i (z_hwf h (fi i)) 0 (((bgS ce fi h (F1, F3, F4, liq) i).1), (upd ((bgS ce fi h (F1, F3, F4, liq) i).2.1) i 300), (upd ((bgS ce fi h (F1, F3, F4, liq) i).2.2.1) i 401), (((bgS ce fi h (F1, F3, F4, liq) i).2.2.2) + 1))).2.2.2)])), (a1, .inl (0, 108, .inl ((bhS i (z_hwf h (fi i)) 0 (((bgS ce fi h (F1, F3, F4, liq) i).1), (upd ((bgS ce fi h (F1, F3, F4, liq) i).2.1) i 300), (upd ((bgS ce fi h (F1, F3, F4, liq) i).2.2.1) i 401), (((bgS ce fi h (F1, F3, F4, liq) i).2.2.2) + 1))).1))), (a2, .inl (0, 108, .inl F2)), (a3, .inl (0, 108, .inl ((bhS i (z_hwf h (fi i)) 0 (((bgS ce fi h (F1, F3, F4, liq) i).1), (upd ((bgS ce fi h (F1, F3, F4, liq) i).2.1) i 300), (upd ((bgS ce fi h (F1, F3, F4, liq) i).2.2.1) i 401), (((bgS ce fi h (F1, F3, F4, liq) i).2.2.2) + 1))).2.1))), (a4, .inl (0, 108, .inl ((bhS i (z_hwf h (fi i)) 0 (((bgS ce fi h (F1, F3, F4, liq) i).1), (upd ((bgS ce fi h (F1, F3, F4, liq) i).2.1) i 300), (upd ((bgS ce fi h (F1, F3, F4, liq) i).2.2.1) i 401), (((bgS ce fi h (F1, F3, F4, liq) i).2.2.2) + 1))).2.2.1))), (a5, .inl (0, 108, .inl (upd (toS ce fi 2 F5 i) i (pbS ce fi i o)))), (a6, .inl (0, 108, .inl (toS ce fi 3 F6 i))), (b, .inl (1, 108, .inl ce)), (c, .inl (0, 108, .inl fi))]) rfl ?_
                    refine r_aload_n d_Fz_begin_128 rfl 3 rfl ?_
                    refine r_get fs_Fz_27 d_Fz_begin_129 (q0 := 0) rfl rfl ?_
                    refine r_iload d_Fz_begin_132 2 rfl ?_
                    refine r_iload d_Fz_begin_134 0 rfl ?_
                    refine r_if_ge (tgt := 143) d_Fz_begin_136 (by decide) (fun c_136 => ?_) (fun c_136 => ?_)
                    · obtain ⟨o2, hb⟩ := oI_pos c_136
                      rw [hb]
                      refine r_aload_n d_Fz_begin_143 rfl 4 rfl ?_
                      refine r_aload_n d_Fz_begin_144 rfl 5 rfl ?_
                      refine r_iload d_Fz_begin_145 2 rfl ?_
                      refine r_iload d_Fz_begin_147 0 rfl ?_
                      refine r_callS (As := [.ref b, .ref c, .int (nI i), .int (nI o2)]) (rest := [.int (nI i), .ref a6]) (csC := [(b, .inl (1, 108, .inl ce)), (c, .inl (0, 108, .inl fi))]) (is := [7, 8]) ln_Fz_45 w_st_Fz_passingBetween ok_Fz_begin_Fz_passingBetween d_Fz_begin_149 (C_Fz_passing g b c ce fi i o2 (by omega) (bs_lt (by omega) hb)) rfl rfl (Nat.le_of_ble_eq_true rfl) rfl (by decide) (by omega) (by omega) (fun E cs1 hx => ?_) (fun v cs1 hx => ?_)
                      · exact absurd hx.1 (by simp)
                      · obtain ⟨e1, rfl⟩ := hx
                        cases e1
                        refine ⟨rfl, ?_⟩
                        refine r_st (st2 := [.int (pbS ce fi i o2), .int (nI i), .ref a6]) rfl ?_
                        refine r_cs (cs2 := [(a, .inr (2, [.ref a1, .ref a2, .ref a3, .ref a4, .ref a5, .ref a6, .int ((bhS i (z_hwf h (fi i)) 0 (((bgS ce fi h (F1, F3, F4, liq) i).1), (upd ((bgS ce fi h (F1, F3, F4, liq) i).2.1) i 300), (upd ((bgS ce fi h (F1, F3, F4, liq) i).2.2.1) i 401), (((bgS ce fi h (F1, F3, F4, liq) i).2.2.2) + 1))).2.2.2)])), (a1, .inl (0, 108, .inl ((bhS i (z_hwf h (fi i)) 0 (((bgS ce fi h (F1, F3, F4, liq) i).1), (upd ((bgS ce fi h (F1, F3, F4, liq) i).2.1) i 300), (upd ((bgS ce fi h (F1, F3, F4, liq) i).2.2.1) i 401), (((bgS ce fi h (F1, F3, F4, liq) i).2.2.2) + 1))).1))), (a2, .inl (0, 108, .inl F2)), (a3, .inl (0, 108, .inl ((bhS i (z_hwf h (fi i)) 0 (((bgS ce fi h (F1, F3, F4, liq) i).1), (upd ((bgS ce fi h (F1, F3, F4, liq) i).2.1) i 300), (upd ((bgS ce fi h (F1, F3, F4, liq) i).2.2.1) i 401), (((bgS ce fi h (F1, F3, F4, liq) i).2.2.2) + 1))).2.1))), (a4, .inl (0, 108, .inl ((bhS i (z_hwf h (fi i)) 0 (((bgS ce fi h (F1, F3, F4, liq) i).1), (upd ((bgS ce fi h (F1, F3, F4, liq) i).2.1) i 300), (upd ((bgS ce fi h (F1, F3, F4, liq) i).2.2.1) i 401), (((bgS ce fi h (F1, F3, F4, liq) i).2.2.2) + 1))).2.2.1))), (a5, .inl (0, 108, .inl (upd (toS ce fi 2 F5 i) i (pbS ce fi i o)))), (a6, .inl (0, 108, .inl (toS ce fi 3 F6 i))), (b, .inl (1, 108, .inl ce)), (c, .inl (0, 108, .inl fi))]) rfl ?_
                        refine r_iast d_Fz_begin_152 (q0 := 6) rfl (vp_in_nI (by omega) (by omega)) (f' := upd (toS ce fi 3 F6 i) i (pbS ce fi i o2)) (by rw [nI_clamp (by omega)]) (cs' := [(a, .inr (2, [.ref a1, .ref a2, .ref a3, .ref a4, .ref a5, .ref a6, .int ((bhS i (z_hwf h (fi i)) 0 (((bgS ce fi h (F1, F3, F4, liq) i).1), (upd ((bgS ce fi h (F1, F3, F4, liq) i).2.1) i 300), (upd ((bgS ce fi h (F1, F3, F4, liq) i).2.2.1) i 401), (((bgS ce fi h (F1, F3, F4, liq) i).2.2.2) + 1))).2.2.2)])), (a1, .inl (0, 108, .inl ((bhS i (z_hwf h (fi i)) 0 (((bgS ce fi h (F1, F3, F4, liq) i).1), (upd ((bgS ce fi h (F1, F3, F4, liq) i).2.1) i 300), (upd ((bgS ce fi h (F1, F3, F4, liq) i).2.2.1) i 401), (((bgS ce fi h (F1, F3, F4, liq) i).2.2.2) + 1))).1))), (a2, .inl (0, 108, .inl F2)), (a3, .inl (0, 108, .inl ((bhS i (z_hwf h (fi i)) 0 (((bgS ce fi h (F1, F3, F4, liq) i).1), (upd ((bgS ce fi h (F1, F3, F4, liq) i).2.1) i 300), (upd ((bgS ce fi h (F1, F3, F4, liq) i).2.2.1) i 401), (((bgS ce fi h (F1, F3, F4, liq) i).2.2.2) + 1))).2.1))), (a4, .inl (0, 108, .inl ((bhS i (z_hwf h (fi i)) 0 (((bgS ce fi h (F1, F3, F4, liq) i).1), (upd ((bgS ce fi h (F1, F3, F4, liq) i).2.1) i 300), (upd ((bgS ce fi h (F1, F3, F4, liq) i).2.2.1) i 401), (((bgS ce fi h (F1, F3, F4, liq) i).2.2.2) + 1))).2.2.1))), (a5, .inl (0, 108, .inl (upd (toS ce fi 2 F5 i) i (pbS ce fi i o)))), (a6, .inl (0, 108, .inl (upd (toS ce fi 3 F6 i) i (pbS ce fi i o2)))), (b, .inl (1, 108, .inl ce)), (c, .inl (0, 108, .inl fi))]) rfl ?_
                        refine r_iinc (lv' := [(4, .int (nI (i + 1))), (6, .int (nI o2)), (5, .int (nI o)), (0, .ref a), (1, .ref b), (2, .ref c), (3, .int h)]) (v := nI (i + 1)) d_Fz_begin_153 (j := 2) rfl (nI_add _ _) (by decide) rfl ?_
                        refine r_goto (tgt := 8) d_Fz_begin_156 (by decide) ?_
                        refine r_lv (lv' := [(4, .int (nI (i + 1))), (0, .ref a), (1, .ref b), (2, .ref c), (3, .int h)]) [0, 3, 4, 5, 6] rfl ?_
                        refine r_lvE (lv2 := [(4, .int (nI (i + 1))), (0, .ref a), (1, .ref b), (2, .ref c), (3, .int h)]) (rfl) ?_
                        refine r_cs (cs2 := [(a, .inr (2, [.ref a1, .ref a2, .ref a3, .ref a4, .ref a5, .ref a6, .int ((bgS ce fi h (F1, F3, F4, liq) (i + 1)).2.2.2)])), (a1, .inl (0, 108, .inl ((bgS ce fi h (F1, F3, F4, liq) (i + 1)).1))), (a2, .inl (0, 108, .inl F2)), (a3, .inl (0, 108, .inl ((bgS ce fi h (F1, F3, F4, liq) (i + 1)).2.1))), (a4, .inl (0, 108, .inl ((bgS ce fi h (F1, F3, F4, liq) (i + 1)).2.2.1))), (a5, .inl (0, 108, .inl (toS ce fi 2 F5 (i + 1)))), (a6, .inl (0, 108, .inl (toS ce fi 3 F6 (i + 1)))), (b, .inl (1, 108, .inl ce)), (c, .inl (0, 108, .inl fi))]) (by first | (rw [bgS_t hfi, toS_x ho, toS_x hb] <;> rfl) | (rw [bgS_f hfi, toS_x ho, toS_x hb] <;> rfl)) ?_
                        exact ih (i + 1) (by omega) (by omega)
                    · have hb := oI_neg (by omega) c_136
                      refine r_iconst d_Fz_begin_139 (v := 0) (by decide) ?_
                      refine r_goto (tgt := 152) d_Fz_begin_140 (by decide) ?_
                      refine r_iast d_Fz_begin_152 (q0 := 6) rfl (vp_in_nI (by omega) (by omega)) (f' := upd (toS ce fi 3 F6 i) i 0) (by rw [nI_clamp (by omega)]) (cs' := [(a, .inr (2, [.ref a1, .ref a2, .ref a3, .ref a4, .ref a5, .ref a6, .int ((bhS i (z_hwf h (fi i)) 0 (((bgS ce fi h (F1, F3, F4, liq) i).1), (upd ((bgS ce fi h (F1, F3, F4, liq) i).2.1) i 300), (upd ((bgS ce fi h (F1, F3, F4, liq) i).2.2.1) i 401), (((bgS ce fi h (F1, F3, F4, liq) i).2.2.2) + 1))).2.2.2)])), (a1, .inl (0, 108, .inl ((bhS i (z_hwf h (fi i)) 0 (((bgS ce fi h (F1, F3, F4, liq) i).1), (upd ((bgS ce fi h (F1, F3, F4, liq) i).2.1) i 300), (upd ((bgS ce fi h (F1, F3, F4, liq) i).2.2.1) i 401), (((bgS ce fi h (F1, F3, F4, liq) i).2.2.2) + 1))).1))), (a2, .inl (0, 108, .inl F2)), (a3, .inl (0, 108, .inl ((bhS i (z_hwf h (fi i)) 0 (((bgS ce fi h (F1, F3, F4, liq) i).1), (upd ((bgS ce fi h (F1, F3, F4, liq) i).2.1) i 300), (upd ((bgS ce fi h (F1, F3, F4, liq) i).2.2.1) i 401), (((bgS ce fi h (F1, F3, F4, liq) i).2.2.2) + 1))).2.1))), (a4, .inl (0, 108, .inl ((bhS i (z_hwf h (fi i)) 0 (((bgS ce fi h (F1, F3, F4, liq) i).1), (upd ((bgS ce fi h (F1, F3, F4, liq) i).2.1) i 300), (upd ((bgS ce fi h (F1, F3, F4, liq) i).2.2.1) i 401), (((bgS ce fi h (F1, F3, F4, liq) i).2.2.2) + 1))).2.2.1))), (a5, .inl (0, 108, .inl (upd (toS ce fi 2 F5 i) i (pbS ce fi i o)))), (a6, .inl (0, 108, .inl (upd (toS ce fi 3 F6 i) i 0))), (b, .inl (1, 108, .inl ce)), (c, .inl (0, 108, .inl fi))]) rfl ?_
                      refine r_iinc (lv' := [(4, .int (nI (i + 1))), (6, .int (oI (bs i 3))), (5, .int (nI o)), (0, .ref a), (1, .ref b), (2, .ref c), (3, .int h)]) (v := nI (i + 1)) d_Fz_begin_153 (j := 2) rfl (nI_add _ _) (by decide) rfl ?_
                      refine r_goto (tgt := 8) d_Fz_begin_156 (by decide) ?_
                      refine r_lv (lv' := [(4, .int (nI (i + 1))), (0, .ref a), (1, .ref b), (2, .ref c), (3, .int h)]) [0, 3, 4, 5, 6] rfl ?_
                      refine r_lvE (lv2 := [(4, .int (nI (i + 1))), (0, .ref a), (1, .ref b), (2, .ref c), (3, .int h)]) (rfl) ?_
                      refine r_cs (cs2 := [(a, .inr (2, [.ref a1, .ref a2, .ref a3, .ref a4, .ref a5, .ref a6, .int ((bgS ce fi h (F1, F3, F4, liq) (i + 1)).2.2.2)])), (a1, .inl (0, 108, .inl ((bgS ce fi h (F1, F3, F4, liq) (i + 1)).1))), (a2, .inl (0, 108, .inl F2)), (a3, .inl (0, 108, .inl ((bgS ce fi h (F1, F3, F4, liq) (i + 1)).2.1))), (a4, .inl (0, 108, .inl ((bgS ce fi h (F1, F3, F4, liq) (i + 1)).2.2.1))), (a5, .inl (0, 108, .inl (toS ce fi 2 F5 (i + 1)))), (a6, .inl (0, 108, .inl (toS ce fi 3 F6 (i + 1)))), (b, .inl (1, 108, .inl ce)), (c, .inl (0, 108, .inl fi))]) (by first | (rw [bgS_t hfi, toS_x ho, toS_x hb] <;> rfl) | (rw [bgS_f hfi, toS_x ho, toS_x hb] <;> rfl)) ?_
                      exact ih (i + 1) (by omega) (by omega)
                · have ho := oI_neg (by omega) c_111
                  refine r_iconst d_Fz_begin_114 (v := 0) (by decide) ?_
                  refine r_goto (tgt := 127) d_Fz_begin_115 (by decide) ?_
                  refine r_iast d_Fz_begin_127 (q0 := 5) rfl (vp_in_nI (by omega) (by omega)) (f' := upd (toS ce fi 2 F5 i) i 0) (by rw [nI_clamp (by omega)]) (cs' := [(a, .inr (2, [.ref a1, .ref a2, .ref a3, .ref a4, .ref a5, .ref a6, .int ((bhS i (z_hwf h (fi i)) 0 (((bgS ce fi h (F1, F3, F4, liq) i).1), (upd ((bgS ce fi h (F1, F3, F4, liq) i).2.1) i 300), (upd ((bgS ce fi h (F1, F3, F4, liq) i).2.2.1) i 401), (((bgS ce fi h (F1, F3, F4, liq) i).2.2.2) + 1))).2.2.2)])), (a1, .inl (0, 108, .inl ((bhS i (z_hwf h (fi i)) 0 (((bgS ce fi h (F1, F3, F4, liq) i).1), (upd ((bgS ce fi h (F1, F3, F4, liq) i).2.1) i 300), (upd ((bgS ce fi h (F1, F3, F4, liq) i).2.2.1) i 401), (((bgS ce fi h (F1, F3, F4, liq) i).2.2.2) + 1))).1))), (a2, .inl (0, 108, .inl F2)), (a3, .inl (0, 108, .inl ((bhS i (z_hwf h (fi i)) 0 (((bgS ce fi h (F1, F3, F4, liq) i).1), (upd ((bgS ce fi h (F1, F3, F4, liq) i).2.1) i 300), (upd ((bgS ce fi h (F1, F3, F4, liq) i).2.2.1) i 401), (((bgS ce fi h (F1, F3, F4, liq) i).2.2.2) + 1))).2.1))), (a4, .inl (0, 108, .inl ((bhS i (z_hwf h (fi i)) 0 (((bgS ce fi h (F1, F3, F4, liq) i).1), (upd ((bgS ce fi h (F1, F3, F4, liq) i).2.1) i 300), (upd ((bgS ce fi h (F1, F3, F4, liq) i).2.2.1) i 401), (((bgS ce fi h (F1, F3, F4, liq) i).2.2.2) + 1))).2.2.1))), (a5, .inl (0, 108, .inl (upd (toS ce fi 2 F5 i) i 0))), (a6, .inl (0, 108, .inl (toS ce fi 3 F6 i))), (b, .inl (1, 108, .inl ce)), (c, .inl (0, 108, .inl fi))]) rfl ?_
                  refine r_aload_n d_Fz_begin_128 rfl 3 rfl ?_
                  refine r_get fs_Fz_27 d_Fz_begin_129 (q0 := 0) rfl rfl ?_
                  refine r_iload d_Fz_begin_132 2 rfl ?_
                  refine r_iload d_Fz_begin_134 0 rfl ?_
                  refine r_if_ge (tgt := 143) d_Fz_begin_136 (by decide) (fun c_136 => ?_) (fun c_136 => ?_)
                  · obtain ⟨o2, hb⟩ := oI_pos c_136
                    rw [hb]
                    refine r_aload_n d_Fz_begin_143 rfl 4 rfl ?_
                    refine r_aload_n d_Fz_begin_144 rfl 5 rfl ?_
                    refine r_iload d_Fz_begin_145 2 rfl ?_
                    refine r_iload d_Fz_begin_147 0 rfl ?_
                    refine r_callS (As := [.ref b, .ref c, .int (nI i), .int (nI o2)]) (rest := [.int (nI i), .ref a6]) (csC := [(b, .inl (1, 108, .inl ce)), (c, .inl (0, 108, .inl fi))]) (is := [7, 8]) ln_Fz_45 w_st_Fz_passingBetween ok_Fz_begin_Fz_passingBetween d_Fz_begin_149 (C_Fz_passing g b c ce fi i o2 (by omega) (bs_lt (by omega) hb)) rfl rfl (Nat.le_of_ble_eq_true rfl) rfl (by decide) (by omega) (by omega) (fun E cs1 hx => ?_) (fun v cs1 hx => ?_)
                    · exact absurd hx.1 (by simp)
                    · obtain ⟨e1, rfl⟩ := hx
                      cases e1
                      refine ⟨rfl, ?_⟩
                      refine r_st (st2 := [.int (pbS ce fi i o2), .int (nI i), .ref a6]) rfl ?_
                      refine r_cs (cs2 := [(a, .inr (2, [.ref a1, .ref a2, .ref a3, .ref a4, .ref a5, .ref a6, .int ((bhS i (z_hwf h (fi i)) 0 (((bgS ce fi h (F1, F3, F4, liq) i).1), (upd ((bgS ce fi h (F1, F3, F4, liq) i).2.1) i 300), (upd ((bgS ce fi h (F1, F3, F4, liq) i).2.2.1) i 401), (((bgS ce fi h (F1, F3, F4, liq) i).2.2.2) + 1))).2.2.2)])), (a1, .inl (0, 108, .inl ((bhS i (z_hwf h (fi i)) 0 (((bgS ce fi h (F1, F3, F4, liq) i).1), (upd ((bgS ce fi h (F1, F3, F4, liq) i).2.1) i 300), (upd ((bgS ce fi h (F1, F3, F4, liq) i).2.2.1) i 401), (((bgS ce fi h (F1, F3, F4, liq) i).2.2.2) + 1))).1))), (a2, .inl (0, 108, .inl F2)), (a3, .inl (0, 108, .inl ((bhS i (z_hwf h (fi i)) 0 (((bgS ce fi h (F1, F3, F4, liq) i).1), (upd ((bgS ce fi h (F1, F3, F4, liq) i).2.1) i 300), (upd ((bgS ce fi h (F1, F3, F4, liq) i).2.2.1) i 401), (((bgS ce fi h (F1, F3, F4, liq) i).2.2.2) + 1))).2.1))), (a4, .inl (0, 108, .inl ((bhS i (z_hwf h (fi i)) 0 (((bgS ce fi h (F1, F3, F4, liq) i).1), (upd ((bgS ce fi h (F1, F3, F4, liq) i).2.1) i 300), (upd ((bgS ce fi h (F1, F3, F4, liq) i).2.2.1) i 401), (((bgS ce fi h (F1, F3, F4, liq) i).2.2.2) + 1))).2.2.1))), (a5, .inl (0, 108, .inl (upd (toS ce fi 2 F5 i) i 0))), (a6, .inl (0, 108, .inl (toS ce fi 3 F6 i))), (b, .inl (1, 108, .inl ce)), (c, .inl (0, 108, .inl fi))]) rfl ?_
                      refine r_iast d_Fz_begin_152 (q0 := 6) rfl (vp_in_nI (by omega) (by omega)) (f' := upd (toS ce fi 3 F6 i) i (pbS ce fi i o2)) (by rw [nI_clamp (by omega)]) (cs' := [(a, .inr (2, [.ref a1, .ref a2, .ref a3, .ref a4, .ref a5, .ref a6, .int ((bhS i (z_hwf h (fi i)) 0 (((bgS ce fi h (F1, F3, F4, liq) i).1), (upd ((bgS ce fi h (F1, F3, F4, liq) i).2.1) i 300), (upd ((bgS ce fi h (F1, F3, F4, liq) i).2.2.1) i 401), (((bgS ce fi h (F1, F3, F4, liq) i).2.2.2) + 1))).2.2.2)])), (a1, .inl (0, 108, .inl ((bhS i (z_hwf h (fi i)) 0 (((bgS ce fi h (F1, F3, F4, liq) i).1), (upd ((bgS ce fi h (F1, F3, F4, liq) i).2.1) i 300), (upd ((bgS ce fi h (F1, F3, F4, liq) i).2.2.1) i 401), (((bgS ce fi h (F1, F3, F4, liq) i).2.2.2) + 1))).1))), (a2, .inl (0, 108, .inl F2)), (a3, .inl (0, 108, .inl ((bhS i (z_hwf h (fi i)) 0 (((bgS ce fi h (F1, F3, F4, liq) i).1), (upd ((bgS ce fi h (F1, F3, F4, liq) i).2.1) i 300), (upd ((bgS ce fi h (F1, F3, F4, liq) i).2.2.1) i 401), (((bgS ce fi h (F1, F3, F4, liq) i).2.2.2) + 1))).2.1))), (a4, .inl (0, 108, .inl ((bhS i (z_hwf h (fi i)) 0 (((bgS ce fi h (F1, F3, F4, liq) i).1), (upd ((bgS ce fi h (F1, F3, F4, liq) i).2.1) i 300), (upd ((bgS ce fi h (F1, F3, F4, liq) i).2.2.1) i 401), (((bgS ce fi h (F1, F3, F4, liq) i).2.2.2) + 1))).2.2.1))), (a5, .inl (0, 108, .inl (upd (toS ce fi 2 F5 i) i 0))), (a6, .inl (0, 108, .inl (upd (toS ce fi 3 F6 i) i (pbS ce fi i o2)))), (b, .inl (1, 108, .inl ce)), (c, .inl (0, 108, .inl fi))]) rfl ?_
                      refine r_iinc (lv' := [(4, .int (nI (i + 1))), (6, .int (nI o2)), (5, .int (oI (bs i 2))), (0, .ref a), (1, .ref b), (2, .ref c), (3, .int h)]) (v := nI (i + 1)) d_Fz_begin_153 (j := 2) rfl (nI_add _ _) (by decide) rfl ?_
                      refine r_goto (tgt := 8) d_Fz_begin_156 (by decide) ?_
                      refine r_lv (lv' := [(4, .int (nI (i + 1))), (0, .ref a), (1, .ref b), (2, .ref c), (3, .int h)]) [0, 3, 4, 5, 6] rfl ?_
                      refine r_lvE (lv2 := [(4, .int (nI (i + 1))), (0, .ref a), (1, .ref b), (2, .ref c), (3, .int h)]) (rfl) ?_
                      refine r_cs (cs2 := [(a, .inr (2, [.ref a1, .ref a2, .ref a3, .ref a4, .ref a5, .ref a6, .int ((bgS ce fi h (F1, F3, F4, liq) (i + 1)).2.2.2)])), (a1, .inl (0, 108, .inl ((bgS ce fi h (F1, F3, F4, liq) (i + 1)).1))), (a2, .inl (0, 108, .inl F2)), (a3, .inl (0, 108, .inl ((bgS ce fi h (F1, F3, F4, liq) (i + 1)).2.1))), (a4, .inl (0, 108, .inl ((bgS ce fi h (F1, F3, F4, liq) (i + 1)).2.2.1))), (a5, .inl (0, 108, .inl (toS ce fi 2 F5 (i + 1)))), (a6, .inl (0, 108, .inl (toS ce fi 3 F6 (i + 1)))), (b, .inl (1, 108, .inl ce)), (c, .inl (0, 108, .inl fi))]) (by first | (rw [bgS_t hfi, toS_x ho, toS_x hb] <;> rfl) | (rw [bgS_f hfi, toS_x ho, toS_x hb] <;> rfl)) ?_
                      exact ih (i + 1) (by omega) (by omega)
                  · have hb := oI_neg (by omega) c_136
                    refine r_iconst d_Fz_begin_139 (v := 0) (by decide) ?_
                    refine r_goto (tgt := 152) d_Fz_begin_140 (by decide) ?_
                    refine r_iast d_Fz_begin_152 (q0 := 6) rfl (vp_in_nI (by omega) (by omega)) (f' := upd (toS ce fi 3 F6 i) i 0) (by rw [nI_clamp (by omega)]) (cs' := [(a, .inr (2, [.ref a1, .ref a2, .ref a3, .ref a4, .ref a5, .ref a6, .int ((bhS i (z_hwf h (fi i)) 0 (((bgS ce fi h (F1, F3, F4, liq) i).1), (upd ((bgS ce fi h (F1, F3, F4, liq) i).2.1) i 300), (upd ((bgS ce fi h (F1, F3, F4, liq) i).2.2.1) i 401), (((bgS ce fi h (F1, F3, F4, liq) i).2.2.2) + 1))).2.2.2)])), (a1, .inl (0, 108, .inl ((bhS i (z_hwf h (fi i)) 0 (((bgS ce fi h (F1, F3, F4, liq) i).1), (upd ((bgS ce fi h (F1, F3, F4, liq) i).2.1) i 300), (upd ((bgS ce fi h (F1, F3, F4, liq) i).2.2.1) i 401), (((bgS ce fi h (F1, F3, F4, liq) i).2.2.2) + 1))).1))), (a2, .inl (0, 108, .inl F2)), (a3, .inl (0, 108, .inl ((bhS i (z_hwf h (fi i)) 0 (((bgS ce fi h (F1, F3, F4, liq) i).1), (upd ((bgS ce fi h (F1, F3, F4, liq) i).2.1) i 300), (upd ((bgS ce fi h (F1, F3, F4, liq) i).2.2.1) i 401), (((bgS ce fi h (F1, F3, F4, liq) i).2.2.2) + 1))).2.1))), (a4, .inl (0, 108, .inl ((bhS i (z_hwf h (fi i)) 0 (((bgS ce fi h (F1, F3, F4, liq) i).1), (upd ((bgS ce fi h (F1, F3, F4, liq) i).2.1) i 300), (upd ((bgS ce fi h (F1, F3, F4, liq) i).2.2.1) i 401), (((bgS ce fi h (F1, F3, F4, liq) i).2.2.2) + 1))).2.2.1))), (a5, .inl (0, 108, .inl (upd (toS ce fi 2 F5 i) i 0))), (a6, .inl (0, 108, .inl (upd (toS ce fi 3 F6 i) i 0))), (b, .inl (1, 108, .inl ce)), (c, .inl (0, 108, .inl fi))]) rfl ?_
                    refine r_iinc (lv' := [(4, .int (nI (i + 1))), (6, .int (oI (bs i 3))), (5, .int (oI (bs i 2))), (0, .ref a), (1, .ref b), (2, .ref c), (3, .int h)]) (v := nI (i + 1)) d_Fz_begin_153 (j := 2) rfl (nI_add _ _) (by decide) rfl ?_
                    refine r_goto (tgt := 8) d_Fz_begin_156 (by decide) ?_
                    refine r_lv (lv' := [(4, .int (nI (i + 1))), (0, .ref a), (1, .ref b), (2, .ref c), (3, .int h)]) [0, 3, 4, 5, 6] rfl ?_
                    refine r_lvE (lv2 := [(4, .int (nI (i + 1))), (0, .ref a), (1, .ref b), (2, .ref c), (3, .int h)]) (rfl) ?_
                    refine r_cs (cs2 := [(a, .inr (2, [.ref a1, .ref a2, .ref a3, .ref a4, .ref a5, .ref a6, .int ((bgS ce fi h (F1, F3, F4, liq) (i + 1)).2.2.2)])), (a1, .inl (0, 108, .inl ((bgS ce fi h (F1, F3, F4, liq) (i + 1)).1))), (a2, .inl (0, 108, .inl F2)), (a3, .inl (0, 108, .inl ((bgS ce fi h (F1, F3, F4, liq) (i + 1)).2.1))), (a4, .inl (0, 108, .inl ((bgS ce fi h (F1, F3, F4, liq) (i + 1)).2.2.1))), (a5, .inl (0, 108, .inl (toS ce fi 2 F5 (i + 1)))), (a6, .inl (0, 108, .inl (toS ce fi 3 F6 (i + 1)))), (b, .inl (1, 108, .inl ce)), (c, .inl (0, 108, .inl fi))]) (by first | (rw [bgS_t hfi, toS_x ho, toS_x hb] <;> rfl) | (rw [bgS_f hfi, toS_x ho, toS_x hb] <;> rfl)) ?_
                    exact ih (i + 1) (by omega) (by omega)
      · have hfi : fi i < 0 := Int32.not_le.mp c_29
        refine r_aload_n d_Fz_begin_32 rfl 1 rfl ?_
        refine r_get fs_Fz_21 d_Fz_begin_33 (q0 := 0) rfl rfl ?_
        refine r_iload d_Fz_begin_36 0 rfl ?_
        refine r_iconst d_Fz_begin_38 (v := (-1)) (by decide) ?_
        refine r_iast d_Fz_begin_39 (q0 := 4) rfl (vp_in_nI (by omega) (by omega)) (f' := upd ((bgS ce fi h (F1, F3, F4, liq) i).2.2.1) i (-1)) (by rw [nI_clamp (by omega)]) (cs' := [(a, .inr (2, [.ref a1, .ref a2, .ref a3, .ref a4, .ref a5, .ref a6, .int ((bgS ce fi h (F1, F3, F4, liq) i).2.2.2)])), (a1, .inl (0, 108, .inl ((bgS ce fi h (F1, F3, F4, liq) i).1))), (a2, .inl (0, 108, .inl F2)), (a3, .inl (0, 108, .inl (upd ((bgS ce fi h (F1, F3, F4, liq) i).2.1) i 300))), (a4, .inl (0, 108, .inl (upd ((bgS ce fi h (F1, F3, F4, liq) i).2.2.1) i (-1)))), (a5, .inl (0, 108, .inl (toS ce fi 2 F5 i))), (a6, .inl (0, 108, .inl (toS ce fi 3 F6 i))), (b, .inl (1, 108, .inl ce)), (c, .inl (0, 108, .inl fi))]) rfl ?_
        refine r_aload_n d_Fz_begin_40 rfl 1 rfl ?_
        refine r_get fs_Fz_9 d_Fz_begin_41 (q0 := 0) rfl rfl ?_
        refine r_iload d_Fz_begin_44 0 rfl ?_
        refine r_bipush d_Fz_begin_46 (v := 20) (by decide) ?_
        refine r_iast d_Fz_begin_48 (q0 := 1) rfl (vp_in_nI (by omega) (by omega)) (f' := upd ((bgS ce fi h (F1, F3, F4, liq) i).1) i 20) (by rw [nI_clamp (by omega)]) (cs' := [(a, .inr (2, [.ref a1, .ref a2, .ref a3, .ref a4, .ref a5, .ref a6, .int ((bgS ce fi h (F1, F3, F4, liq) i).2.2.2)])), (a1, .inl (0, 108, .inl (upd ((bgS ce fi h (F1, F3, F4, liq) i).1) i 20))), (a2, .inl (0, 108, .inl F2)), (a3, .inl (0, 108, .inl (upd ((bgS ce fi h (F1, F3, F4, liq) i).2.1) i 300))), (a4, .inl (0, 108, .inl (upd ((bgS ce fi h (F1, F3, F4, liq) i).2.2.1) i (-1)))), (a5, .inl (0, 108, .inl (toS ce fi 2 F5 i))), (a6, .inl (0, 108, .inl (toS ce fi 3 F6 i))), (b, .inl (1, 108, .inl ce)), (c, .inl (0, 108, .inl fi))]) rfl ?_
        refine r_goto (tgt := 87) d_Fz_begin_49 (by decide) ?_
        refine r_iload d_Fz_begin_87 0 rfl ?_
        refine r_iconst d_Fz_begin_89 (v := 2) (by decide) ?_
        refine r_callSN (As := [.int (nI i), .int 2]) (rest := []) (csC := []) (is := []) ln_Fz_42 w_st_Ip_beside ok_Fz_begin_Ip_beside d_Fz_begin_90 (C_Ip_beside g i 2 (by omega) (by decide)) rfl rfl (Nat.le_of_ble_eq_true rfl) rfl (by decide) (by omega) (by omega) (fun E cs1 hx => ?_) (fun v cs1 hx => ?_)
        · exact absurd hx.1 (by simp)
        · obtain ⟨e1, rfl⟩ := hx
          cases e1
          refine ⟨rfl, ?_⟩
          refine r_st (st2 := [.int (oI (bs i 2))]) rfl ?_
          refine r_cs (cs2 := [(a, .inr (2, [.ref a1, .ref a2, .ref a3, .ref a4, .ref a5, .ref a6, .int ((bgS ce fi h (F1, F3, F4, liq) i).2.2.2)])), (a1, .inl (0, 108, .inl (upd ((bgS ce fi h (F1, F3, F4, liq) i).1) i 20))), (a2, .inl (0, 108, .inl F2)), (a3, .inl (0, 108, .inl (upd ((bgS ce fi h (F1, F3, F4, liq) i).2.1) i 300))), (a4, .inl (0, 108, .inl (upd ((bgS ce fi h (F1, F3, F4, liq) i).2.2.1) i (-1)))), (a5, .inl (0, 108, .inl (toS ce fi 2 F5 i))), (a6, .inl (0, 108, .inl (toS ce fi 3 F6 i))), (b, .inl (1, 108, .inl ce)), (c, .inl (0, 108, .inl fi))]) rfl ?_
          refine r_istore (lv' := [(5, .int (oI (bs i 2))), (4, .int (nI i)), (0, .ref a), (1, .ref b), (2, .ref c), (3, .int h)]) d_Fz_begin_93 (by decide) rfl ?_
          refine r_iload d_Fz_begin_95 1 rfl ?_
          refine r_iconst d_Fz_begin_97 (v := 3) (by decide) ?_
          refine r_callSN (As := [.int (nI i), .int 3]) (rest := []) (csC := []) (is := []) ln_Fz_42 w_st_Ip_beside ok_Fz_begin_Ip_beside d_Fz_begin_98 (C_Ip_beside g i 3 (by omega) (by decide)) rfl rfl (Nat.le_of_ble_eq_true rfl) rfl (by decide) (by omega) (by omega) (fun E cs1 hx => ?_) (fun v cs1 hx => ?_)
          · exact absurd hx.1 (by simp)
          · obtain ⟨e1, rfl⟩ := hx
            cases e1
            refine ⟨rfl, ?_⟩
            refine r_st (st2 := [.int (oI (bs i 3))]) rfl ?_
            refine r_cs (cs2 := [(a, .inr (2, [.ref a1, .ref a2, .ref a3, .ref a4, .ref a5, .ref a6, .int ((bgS ce fi h (F1, F3, F4, liq) i).2.2.2)])), (a1, .inl (0, 108, .inl (upd ((bgS ce fi h (F1, F3, F4, liq) i).1) i 20))), (a2, .inl (0, 108, .inl F2)), (a3, .inl (0, 108, .inl (upd ((bgS ce fi h (F1, F3, F4, liq) i).2.1) i 300))), (a4, .inl (0, 108, .inl (upd ((bgS ce fi h (F1, F3, F4, liq) i).2.2.1) i (-1)))), (a5, .inl (0, 108, .inl (toS ce fi 2 F5 i))), (a6, .inl (0, 108, .inl (toS ce fi 3 F6 i))), (b, .inl (1, 108, .inl ce)), (c, .inl (0, 108, .inl fi))]) rfl ?_
            refine r_istore (lv' := [(6, .int (oI (bs i 3))), (5, .int (oI (bs i 2))), (4, .int (nI i)), (0, .ref a), (1, .ref b), (2, .ref c), (3, .int h)]) d_Fz_begin_101 (by decide) rfl ?_
            refine r_aload_n d_Fz_begin_103 rfl 3 rfl ?_
            refine r_get fs_Fz_24 d_Fz_begin_104 (q0 := 0) rfl rfl ?_
            refine r_iload d_Fz_begin_107 2 rfl ?_
            refine r_iload d_Fz_begin_109 1 rfl ?_
            refine r_if_ge (tgt := 118) d_Fz_begin_111 (by decide) (fun c_111 => ?_) (fun c_111 => ?_)
            · obtain ⟨o, ho⟩ := oI_pos c_111
              rw [ho]
              refine r_aload_n d_Fz_begin_118 rfl 4 rfl ?_
              refine r_aload_n d_Fz_begin_119 rfl 5 rfl ?_
              refine r_iload d_Fz_begin_120 2 rfl ?_
              refine r_iload d_Fz_begin_122 1 rfl ?_
              refine r_callS (As := [.ref b, .ref c, .int (nI i), .int (nI o)]) (rest := [.int (nI i), .ref a5]) (csC := [(b, .inl (1, 108, .inl ce)), (c, .inl (0, 108, .inl fi))]) (is := [7, 8]) ln_Fz_45 w_st_Fz_passingBetween ok_Fz_begin_Fz_passingBetween d_Fz_begin_124 (C_Fz_passing g b c ce fi i o (by omega) (bs_lt (by omega) ho)) rfl rfl (Nat.le_of_ble_eq_true rfl) rfl (by decide) (by omega) (by omega) (fun E cs1 hx => ?_) (fun v cs1 hx => ?_)
              · exact absurd hx.1 (by simp)
              · obtain ⟨e1, rfl⟩ := hx
                cases e1
                refine ⟨rfl, ?_⟩
                refine r_st (st2 := [.int (pbS ce fi i o), .int (nI i), .ref a5]) rfl ?_
                refine r_cs (cs2 := [(a, .inr (2, [.ref a1, .ref a2, .ref a3, .ref a4, .ref a5, .ref a6, .int ((bgS ce fi h (F1, F3, F4, liq) i).2.2.2)])), (a1, .inl (0, 108, .inl (upd ((bgS ce fi h (F1, F3, F4, liq) i).1) i 20))), (a2, .inl (0, 108, .inl F2)), (a3, .inl (0, 108, .inl (upd ((bgS ce fi h (F1, F3, F4, liq) i).2.1) i 300))), (a4, .inl (0, 108, .inl (upd ((bgS ce fi h (F1, F3, F4, liq) i).2.2.1) i (-1)))), (a5, .inl (0, 108, .inl (toS ce fi 2 F5 i))), (a6, .inl (0, 108, .inl (toS ce fi 3 F6 i))), (b, .inl (1, 108, .inl ce)), (c, .inl (0, 108, .inl fi))]) rfl ?_
                refine r_iast d_Fz_begin_127 (q0 := 5) rfl (vp_in_nI (by omega) (by omega)) (f' := upd (toS ce fi 2 F5 i) i (pbS ce fi i o)) (by rw [nI_clamp (by omega)]) (cs' := [(a, .inr (2, [.ref a1, .ref a2, .ref a3, .ref a4, .ref a5, .ref a6, .int ((bgS ce fi h (F1, F3, F4, liq) i).2.2.2)])), (a1, .inl (0, 108, .inl (upd ((bgS ce fi h (F1, F3, F4, liq) i).1) i 20))), (a2, .inl (0, 108, .inl F2)), (a3, .inl (0, 108, .inl (upd ((bgS ce fi h (F1, F3, F4, liq) i).2.1) i 300))), (a4, .inl (0, 108, .inl (upd ((bgS ce fi h (F1, F3, F4, liq) i).2.2.1) i (-1)))), (a5, .inl (0, 108, .inl (upd (toS ce fi 2 F5 i) i (pbS ce fi i o)))), (a6, .inl (0, 108, .inl (toS ce fi 3 F6 i))), (b, .inl (1, 108, .inl ce)), (c, .inl (0, 108, .inl fi))]) rfl ?_
                refine r_aload_n d_Fz_begin_128 rfl 3 rfl ?_
                refine r_get fs_Fz_27 d_Fz_begin_129 (q0 := 0) rfl rfl ?_
                refine r_iload d_Fz_begin_132 2 rfl ?_
                refine r_iload d_Fz_begin_134 0 rfl ?_
                refine r_if_ge (tgt := 143) d_Fz_begin_136 (by decide) (fun c_136 => ?_) (fun c_136 => ?_)
                · obtain ⟨o2, hb⟩ := oI_pos c_136
                  rw [hb]
                  refine r_aload_n d_Fz_begin_143 rfl 4 rfl ?_
                  refine r_aload_n d_Fz_begin_144 rfl 5 rfl ?_
                  refine r_iload d_Fz_begin_145 2 rfl ?_
                  refine r_iload d_Fz_begin_147 0 rfl ?_
                  refine r_callS (As := [.ref b, .ref c, .int (nI i), .int (nI o2)]) (rest := [.int (nI i), .ref a6]) (csC := [(b, .inl (1, 108, .inl ce)), (c, .inl (0, 108, .inl fi))]) (is := [7, 8]) ln_Fz_45 w_st_Fz_passingBetween ok_Fz_begin_Fz_passingBetween d_Fz_begin_149 (C_Fz_passing g b c ce fi i o2 (by omega) (bs_lt (by omega) hb)) rfl rfl (Nat.le_of_ble_eq_true rfl) rfl (by decide) (by omega) (by omega) (fun E cs1 hx => ?_) (fun v cs1 hx => ?_)
                  · exact absurd hx.1 (by simp)
                  · obtain ⟨e1, rfl⟩ := hx
                    cases e1
                    refine ⟨rfl, ?_⟩
                    refine r_st (st2 := [.int (pbS ce fi i o2), .int (nI i), .ref a6]) rfl ?_
                    refine r_cs (cs2 := [(a, .inr (2, [.ref a1, .ref a2, .ref a3, .ref a4, .ref a5, .ref a6, .int ((bgS ce fi h (F1, F3, F4, liq) i).2.2.2)])), (a1, .inl (0, 108, .inl (upd ((bgS ce fi h (F1, F3, F4, liq) i).1) i 20))), (a2, .inl (0, 108, .inl F2)), (a3, .inl (0, 108, .inl (upd ((bgS ce fi h (F1, F3, F4, liq) i).2.1) i 300))), (a4, .inl (0, 108, .inl (upd ((bgS ce fi h (F1, F3, F4, liq) i).2.2.1) i (-1)))), (a5, .inl (0, 108, .inl (upd (toS ce fi 2 F5 i) i (pbS ce fi i o)))), (a6, .inl (0, 108, .inl (toS ce fi 3 F6 i))), (b, .inl (1, 108, .inl ce)), (c, .inl (0, 108, .inl fi))]) rfl ?_
                    refine r_iast d_Fz_begin_152 (q0 := 6) rfl (vp_in_nI (by omega) (by omega)) (f' := upd (toS ce fi 3 F6 i) i (pbS ce fi i o2)) (by rw [nI_clamp (by omega)]) (cs' := [(a, .inr (2, [.ref a1, .ref a2, .ref a3, .ref a4, .ref a5, .ref a6, .int ((bgS ce fi h (F1, F3, F4, liq) i).2.2.2)])), (a1, .inl (0, 108, .inl (upd ((bgS ce fi h (F1, F3, F4, liq) i).1) i 20))), (a2, .inl (0, 108, .inl F2)), (a3, .inl (0, 108, .inl (upd ((bgS ce fi h (F1, F3, F4, liq) i).2.1) i 300))), (a4, .inl (0, 108, .inl (upd ((bgS ce fi h (F1, F3, F4, liq) i).2.2.1) i (-1)))), (a5, .inl (0, 108, .inl (upd (toS ce fi 2 F5 i) i (pbS ce fi i o)))), (a6, .inl (0, 108, .inl (upd (toS ce fi 3 F6 i) i (pbS ce fi i o2)))), (b, .inl (1, 108, .inl ce)), (c, .inl (0, 108, .inl fi))]) rfl ?_
                    refine r_iinc (lv' := [(4, .int (nI (i + 1))), (6, .int (nI o2)), (5, .int (nI o)), (0, .ref a), (1, .ref b), (2, .ref c), (3, .int h)]) (v := nI (i + 1)) d_Fz_begin_153 (j := 2) rfl (nI_add _ _) (by decide) rfl ?_
                    refine r_goto (tgt := 8) d_Fz_begin_156 (by decide) ?_
                    refine r_lv (lv' := [(4, .int (nI (i + 1))), (0, .ref a), (1, .ref b), (2, .ref c), (3, .int h)]) [0, 3, 4, 5, 6] rfl ?_
                    refine r_lvE (lv2 := [(4, .int (nI (i + 1))), (0, .ref a), (1, .ref b), (2, .ref c), (3, .int h)]) (rfl) ?_
                    refine r_cs (cs2 := [(a, .inr (2, [.ref a1, .ref a2, .ref a3, .ref a4, .ref a5, .ref a6, .int ((bgS ce fi h (F1, F3, F4, liq) (i + 1)).2.2.2)])), (a1, .inl (0, 108, .inl ((bgS ce fi h (F1, F3, F4, liq) (i + 1)).1))), (a2, .inl (0, 108, .inl F2)), (a3, .inl (0, 108, .inl ((bgS ce fi h (F1, F3, F4, liq) (i + 1)).2.1))), (a4, .inl (0, 108, .inl ((bgS ce fi h (F1, F3, F4, liq) (i + 1)).2.2.1))), (a5, .inl (0, 108, .inl (toS ce fi 2 F5 (i + 1)))), (a6, .inl (0, 108, .inl (toS ce fi 3 F6 (i + 1)))), (b, .inl (1, 108, .inl ce)), (c, .inl (0, 108, .inl fi))]) (by first | (rw [bgS_t hfi, toS_x ho, toS_x hb] <;> rfl) | (rw [bgS_f hfi, toS_x ho, toS_x hb] <;> rfl)) ?_
                    exact ih (i + 1) (by omega) (by omega)
                · have hb := oI_neg (by omega) c_136
                  refine r_iconst d_Fz_begin_139 (v := 0) (by decide) ?_
                  refine r_goto (tgt := 152) d_Fz_begin_140 (by decide) ?_
                  refine r_iast d_Fz_begin_152 (q0 := 6) rfl (vp_in_nI (by omega) (by omega)) (f' := upd (toS ce fi 3 F6 i) i 0) (by rw [nI_clamp (by omega)]) (cs' := [(a, .inr (2, [.ref a1, .ref a2, .ref a3, .ref a4, .ref a5, .ref a6, .int ((bgS ce fi h (F1, F3, F4, liq) i).2.2.2)])), (a1, .inl (0, 108, .inl (upd ((bgS ce fi h (F1, F3, F4, liq) i).1) i 20))), (a2, .inl (0, 108, .inl F2)), (a3, .inl (0, 108, .inl (upd ((bgS ce fi h (F1, F3, F4, liq) i).2.1) i 300))), (a4, .inl (0, 108, .inl (upd ((bgS ce fi h (F1, F3, F4, liq) i).2.2.1) i (-1)))), (a5, .inl (0, 108, .inl (upd (toS ce fi 2 F5 i) i (pbS ce fi i o)))), (a6, .inl (0, 108, .inl (upd (toS ce fi 3 F6 i) i 0))), (b, .inl (1, 108, .inl ce)), (c, .inl (0, 108, .inl fi))]) rfl ?_
                  refine r_iinc (lv' := [(4, .int (nI (i + 1))), (6, .int (oI (bs i 3))), (5, .int (nI o)), (0, .ref a), (1, .ref b), (2, .ref c), (3, .int h)]) (v := nI (i + 1)) d_Fz_begin_153 (j := 2) rfl (nI_add _ _) (by decide) rfl ?_
                  refine r_goto (tgt := 8) d_Fz_begin_156 (by decide) ?_
                  refine r_lv (lv' := [(4, .int (nI (i + 1))), (0, .ref a), (1, .ref b), (2, .ref c), (3, .int h)]) [0, 3, 4, 5, 6] rfl ?_
                  refine r_lvE (lv2 := [(4, .int (nI (i + 1))), (0, .ref a), (1, .ref b), (2, .ref c), (3, .int h)]) (rfl) ?_
                  refine r_cs (cs2 := [(a, .inr (2, [.ref a1, .ref a2, .ref a3, .ref a4, .ref a5, .ref a6, .int ((bgS ce fi h (F1, F3, F4, liq) (i + 1)).2.2.2)])), (a1, .inl (0, 108, .inl ((bgS ce fi h (F1, F3, F4, liq) (i + 1)).1))), (a2, .inl (0, 108, .inl F2)), (a3, .inl (0, 108, .inl ((bgS ce fi h (F1, F3, F4, liq) (i + 1)).2.1))), (a4, .inl (0, 108, .inl ((bgS ce fi h (F1, F3, F4, liq) (i + 1)).2.2.1))), (a5, .inl (0, 108, .inl (toS ce fi 2 F5 (i + 1)))), (a6, .inl (0, 108, .inl (toS ce fi 3 F6 (i + 1)))), (b, .inl (1, 108, .inl ce)), (c, .inl (0, 108, .inl fi))]) (by first | (rw [bgS_t hfi, toS_x ho, toS_x hb] <;> rfl) | (rw [bgS_f hfi, toS_x ho, toS_x hb] <;> rfl)) ?_
                  exact ih (i + 1) (by omega) (by omega)
            · have ho := oI_neg (by omega) c_111
              refine r_iconst d_Fz_begin_114 (v := 0) (by decide) ?_
              refine r_goto (tgt := 127) d_Fz_begin_115 (by decide) ?_
              refine r_iast d_Fz_begin_127 (q0 := 5) rfl (vp_in_nI (by omega) (by omega)) (f' := upd (toS ce fi 2 F5 i) i 0) (by rw [nI_clamp (by omega)]) (cs' := [(a, .inr (2, [.ref a1, .ref a2, .ref a3, .ref a4, .ref a5, .ref a6, .int ((bgS ce fi h (F1, F3, F4, liq) i).2.2.2)])), (a1, .inl (0, 108, .inl (upd ((bgS ce fi h (F1, F3, F4, liq) i).1) i 20))), (a2, .inl (0, 108, .inl F2)), (a3, .inl (0, 108, .inl (upd ((bgS ce fi h (F1, F3, F4, liq) i).2.1) i 300))), (a4, .inl (0, 108, .inl (upd ((bgS ce fi h (F1, F3, F4, liq) i).2.2.1) i (-1)))), (a5, .inl (0, 108, .inl (upd (toS ce fi 2 F5 i) i 0))), (a6, .inl (0, 108, .inl (toS ce fi 3 F6 i))), (b, .inl (1, 108, .inl ce)), (c, .inl (0, 108, .inl fi))]) rfl ?_
              refine r_aload_n d_Fz_begin_128 rfl 3 rfl ?_
              refine r_get fs_Fz_27 d_Fz_begin_129 (q0 := 0) rfl rfl ?_
              refine r_iload d_Fz_begin_132 2 rfl ?_
              refine r_iload d_Fz_begin_134 0 rfl ?_
              refine r_if_ge (tgt := 143) d_Fz_begin_136 (by decide) (fun c_136 => ?_) (fun c_136 => ?_)
              · obtain ⟨o2, hb⟩ := oI_pos c_136
                rw [hb]
                refine r_aload_n d_Fz_begin_143 rfl 4 rfl ?_
                refine r_aload_n d_Fz_begin_144 rfl 5 rfl ?_
                refine r_iload d_Fz_begin_145 2 rfl ?_
                refine r_iload d_Fz_begin_147 0 rfl ?_
                refine r_callS (As := [.ref b, .ref c, .int (nI i), .int (nI o2)]) (rest := [.int (nI i), .ref a6]) (csC := [(b, .inl (1, 108, .inl ce)), (c, .inl (0, 108, .inl fi))]) (is := [7, 8]) ln_Fz_45 w_st_Fz_passingBetween ok_Fz_begin_Fz_passingBetween d_Fz_begin_149 (C_Fz_passing g b c ce fi i o2 (by omega) (bs_lt (by omega) hb)) rfl rfl (Nat.le_of_ble_eq_true rfl) rfl (by decide) (by omega) (by omega) (fun E cs1 hx => ?_) (fun v cs1 hx => ?_)
                · exact absurd hx.1 (by simp)
                · obtain ⟨e1, rfl⟩ := hx
                  cases e1
                  refine ⟨rfl, ?_⟩
                  refine r_st (st2 := [.int (pbS ce fi i o2), .int (nI i), .ref a6]) rfl ?_
                  refine r_cs (cs2 := [(a, .inr (2, [.ref a1, .ref a2, .ref a3, .ref a4, .ref a5, .ref a6, .int ((bgS ce fi h (F1, F3, F4, liq) i).2.2.2)])), (a1, .inl (0, 108, .inl (upd ((bgS ce fi h (F1, F3, F4, liq) i).1) i 20))), (a2, .inl (0, 108, .inl F2)), (a3, .inl (0, 108, .inl (upd ((bgS ce fi h (F1, F3, F4, liq) i).2.1) i 300))), (a4, .inl (0, 108, .inl (upd ((bgS ce fi h (F1, F3, F4, liq) i).2.2.1) i (-1)))), (a5, .inl (0, 108, .inl (upd (toS ce fi 2 F5 i) i 0))), (a6, .inl (0, 108, .inl (toS ce fi 3 F6 i))), (b, .inl (1, 108, .inl ce)), (c, .inl (0, 108, .inl fi))]) rfl ?_
                  refine r_iast d_Fz_begin_152 (q0 := 6) rfl (vp_in_nI (by omega) (by omega)) (f' := upd (toS ce fi 3 F6 i) i (pbS ce fi i o2)) (by rw [nI_clamp (by omega)]) (cs' := [(a, .inr (2, [.ref a1, .ref a2, .ref a3, .ref a4, .ref a5, .ref a6, .int ((bgS ce fi h (F1, F3, F4, liq) i).2.2.2)])), (a1, .inl (0, 108, .inl (upd ((bgS ce fi h (F1, F3, F4, liq) i).1) i 20))), (a2, .inl (0, 108, .inl F2)), (a3, .inl (0, 108, .inl (upd ((bgS ce fi h (F1, F3, F4, liq) i).2.1) i 300))), (a4, .inl (0, 108, .inl (upd ((bgS ce fi h (F1, F3, F4, liq) i).2.2.1) i (-1)))), (a5, .inl (0, 108, .inl (upd (toS ce fi 2 F5 i) i 0))), (a6, .inl (0, 108, .inl (upd (toS ce fi 3 F6 i) i (pbS ce fi i o2)))), (b, .inl (1, 108, .inl ce)), (c, .inl (0, 108, .inl fi))]) rfl ?_
                  refine r_iinc (lv' := [(4, .int (nI (i + 1))), (6, .int (nI o2)), (5, .int (oI (bs i 2))), (0, .ref a), (1, .ref b), (2, .ref c), (3, .int h)]) (v := nI (i + 1)) d_Fz_begin_153 (j := 2) rfl (nI_add _ _) (by decide) rfl ?_
                  refine r_goto (tgt := 8) d_Fz_begin_156 (by decide) ?_
                  refine r_lv (lv' := [(4, .int (nI (i + 1))), (0, .ref a), (1, .ref b), (2, .ref c), (3, .int h)]) [0, 3, 4, 5, 6] rfl ?_
                  refine r_lvE (lv2 := [(4, .int (nI (i + 1))), (0, .ref a), (1, .ref b), (2, .ref c), (3, .int h)]) (rfl) ?_
                  refine r_cs (cs2 := [(a, .inr (2, [.ref a1, .ref a2, .ref a3, .ref a4, .ref a5, .ref a6, .int ((bgS ce fi h (F1, F3, F4, liq) (i + 1)).2.2.2)])), (a1, .inl (0, 108, .inl ((bgS ce fi h (F1, F3, F4, liq) (i + 1)).1))), (a2, .inl (0, 108, .inl F2)), (a3, .inl (0, 108, .inl ((bgS ce fi h (F1, F3, F4, liq) (i + 1)).2.1))), (a4, .inl (0, 108, .inl ((bgS ce fi h (F1, F3, F4, liq) (i + 1)).2.2.1))), (a5, .inl (0, 108, .inl (toS ce fi 2 F5 (i + 1)))), (a6, .inl (0, 108, .inl (toS ce fi 3 F6 (i + 1)))), (b, .inl (1, 108, .inl ce)), (c, .inl (0, 108, .inl fi))]) (by first | (rw [bgS_t hfi, toS_x ho, toS_x hb] <;> rfl) | (rw [bgS_f hfi, toS_x ho, toS_x hb] <;> rfl)) ?_
                  exact ih (i + 1) (by omega) (by omega)
              · have hb := oI_neg (by omega) c_136
                refine r_iconst d_Fz_begin_139 (v := 0) (by decide) ?_
                refine r_goto (tgt := 152) d_Fz_begin_140 (by decide) ?_
                refine r_iast d_Fz_begin_152 (q0 := 6) rfl (vp_in_nI (by omega) (by omega)) (f' := upd (toS ce fi 3 F6 i) i 0) (by rw [nI_clamp (by omega)]) (cs' := [(a, .inr (2, [.ref a1, .ref a2, .ref a3, .ref a4, .ref a5, .ref a6, .int ((bgS ce fi h (F1, F3, F4, liq) i).2.2.2)])), (a1, .inl (0, 108, .inl (upd ((bgS ce fi h (F1, F3, F4, liq) i).1) i 20))), (a2, .inl (0, 108, .inl F2)), (a3, .inl (0, 108, .inl (upd ((bgS ce fi h (F1, F3, F4, liq) i).2.1) i 300))), (a4, .inl (0, 108, .inl (upd ((bgS ce fi h (F1, F3, F4, liq) i).2.2.1) i (-1)))), (a5, .inl (0, 108, .inl (upd (toS ce fi 2 F5 i) i 0))), (a6, .inl (0, 108, .inl (upd (toS ce fi 3 F6 i) i 0))), (b, .inl (1, 108, .inl ce)), (c, .inl (0, 108, .inl fi))]) rfl ?_
                refine r_iinc (lv' := [(4, .int (nI (i + 1))), (6, .int (oI (bs i 3))), (5, .int (oI (bs i 2))), (0, .ref a), (1, .ref b), (2, .ref c), (3, .int h)]) (v := nI (i + 1)) d_Fz_begin_153 (j := 2) rfl (nI_add _ _) (by decide) rfl ?_
                refine r_goto (tgt := 8) d_Fz_begin_156 (by decide) ?_
                refine r_lv (lv' := [(4, .int (nI (i + 1))), (0, .ref a), (1, .ref b), (2, .ref c), (3, .int h)]) [0, 3, 4, 5, 6] rfl ?_
                refine r_lvE (lv2 := [(4, .int (nI (i + 1))), (0, .ref a), (1, .ref b), (2, .ref c), (3, .int h)]) (rfl) ?_
                refine r_cs (cs2 := [(a, .inr (2, [.ref a1, .ref a2, .ref a3, .ref a4, .ref a5, .ref a6, .int ((bgS ce fi h (F1, F3, F4, liq) (i + 1)).2.2.2)])), (a1, .inl (0, 108, .inl ((bgS ce fi h (F1, F3, F4, liq) (i + 1)).1))), (a2, .inl (0, 108, .inl F2)), (a3, .inl (0, 108, .inl ((bgS ce fi h (F1, F3, F4, liq) (i + 1)).2.1))), (a4, .inl (0, 108, .inl ((bgS ce fi h (F1, F3, F4, liq) (i + 1)).2.2.1))), (a5, .inl (0, 108, .inl (toS ce fi 2 F5 (i + 1)))), (a6, .inl (0, 108, .inl (toS ce fi 3 F6 (i + 1)))), (b, .inl (1, 108, .inl ce)), (c, .inl (0, 108, .inl fi))]) (by first | (rw [bgS_t hfi, toS_x ho, toS_x hb] <;> rfl) | (rw [bgS_f hfi, toS_x ho, toS_x hb] <;> rfl)) ?_
                exact ih (i + 1) (by omega) (by omega)
set_option maxHeartbeats 4000000 in
set_option maxRecDepth 100000 in
theorem C_Fz_begin (g : zG) (a a1 a2 a3 a4 a5 a6 : Nat) (F1 F2 F3 F4 F5 F6 : Nat → Int32) (liq : Int32) (b c : Nat) (ce fi : Nat → Int32) (h : Int32) : CT g M_Fz_begin [.ref a, .ref b, .ref c, .int h] [(a, .inr (2, [.ref a1, .ref a2, .ref a3, .ref a4, .ref a5, .ref a6, .int liq])), (a1, .inl (0, 108, .inl F1)), (a2, .inl (0, 108, .inl F2)), (a3, .inl (0, 108, .inl F3)), (a4, .inl (0, 108, .inl F4)), (a5, .inl (0, 108, .inl F5)), (a6, .inl (0, 108, .inl F6)), (b, .inl (1, 108, .inl ce)), (c, .inl (0, 108, .inl fi))] (fun o cs1 => o = .inl none ∧ cs1 = [(a, .inr (2, [.ref a1, .ref a2, .ref a3, .ref a4, .ref a5, .ref a6, .int ((bgS ce fi h (F1, F3, F4, liq) 108).2.2.2)])), (a1, .inl (0, 108, .inl ((bgS ce fi h (F1, F3, F4, liq) 108).1))), (a2, .inl (0, 108, .inl F2)), (a3, .inl (0, 108, .inl ((bgS ce fi h (F1, F3, F4, liq) 108).2.1))), (a4, .inl (0, 108, .inl ((bgS ce fi h (F1, F3, F4, liq) 108).2.2.1))), (a5, .inl (0, 108, .inl (toS ce fi 2 F5 108))), (a6, .inl (0, 108, .inl (toS ce fi 3 F6 108))), (b, .inl (1, 108, .inl ce)), (c, .inl (0, 108, .inl fi))]) 0 0 := by
  refine z_of (by decide) rfl (Nat.le_of_ble_eq_true rfl) (fun w0 => ?_)
  refine r_lvE (lv2 := [(0, .ref a), (1, .ref b), (2, .ref c), (3, .int h)]) rfl ?_
  refine r_aload_n d_Fz_begin_0 rfl 0 rfl ?_
  refine r_iconst d_Fz_begin_1 (v := 0) (by decide) ?_
  refine r_put fp_Fz_30 d_Fz_begin_2 (fun h => nomatch h) rfl rfl (q0 := 0) rfl (Nat.le_of_ble_eq_true rfl) (cs' := [(a, .inr (2, [.ref a1, .ref a2, .ref a3, .ref a4, .ref a5, .ref a6, .int 0])), (a1, .inl (0, 108, .inl F1)), (a2, .inl (0, 108, .inl F2)), (a3, .inl (0, 108, .inl F3)), (a4, .inl (0, 108, .inl F4)), (a5, .inl (0, 108, .inl F5)), (a6, .inl (0, 108, .inl F6)), (b, .inl (1, 108, .inl ce)), (c, .inl (0, 108, .inl fi))]) rfl ?_
  refine r_iconst d_Fz_begin_5 (v := 0) (by decide) ?_
  refine r_istore (lv' := [(4, .int 0), (0, .ref a), (1, .ref b), (2, .ref c), (3, .int h)]) d_Fz_begin_6 (by decide) rfl ?_
  refine r_lvE (lv2 := [(4, .int (nI 0)), (0, .ref a), (1, .ref b), (2, .ref c), (3, .int h)]) (rfl) ?_
  refine r_cs (cs2 := [(a, .inr (2, [.ref a1, .ref a2, .ref a3, .ref a4, .ref a5, .ref a6, .int ((bgS ce fi h (F1, F3, F4, liq) 0).2.2.2)])), (a1, .inl (0, 108, .inl ((bgS ce fi h (F1, F3, F4, liq) 0).1))), (a2, .inl (0, 108, .inl F2)), (a3, .inl (0, 108, .inl ((bgS ce fi h (F1, F3, F4, liq) 0).2.1))), (a4, .inl (0, 108, .inl ((bgS ce fi h (F1, F3, F4, liq) 0).2.2.1))), (a5, .inl (0, 108, .inl (toS ce fi 2 F5 0))), (a6, .inl (0, 108, .inl (toS ce fi 3 F6 0))), (b, .inl (1, 108, .inl ce)), (c, .inl (0, 108, .inl fi))]) (rfl) ?_
  exact L_Fz_begin_8 g a a1 a2 a3 a4 a5 a6 F1 F2 F3 F4 F5 F6 liq b c ce fi h w0 _  (108 + 1) 0 (Nat.zero_le _) (by omega)
end
section
def gdB (cu ag : Nat → Int32) (k : Nat) : Bool := decide (¬ ag k < cu k ∧ ¬ cu k + 72 < ag k)
def gwS (cn cu ag : Nat → Int32) (h : Int32) : Nat → (Nat → Int32) × (Nat → Int32) × Int32
  | 0 => (cn, ag, 0)
  | i + 1 => if (gwS cn cu ag h i).2.1 i + h ≤ cu i + 72 then ((gwS cn cu ag h i).1, upd (gwS cn cu ag h i).2.1 i ((gwS cn cu ag h i).2.1 i + h), (gwS cn cu ag h i).2.2) else (upd (gwS cn cu ag h i).1 i 0, upd (gwS cn cu ag h i).2.1 i ((gwS cn cu ag h i).2.1 i + h), (gwS cn cu ag h i).2.2 + (gwS cn cu ag h i).1 i)
theorem gwS_t {cn cu ag : Nat → Int32} {h : Int32} {i : Nat} (q : (gwS cn cu ag h i).2.1 i + h ≤ cu i + 72) : gwS cn cu ag h (i + 1) = ((gwS cn cu ag h i).1, upd (gwS cn cu ag h i).2.1 i ((gwS cn cu ag h i).2.1 i + h), (gwS cn cu ag h i).2.2) := if_pos q
theorem gwS_f {cn cu ag : Nat → Int32} {h : Int32} {i : Nat} (q : ¬ (gwS cn cu ag h i).2.1 i + h ≤ cu i + 72) : gwS cn cu ag h (i + 1) = (upd (gwS cn cu ag h i).1 i 0, upd (gwS cn cu ag h i).2.1 i ((gwS cn cu ag h i).2.1 i + h), (gwS cn cu ag h i).2.2 + (gwS cn cu ag h i).1 i) := if_neg q
abbrev zL3 : Type := Nat × (Nat → Int32) × (Nat → Int32) × (Nat → Int32)
def dlS (cn cu ag : Nat → Int32) : Nat → zL3
  | 0 => (0, cn, cu, ag)
  | i + 1 => if (dlS cn cu ag i).2.1 i ≤ 0 then dlS cn cu ag i else ((dlS cn cu ag i).1 + 1, upd (dlS cn cu ag i).2.1 (dlS cn cu ag i).1 ((dlS cn cu ag i).2.1 i), upd (dlS cn cu ag i).2.2.1 (dlS cn cu ag i).1 ((dlS cn cu ag i).2.2.1 i), upd (dlS cn cu ag i).2.2.2 (dlS cn cu ag i).1 ((dlS cn cu ag i).2.2.2 i))
theorem dlS_t {cn cu ag : Nat → Int32} {i : Nat} (q : (dlS cn cu ag i).2.1 i ≤ 0) : dlS cn cu ag (i + 1) = dlS cn cu ag i := if_pos q
theorem dlS_f {cn cu ag : Nat → Int32} {i : Nat} (q : ¬ (dlS cn cu ag i).2.1 i ≤ 0) : dlS cn cu ag (i + 1) = ((dlS cn cu ag i).1 + 1, upd (dlS cn cu ag i).2.1 (dlS cn cu ag i).1 ((dlS cn cu ag i).2.1 i), upd (dlS cn cu ag i).2.2.1 (dlS cn cu ag i).1 ((dlS cn cu ag i).2.2.1 i), upd (dlS cn cu ag i).2.2.2 (dlS cn cu ag i).1 ((dlS cn cu ag i).2.2.2 i)) := if_neg q
theorem dlS_le (cn cu ag : Nat → Int32) : ∀ i, (dlS cn cu ag i).1 ≤ i
  | 0 => Nat.le_refl 0
  | i + 1 => by
    have h := dlS_le cn cu ag i
    by_cases q : (dlS cn cu ag i).2.1 i ≤ 0
    · rw [dlS_t q]; omega
    · rw [dlS_f q]; show _ + 1 ≤ _; omega
def lfd (f d : Nat → Int64) : Nat → Nat → Int64
  | 0 => f
  | i + 1 => vp_updL (lfd f d i) i (lfd f d i i + d i)
def chS (am : Int32) (t e : Nat) : Int64 := am.toInt64 * ((z_sv t).getD e 0).toInt64
def loS (e : Nat) (d : Int64) (s : (Nat → Int64) × (Nat → Int64)) : (Nat → Int64) × (Nat → Int64) := (vp_updL s.1 e (s.1 e - s.1 e / d), vp_updL s.2 e (s.2 e + s.1 e / d))
def lmS (s : (Nat → Int64) × (Nat → Int64)) : Nat → (Nat → Int64) × (Nat → Int64)
  | 0 => s
  | i + 1 => loS 2 4000 (loS 1 4000 (loS 0 2000 (lmS s i)))
def mgS (m : Int32) : Nat → Int32
  | 0 => m
  | i + 1 => mgS m i - (mgS m i + 19) / 20
abbrev M_CS_isFull : zM := (⟨"Ironpour$CoreStore", "isFull", "()Z"⟩, prog_3_method_2_code, 1, (Option.some FieldType.boolean), 1, 20, [])
theorem d_CS_isFull_0 : decode prog_3_method_2_code 0 = .ok (.aload_n 0, 1) := zo_42 (zd_b zq_prog_3_method_2_code_0 0 rfl rfl rfl)
theorem d_CS_isFull_1 : decode prog_3_method_2_code 1 = .ok (.getfield 19, 3) := zo_180 (d := 0) (e := 19) (zd_b zq_prog_3_method_2_code_0 1 rfl rfl rfl) (zd_b zq_prog_3_method_2_code_0 2 rfl rfl rfl) (zd_b zq_prog_3_method_2_code_0 3 rfl rfl rfl)
theorem fs_CS_19 : z_fs "Ironpour$CoreStore" 19 1 3 := ⟨R_CS, "Ironpour$CoreStore", F_CS, 4, rfl, u_CS, by decide, Or.inl ⟨z_mj1 (i := 175) rfl (by decide +kernel), Or.inl rfl⟩⟩
theorem d_CS_isFull_4 : decode prog_3_method_2_code 4 = .ok (.bipush 20, 2) := zo_16 (d := 20) (zd_b zq_prog_3_method_2_code_0 4 rfl rfl rfl) (zd_b zq_prog_3_method_2_code_0 5 rfl rfl rfl) (by decide +kernel)
theorem d_CS_isFull_6 : decode prog_3_method_2_code 6 = .ok (.if_icmp .lt 7, 3) := zo_161 (d := 0) (e := 7) (zd_b zq_prog_3_method_2_code_0 6 rfl rfl rfl) (zd_b zq_prog_3_method_2_code_0 7 rfl rfl rfl) (zd_b zq_prog_3_method_2_code_0 8 rfl rfl rfl) (by decide +kernel)
theorem d_CS_isFull_13 : decode prog_3_method_2_code 13 = .ok (.iconst 0, 1) := zo_3 (zd_b zq_prog_3_method_2_code_0 13 rfl rfl rfl)
theorem d_CS_isFull_14 : decode prog_3_method_2_code 14 = .ok (.ireturn, 1) := zo_172 (zd_b zq_prog_3_method_2_code_0 14 rfl rfl rfl)
theorem d_CS_isFull_9 : decode prog_3_method_2_code 9 = .ok (.iconst 1, 1) := zo_4 (zd_b zq_prog_3_method_2_code_0 9 rfl rfl rfl)
theorem d_CS_isFull_10 : decode prog_3_method_2_code 10 = .ok (.goto 4, 3) := zo_167 (d := 0) (e := 4) (zd_b zq_prog_3_method_2_code_0 10 rfl rfl rfl) (zd_b zq_prog_3_method_2_code_0 11 rfl rfl rfl) (zd_b zq_prog_3_method_2_code_0 12 rfl rfl rfl) (by decide +kernel)
set_option maxHeartbeats 4000000 in
set_option maxRecDepth 100000 in
theorem C_CS_isFull (g : zG) (a a1 a2 a3 : Nat) (cn cu ag : Nat → Int32) (nl : Nat) (hnl : nl ≤ 20) : CT g M_CS_isFull [.ref a] [(a, .inr (1, [.ref a1, .ref a2, .ref a3, .int (nI nl)])), (a1, .inl (0, 20, .inl cn)), (a2, .inl (0, 20, .inl cu)), (a3, .inl (0, 20, .inl ag))] (fun o cs1 => o = .inl (some (.int (if nl < 20 then 0 else 1))) ∧ cs1 = [(a, .inr (1, [.ref a1, .ref a2, .ref a3, .int (nI nl)])), (a1, .inl (0, 20, .inl cn)), (a2, .inl (0, 20, .inl cu)), (a3, .inl (0, 20, .inl ag))]) 0 0 := by
  refine z_of (by decide) rfl (Nat.le_of_ble_eq_true rfl) (fun w0 => ?_)
  refine r_lvE (lv2 := [(0, .ref a)]) rfl ?_
  refine r_aload_n d_CS_isFull_0 rfl 0 rfl ?_
  refine r_get fs_CS_19 d_CS_isFull_1 (q0 := 0) rfl rfl ?_
  refine r_bipush d_CS_isFull_4 (v := 20) (by decide) ?_
  refine r_icmp_lt (tgt := 13) d_CS_isFull_6 (by decide) (fun c_6 => ?_) (fun c_6 => ?_)
  · have hq := z_lt (b := 20) (by decide) (by omega) c_6
    refine r_iconst d_CS_isFull_13 (v := 0) (by decide) ?_
    refine r_iret d_CS_isFull_14 rfl rfl ?_
    refine ⟨?_, rfl⟩
    first | rw [if_pos hq] | rw [if_neg (by omega)]
  · have hq := z_nlt (b := 20) (by decide) (by omega) c_6
    refine r_iconst d_CS_isFull_9 (v := 1) (by decide) ?_
    refine r_goto (tgt := 14) d_CS_isFull_10 (by decide) ?_
    refine r_iret d_CS_isFull_14 rfl rfl ?_
    refine ⟨?_, rfl⟩
    first | rw [if_pos hq] | rw [if_neg (by omega)]
abbrev M_CS_addLot : zM := (⟨"Ironpour$CoreStore", "addLot", "(II)V"⟩, prog_3_method_3_code, 3, (Option.none : Option FieldType), 1, 20, [])
theorem d_CS_addLot_0 : decode prog_3_method_3_code 0 = .ok (.aload_n 0, 1) := zo_42 (zd_b zq_prog_3_method_3_code_0 0 rfl rfl rfl)
theorem d_CS_addLot_1 : decode prog_3_method_3_code 1 = .ok (.getfield 19, 3) := zo_180 (d := 0) (e := 19) (zd_b zq_prog_3_method_3_code_0 1 rfl rfl rfl) (zd_b zq_prog_3_method_3_code_0 2 rfl rfl rfl) (zd_b zq_prog_3_method_3_code_0 3 rfl rfl rfl)
theorem d_CS_addLot_4 : decode prog_3_method_3_code 4 = .ok (.bipush 20, 2) := zo_16 (d := 20) (zd_b zq_prog_3_method_3_code_0 4 rfl rfl rfl) (zd_b zq_prog_3_method_3_code_0 5 rfl rfl rfl) (by decide +kernel)
theorem d_CS_addLot_6 : decode prog_3_method_3_code 6 = .ok (.if_icmp .ge 43, 3) := zo_162 (d := 0) (e := 43) (zd_b zq_prog_3_method_3_code_0 6 rfl rfl rfl) (zd_b zq_prog_3_method_3_code_0 7 rfl rfl rfl) (zd_b zq_prog_3_method_3_code_0 8 rfl rfl rfl) (by decide +kernel)
theorem d_CS_addLot_9 : decode prog_3_method_3_code 9 = .ok (.aload_n 0, 1) := zo_42 (zd_b zq_prog_3_method_3_code_0 9 rfl rfl rfl)
theorem d_CS_addLot_10 : decode prog_3_method_3_code 10 = .ok (.getfield 9, 3) := zo_180 (d := 0) (e := 9) (zd_b zq_prog_3_method_3_code_0 10 rfl rfl rfl) (zd_b zq_prog_3_method_3_code_0 11 rfl rfl rfl) (zd_b zq_prog_3_method_3_code_0 12 rfl rfl rfl)
theorem fs_CS_9 : z_fs "Ironpour$CoreStore" 9 1 0 := ⟨R_CS, "Ironpour$CoreStore", F_CS, 4, rfl, u_CS, by decide, Or.inl ⟨z_mj1 (i := 172) rfl (by decide +kernel), Or.inl rfl⟩⟩
theorem d_CS_addLot_13 : decode prog_3_method_3_code 13 = .ok (.aload_n 0, 1) := zo_42 (zd_b zq_prog_3_method_3_code_0 13 rfl rfl rfl)
theorem d_CS_addLot_14 : decode prog_3_method_3_code 14 = .ok (.getfield 19, 3) := zo_180 (d := 0) (e := 19) (zd_b zq_prog_3_method_3_code_0 14 rfl rfl rfl) (zd_b zq_prog_3_method_3_code_0 15 rfl rfl rfl) (zd_b zq_prog_3_method_3_code_0 16 rfl rfl rfl)
theorem d_CS_addLot_17 : decode prog_3_method_3_code 17 = .ok (.iload_n 1, 1) := zo_27 (zd_b zq_prog_3_method_3_code_0 17 rfl rfl rfl)
theorem d_CS_addLot_18 : decode prog_3_method_3_code 18 = .ok (.iastore, 1) := zo_79 (zd_b zq_prog_3_method_3_code_0 18 rfl rfl rfl)
theorem d_CS_addLot_19 : decode prog_3_method_3_code 19 = .ok (.aload_n 0, 1) := zo_42 (zd_b zq_prog_3_method_3_code_0 19 rfl rfl rfl)
theorem d_CS_addLot_20 : decode prog_3_method_3_code 20 = .ok (.getfield 13, 3) := zo_180 (d := 0) (e := 13) (zd_b zq_prog_3_method_3_code_0 20 rfl rfl rfl) (zd_b zq_prog_3_method_3_code_0 21 rfl rfl rfl) (zd_b zq_prog_3_method_3_code_0 22 rfl rfl rfl)
theorem fs_CS_13 : z_fs "Ironpour$CoreStore" 13 1 1 := ⟨R_CS, "Ironpour$CoreStore", F_CS, 4, rfl, u_CS, by decide, Or.inl ⟨z_mj1 (i := 173) rfl (by decide +kernel), Or.inl rfl⟩⟩
theorem d_CS_addLot_23 : decode prog_3_method_3_code 23 = .ok (.aload_n 0, 1) := zo_42 (zd_b zq_prog_3_method_3_code_0 23 rfl rfl rfl)
theorem d_CS_addLot_24 : decode prog_3_method_3_code 24 = .ok (.getfield 19, 3) := zo_180 (d := 0) (e := 19) (zd_b zq_prog_3_method_3_code_0 24 rfl rfl rfl) (zd_b zq_prog_3_method_3_code_0 25 rfl rfl rfl) (zd_b zq_prog_3_method_3_code_0 26 rfl rfl rfl)
theorem d_CS_addLot_27 : decode prog_3_method_3_code 27 = .ok (.iload_n 2, 1) := zo_28 (zd_b zq_prog_3_method_3_code_0 27 rfl rfl rfl)
theorem d_CS_addLot_28 : decode prog_3_method_3_code 28 = .ok (.iastore, 1) := zo_79 (zd_b zq_prog_3_method_3_code_0 28 rfl rfl rfl)
theorem d_CS_addLot_29 : decode prog_3_method_3_code 29 = .ok (.aload_n 0, 1) := zo_42 (zd_b zq_prog_3_method_3_code_0 29 rfl rfl rfl)
theorem d_CS_addLot_30 : decode prog_3_method_3_code 30 = .ok (.getfield 16, 3) := zo_180 (d := 0) (e := 16) (zd_b zq_prog_3_method_3_code_0 30 rfl rfl rfl) (zd_b zq_prog_3_method_3_code_0 31 rfl rfl rfl) (zd_b zq_prog_3_method_3_code_1 0 rfl rfl rfl)
theorem fs_CS_16 : z_fs "Ironpour$CoreStore" 16 1 2 := ⟨R_CS, "Ironpour$CoreStore", F_CS, 4, rfl, u_CS, by decide, Or.inl ⟨z_mj1 (i := 174) rfl (by decide +kernel), Or.inl rfl⟩⟩
theorem d_CS_addLot_33 : decode prog_3_method_3_code 33 = .ok (.aload_n 0, 1) := zo_42 (zd_b zq_prog_3_method_3_code_1 1 rfl rfl rfl)
theorem d_CS_addLot_34 : decode prog_3_method_3_code 34 = .ok (.getfield 19, 3) := zo_180 (d := 0) (e := 19) (zd_b zq_prog_3_method_3_code_1 2 rfl rfl rfl) (zd_b zq_prog_3_method_3_code_1 3 rfl rfl rfl) (zd_b zq_prog_3_method_3_code_1 4 rfl rfl rfl)
theorem d_CS_addLot_37 : decode prog_3_method_3_code 37 = .ok (.iconst 0, 1) := zo_3 (zd_b zq_prog_3_method_3_code_1 5 rfl rfl rfl)
theorem d_CS_addLot_38 : decode prog_3_method_3_code 38 = .ok (.iastore, 1) := zo_79 (zd_b zq_prog_3_method_3_code_1 6 rfl rfl rfl)
theorem d_CS_addLot_39 : decode prog_3_method_3_code 39 = .ok (.aload_n 0, 1) := zo_42 (zd_b zq_prog_3_method_3_code_1 7 rfl rfl rfl)
theorem d_CS_addLot_40 : decode prog_3_method_3_code 40 = .ok (.dup, 1) := zo_89 (zd_b zq_prog_3_method_3_code_1 8 rfl rfl rfl)
theorem d_CS_addLot_41 : decode prog_3_method_3_code 41 = .ok (.getfield 19, 3) := zo_180 (d := 0) (e := 19) (zd_b zq_prog_3_method_3_code_1 9 rfl rfl rfl) (zd_b zq_prog_3_method_3_code_1 10 rfl rfl rfl) (zd_b zq_prog_3_method_3_code_1 11 rfl rfl rfl)
theorem d_CS_addLot_44 : decode prog_3_method_3_code 44 = .ok (.iconst 1, 1) := zo_4 (zd_b zq_prog_3_method_3_code_1 12 rfl rfl rfl)
theorem d_CS_addLot_45 : decode prog_3_method_3_code 45 = .ok (.iadd, 1) := zo_96 (zd_b zq_prog_3_method_3_code_1 13 rfl rfl rfl)
theorem d_CS_addLot_46 : decode prog_3_method_3_code 46 = .ok (.putfield 19, 3) := zo_181 (d := 0) (e := 19) (zd_b zq_prog_3_method_3_code_1 14 rfl rfl rfl) (zd_b zq_prog_3_method_3_code_1 15 rfl rfl rfl) (zd_b zq_prog_3_method_3_code_1 16 rfl rfl rfl)
theorem fp_CS_19 : z_fp "Ironpour$CoreStore" 19 1 3 false .int := ⟨R_CS, "Ironpour$CoreStore", F_CS, 4, t_CS, rfl, u_CS, by decide, t_CS_ok, n_CS, rfl, rfl, Or.inl ⟨z_mj1 (i := 175) rfl (by decide +kernel), Or.inl rfl, fun h => nomatch h⟩⟩
theorem d_CS_addLot_49 : decode prog_3_method_3_code 49 = .ok (.return_, 1) := zo_177 (zd_b zq_prog_3_method_3_code_1 17 rfl rfl rfl)
set_option maxHeartbeats 4000000 in
set_option maxRecDepth 100000 in
theorem C_CS_addLot (g : zG) (a a1 a2 a3 : Nat) (cn cu ag : Nat → Int32) (nl : Nat) (hnl : nl ≤ 20) (h20 : nl < 20) (c k : Int32) : CT g M_CS_addLot [.ref a, .int c, .int k] [(a, .inr (1, [.ref a1, .ref a2, .ref a3, .int (nI nl)])), (a1, .inl (0, 20, .inl cn)), (a2, .inl (0, 20, .inl cu)), (a3, .inl (0, 20, .inl ag))] (fun o cs1 => o = .inl none ∧ cs1 = [(a, .inr (1, [.ref a1, .ref a2, .ref a3, .int (nI (nl + 1))])), (a1, .inl (0, 20, .inl (upd cn nl c))), (a2, .inl (0, 20, .inl (upd cu nl k))), (a3, .inl (0, 20, .inl (upd ag nl 0)))]) 0 0 := by
  refine z_of (by decide) rfl (Nat.le_of_ble_eq_true rfl) (fun w0 => ?_)
  refine r_lvE (lv2 := [(0, .ref a), (1, .int c), (2, .int k)]) rfl ?_
  refine r_aload_n d_CS_addLot_0 rfl 0 rfl ?_
  refine r_get fs_CS_19 d_CS_addLot_1 (q0 := 0) rfl rfl ?_
  refine r_bipush d_CS_addLot_4 (v := 20) (by decide) ?_
  refine r_icmp_ge (tgt := 49) d_CS_addLot_6 (by decide) (fun c_6 => ?_) (fun c_6 => ?_)
  · exact absurd (z_le (a := 20) (by omega) (by decide) c_6) (by omega)
  · refine r_aload_n d_CS_addLot_9 rfl 0 rfl ?_
    refine r_get fs_CS_9 d_CS_addLot_10 (q0 := 0) rfl rfl ?_
    refine r_aload_n d_CS_addLot_13 rfl 0 rfl ?_
    refine r_get fs_CS_19 d_CS_addLot_14 (q0 := 0) rfl rfl ?_
    refine r_iload_n d_CS_addLot_17 rfl 1 rfl ?_
    refine r_iast d_CS_addLot_18 (q0 := 1) rfl (vp_in_nI (by omega) (by omega)) (f' := upd cn nl c) (by rw [nI_clamp (by omega)]) (cs' := [(a, .inr (1, [.ref a1, .ref a2, .ref a3, .int (nI nl)])), (a1, .inl (0, 20, .inl (upd cn nl c))), (a2, .inl (0, 20, .inl cu)), (a3, .inl (0, 20, .inl ag))]) rfl ?_
    refine r_aload_n d_CS_addLot_19 rfl 0 rfl ?_
    refine r_get fs_CS_13 d_CS_addLot_20 (q0 := 0) rfl rfl ?_
    refine r_aload_n d_CS_addLot_23 rfl 0 rfl ?_
    refine r_get fs_CS_19 d_CS_addLot_24 (q0 := 0) rfl rfl ?_
    refine r_iload_n d_CS_addLot_27 rfl 2 rfl ?_
    refine r_iast d_CS_addLot_28 (q0 := 2) rfl (vp_in_nI (by omega) (by omega)) (f' := upd cu nl k) (by rw [nI_clamp (by omega)]) (cs' := [(a, .inr (1, [.ref a1, .ref a2, .ref a3, .int (nI nl)])), (a1, .inl (0, 20, .inl (upd cn nl c))), (a2, .inl (0, 20, .inl (upd cu nl k))), (a3, .inl (0, 20, .inl ag))]) rfl ?_
    refine r_aload_n d_CS_addLot_29 rfl 0 rfl ?_
    refine r_get fs_CS_16 d_CS_addLot_30 (q0 := 0) rfl rfl ?_
    refine r_aload_n d_CS_addLot_33 rfl 0 rfl ?_
    refine r_get fs_CS_19 d_CS_addLot_34 (q0 := 0) rfl rfl ?_
    refine r_iconst d_CS_addLot_37 (v := 0) (by decide) ?_
    refine r_iast d_CS_addLot_38 (q0 := 3) rfl (vp_in_nI (by omega) (by omega)) (f' := upd ag nl 0) (by rw [nI_clamp (by omega)]) (cs' := [(a, .inr (1, [.ref a1, .ref a2, .ref a3, .int (nI nl)])), (a1, .inl (0, 20, .inl (upd cn nl c))), (a2, .inl (0, 20, .inl (upd cu nl k))), (a3, .inl (0, 20, .inl (upd ag nl 0)))]) rfl ?_
    refine r_aload_n d_CS_addLot_39 rfl 0 rfl ?_
    refine r_dup d_CS_addLot_40 rfl ?_
    refine r_get fs_CS_19 d_CS_addLot_41 (q0 := 0) rfl rfl ?_
    refine r_iconst d_CS_addLot_44 (v := 1) (by decide) ?_
    refine r_iadd d_CS_addLot_45 (v := nI (nl + 1)) (nI_add _ _) ?_
    refine r_put fp_CS_19 d_CS_addLot_46 (fun h => nomatch h) rfl rfl (q0 := 0) rfl (Nat.le_of_ble_eq_true rfl) (cs' := [(a, .inr (1, [.ref a1, .ref a2, .ref a3, .int (nI (nl + 1))])), (a1, .inl (0, 20, .inl (upd cn nl c))), (a2, .inl (0, 20, .inl (upd cu nl k))), (a3, .inl (0, 20, .inl (upd ag nl 0)))]) rfl ?_
    refine r_vret d_CS_addLot_49 rfl ?_
    exact ⟨rfl, rfl⟩
abbrev M_CS_allCores : zM := (⟨"Ironpour$CoreStore", "allCores", "()I"⟩, prog_3_method_4_code, 3, (Option.some FieldType.int), 1, 20, [])
theorem d_CS_allCores_4 : decode prog_3_method_4_code 4 = .ok (.iload_n 2, 1) := zo_28 (zd_b zq_prog_3_method_4_code_0 4 rfl rfl rfl)
theorem d_CS_allCores_5 : decode prog_3_method_4_code 5 = .ok (.aload_n 0, 1) := zo_42 (zd_b zq_prog_3_method_4_code_0 5 rfl rfl rfl)
theorem d_CS_allCores_6 : decode prog_3_method_4_code 6 = .ok (.getfield 19, 3) := zo_180 (d := 0) (e := 19) (zd_b zq_prog_3_method_4_code_0 6 rfl rfl rfl) (zd_b zq_prog_3_method_4_code_0 7 rfl rfl rfl) (zd_b zq_prog_3_method_4_code_0 8 rfl rfl rfl)
theorem d_CS_allCores_9 : decode prog_3_method_4_code 9 = .ok (.if_icmp .ge 18, 3) := zo_162 (d := 0) (e := 18) (zd_b zq_prog_3_method_4_code_0 9 rfl rfl rfl) (zd_b zq_prog_3_method_4_code_0 10 rfl rfl rfl) (zd_b zq_prog_3_method_4_code_0 11 rfl rfl rfl) (by decide +kernel)
theorem d_CS_allCores_27 : decode prog_3_method_4_code 27 = .ok (.iload_n 1, 1) := zo_27 (zd_b zq_prog_3_method_4_code_0 27 rfl rfl rfl)
theorem d_CS_allCores_28 : decode prog_3_method_4_code 28 = .ok (.ireturn, 1) := zo_172 (zd_b zq_prog_3_method_4_code_0 28 rfl rfl rfl)
theorem d_CS_allCores_12 : decode prog_3_method_4_code 12 = .ok (.iload_n 1, 1) := zo_27 (zd_b zq_prog_3_method_4_code_0 12 rfl rfl rfl)
theorem d_CS_allCores_13 : decode prog_3_method_4_code 13 = .ok (.aload_n 0, 1) := zo_42 (zd_b zq_prog_3_method_4_code_0 13 rfl rfl rfl)
theorem d_CS_allCores_14 : decode prog_3_method_4_code 14 = .ok (.getfield 9, 3) := zo_180 (d := 0) (e := 9) (zd_b zq_prog_3_method_4_code_0 14 rfl rfl rfl) (zd_b zq_prog_3_method_4_code_0 15 rfl rfl rfl) (zd_b zq_prog_3_method_4_code_0 16 rfl rfl rfl)
theorem d_CS_allCores_17 : decode prog_3_method_4_code 17 = .ok (.iload_n 2, 1) := zo_28 (zd_b zq_prog_3_method_4_code_0 17 rfl rfl rfl)
theorem d_CS_allCores_18 : decode prog_3_method_4_code 18 = .ok (.iaload, 1) := zo_46 (zd_b zq_prog_3_method_4_code_0 18 rfl rfl rfl)
theorem d_CS_allCores_19 : decode prog_3_method_4_code 19 = .ok (.iadd, 1) := zo_96 (zd_b zq_prog_3_method_4_code_0 19 rfl rfl rfl)
theorem d_CS_allCores_20 : decode prog_3_method_4_code 20 = .ok (.istore_n 1, 1) := zo_60 (zd_b zq_prog_3_method_4_code_0 20 rfl rfl rfl)
theorem d_CS_allCores_21 : decode prog_3_method_4_code 21 = .ok (.iinc 2 1, 3) := by decide +kernel
theorem d_CS_allCores_24 : decode prog_3_method_4_code 24 = .ok (.goto (-20), 3) := zo_167 (d := 255) (e := 236) (zd_b zq_prog_3_method_4_code_0 24 rfl rfl rfl) (zd_b zq_prog_3_method_4_code_0 25 rfl rfl rfl) (zd_b zq_prog_3_method_4_code_0 26 rfl rfl rfl) (by decide +kernel)
theorem d_CS_allCores_0 : decode prog_3_method_4_code 0 = .ok (.iconst 0, 1) := zo_3 (zd_b zq_prog_3_method_4_code_0 0 rfl rfl rfl)
theorem d_CS_allCores_1 : decode prog_3_method_4_code 1 = .ok (.istore_n 1, 1) := zo_60 (zd_b zq_prog_3_method_4_code_0 1 rfl rfl rfl)
theorem d_CS_allCores_2 : decode prog_3_method_4_code 2 = .ok (.iconst 0, 1) := zo_3 (zd_b zq_prog_3_method_4_code_0 2 rfl rfl rfl)
theorem d_CS_allCores_3 : decode prog_3_method_4_code 3 = .ok (.istore_n 2, 1) := zo_61 (zd_b zq_prog_3_method_4_code_0 3 rfl rfl rfl)
set_option maxHeartbeats 4000000 in
set_option maxRecDepth 100000 in
theorem L_CS_allCores_4 (g : zG) (a a1 a2 a3 : Nat) (cn cu ag : Nat → Int32) (nl : Nat) (hnl : nl ≤ 20) (w0 : zW) (n : Nat) : ∀ (d i : Nat), i ≤ nl → nl < i + d → DV g M_CS_allCores (fun o cs1 => o = .inl (some (.int (bx_sum cn nl))) ∧ cs1 = [(a, .inr (1, [.ref a1, .ref a2, .ref a3, .int (nI nl)])), (a1, .inl (0, 20, .inl cn)), (a2, .inl (0, 20, .inl cu)), (a3, .inl (0, 20, .inl ag))]) w0 n 4 [(2, .int (nI i)), (1, .int (bx_sum cn i)), (0, .ref a)] [] [(a, .inr (1, [.ref a1, .ref a2, .ref a3, .int (nI nl)])), (a1, .inl (0, 20, .inl cn)), (a2, .inl (0, 20, .inl cu)), (a3, .inl (0, 20, .inl ag))] 0 0 := by
  intro d
  induction d with
  | zero => intro i h1 h2 ; exact absurd h2 (by omega)
  | succ d ih =>
    intro i h1 h2 
    refine r_iload_n d_CS_allCores_4 rfl 0 rfl ?_
    refine r_aload_n d_CS_allCores_5 rfl 2 rfl ?_
    refine r_get fs_CS_19 d_CS_allCores_6 (q0 := 0) rfl rfl ?_
    refine r_icmp_ge (tgt := 27) d_CS_allCores_9 (by decide) (fun c_9 => ?_) (fun c_9 => ?_)
    · have hn := z_le (by omega) (by omega) c_9
      have hv : i = nl := by omega
      subst hv
      refine r_iload_n d_CS_allCores_27 rfl 1 rfl ?_
      refine r_iret d_CS_allCores_28 rfl rfl ?_
      exact ⟨rfl, rfl⟩
    · have hn := z_nle (by omega) (by omega) c_9
      refine r_iload_n d_CS_allCores_12 rfl 1 rfl ?_
      refine r_aload_n d_CS_allCores_13 rfl 2 rfl ?_
      refine r_get fs_CS_9 d_CS_allCores_14 (q0 := 0) rfl rfl ?_
      refine r_iload_n d_CS_allCores_17 rfl 0 rfl ?_
      refine r_iald d_CS_allCores_18 (q0 := 1) rfl (vp_in_nI (by omega) (by omega)) (v := cn i) (by rw [nI_clamp (by omega)]) ?_
      refine r_iadd d_CS_allCores_19 (v := (bx_sum cn i) + (cn i)) rfl ?_
      refine r_istore_n (lv' := [(1, .int ((bx_sum cn i) + (cn i))), (2, .int (nI i)), (0, .ref a)]) d_CS_allCores_20 rfl (by decide) rfl ?_
      refine r_iinc (lv' := [(2, .int (nI (i + 1))), (1, .int ((bx_sum cn i) + (cn i))), (0, .ref a)]) (v := nI (i + 1)) d_CS_allCores_21 (j := 1) rfl (nI_add _ _) (by decide) rfl ?_
      refine r_goto (tgt := 4) d_CS_allCores_24 (by decide) ?_
      refine r_lvE (lv2 := [(2, .int (nI (i + 1))), (1, .int (bx_sum cn (i + 1))), (0, .ref a)]) (rfl) ?_
      refine r_cs (cs2 := [(a, .inr (1, [.ref a1, .ref a2, .ref a3, .int (nI nl)])), (a1, .inl (0, 20, .inl cn)), (a2, .inl (0, 20, .inl cu)), (a3, .inl (0, 20, .inl ag))]) (rfl) ?_
      exact ih (i + 1) (by omega) (by omega)
set_option maxHeartbeats 4000000 in
set_option maxRecDepth 100000 in
theorem C_CS_allCores (g : zG) (a a1 a2 a3 : Nat) (cn cu ag : Nat → Int32) (nl : Nat) (hnl : nl ≤ 20) : CT g M_CS_allCores [.ref a] [(a, .inr (1, [.ref a1, .ref a2, .ref a3, .int (nI nl)])), (a1, .inl (0, 20, .inl cn)), (a2, .inl (0, 20, .inl cu)), (a3, .inl (0, 20, .inl ag))] (fun o cs1 => o = .inl (some (.int (bx_sum cn nl))) ∧ cs1 = [(a, .inr (1, [.ref a1, .ref a2, .ref a3, .int (nI nl)])), (a1, .inl (0, 20, .inl cn)), (a2, .inl (0, 20, .inl cu)), (a3, .inl (0, 20, .inl ag))]) 0 0 := by
  refine z_of (by decide) rfl (Nat.le_of_ble_eq_true rfl) (fun w0 => ?_)
  refine r_lvE (lv2 := [(0, .ref a)]) rfl ?_
  refine r_iconst d_CS_allCores_0 (v := 0) (by decide) ?_
  refine r_istore_n (lv' := [(1, .int 0), (0, .ref a)]) d_CS_allCores_1 rfl (by decide) rfl ?_
  refine r_iconst d_CS_allCores_2 (v := 0) (by decide) ?_
  refine r_istore_n (lv' := [(2, .int 0), (1, .int 0), (0, .ref a)]) d_CS_allCores_3 rfl (by decide) rfl ?_
  refine r_lvE (lv2 := [(2, .int (nI 0)), (1, .int (bx_sum cn 0)), (0, .ref a)]) (rfl) ?_
  refine r_cs (cs2 := [(a, .inr (1, [.ref a1, .ref a2, .ref a3, .int (nI nl)])), (a1, .inl (0, 20, .inl cn)), (a2, .inl (0, 20, .inl cu)), (a3, .inl (0, 20, .inl ag))]) (rfl) ?_
  exact L_CS_allCores_4 g a a1 a2 a3 cn cu ag nl hnl w0 _  (nl + 1) 0 (Nat.zero_le _) (by omega)
abbrev M_CS_isGood : zM := (⟨"Ironpour$CoreStore", "isGood", "(I)Z"⟩, prog_3_method_6_code, 2, (Option.some FieldType.boolean), 1, 20, [])
theorem d_CS_isGood_0 : decode prog_3_method_6_code 0 = .ok (.aload_n 0, 1) := zo_42 (zd_b zq_prog_3_method_6_code_0 0 rfl rfl rfl)
theorem d_CS_isGood_1 : decode prog_3_method_6_code 1 = .ok (.getfield 16, 3) := zo_180 (d := 0) (e := 16) (zd_b zq_prog_3_method_6_code_0 1 rfl rfl rfl) (zd_b zq_prog_3_method_6_code_0 2 rfl rfl rfl) (zd_b zq_prog_3_method_6_code_0 3 rfl rfl rfl)
theorem d_CS_isGood_4 : decode prog_3_method_6_code 4 = .ok (.iload_n 1, 1) := zo_27 (zd_b zq_prog_3_method_6_code_0 4 rfl rfl rfl)
theorem d_CS_isGood_5 : decode prog_3_method_6_code 5 = .ok (.iaload, 1) := zo_46 (zd_b zq_prog_3_method_6_code_0 5 rfl rfl rfl)
theorem d_CS_isGood_6 : decode prog_3_method_6_code 6 = .ok (.aload_n 0, 1) := zo_42 (zd_b zq_prog_3_method_6_code_0 6 rfl rfl rfl)
theorem d_CS_isGood_7 : decode prog_3_method_6_code 7 = .ok (.getfield 13, 3) := zo_180 (d := 0) (e := 13) (zd_b zq_prog_3_method_6_code_0 7 rfl rfl rfl) (zd_b zq_prog_3_method_6_code_0 8 rfl rfl rfl) (zd_b zq_prog_3_method_6_code_0 9 rfl rfl rfl)
theorem d_CS_isGood_10 : decode prog_3_method_6_code 10 = .ok (.iload_n 1, 1) := zo_27 (zd_b zq_prog_3_method_6_code_0 10 rfl rfl rfl)
theorem d_CS_isGood_11 : decode prog_3_method_6_code 11 = .ok (.iaload, 1) := zo_46 (zd_b zq_prog_3_method_6_code_0 11 rfl rfl rfl)
theorem d_CS_isGood_12 : decode prog_3_method_6_code 12 = .ok (.if_icmp .lt 25, 3) := zo_161 (d := 0) (e := 25) (zd_b zq_prog_3_method_6_code_0 12 rfl rfl rfl) (zd_b zq_prog_3_method_6_code_0 13 rfl rfl rfl) (zd_b zq_prog_3_method_6_code_0 14 rfl rfl rfl) (by decide +kernel)
theorem d_CS_isGood_37 : decode prog_3_method_6_code 37 = .ok (.iconst 0, 1) := zo_3 (zd_b zq_prog_3_method_6_code_1 5 rfl rfl rfl)
theorem d_CS_isGood_38 : decode prog_3_method_6_code 38 = .ok (.ireturn, 1) := zo_172 (zd_b zq_prog_3_method_6_code_1 6 rfl rfl rfl)
theorem d_CS_isGood_15 : decode prog_3_method_6_code 15 = .ok (.aload_n 0, 1) := zo_42 (zd_b zq_prog_3_method_6_code_0 15 rfl rfl rfl)
theorem d_CS_isGood_16 : decode prog_3_method_6_code 16 = .ok (.getfield 16, 3) := zo_180 (d := 0) (e := 16) (zd_b zq_prog_3_method_6_code_0 16 rfl rfl rfl) (zd_b zq_prog_3_method_6_code_0 17 rfl rfl rfl) (zd_b zq_prog_3_method_6_code_0 18 rfl rfl rfl)
theorem d_CS_isGood_19 : decode prog_3_method_6_code 19 = .ok (.iload_n 1, 1) := zo_27 (zd_b zq_prog_3_method_6_code_0 19 rfl rfl rfl)
theorem d_CS_isGood_20 : decode prog_3_method_6_code 20 = .ok (.iaload, 1) := zo_46 (zd_b zq_prog_3_method_6_code_0 20 rfl rfl rfl)
theorem d_CS_isGood_21 : decode prog_3_method_6_code 21 = .ok (.aload_n 0, 1) := zo_42 (zd_b zq_prog_3_method_6_code_0 21 rfl rfl rfl)
theorem d_CS_isGood_22 : decode prog_3_method_6_code 22 = .ok (.getfield 13, 3) := zo_180 (d := 0) (e := 13) (zd_b zq_prog_3_method_6_code_0 22 rfl rfl rfl) (zd_b zq_prog_3_method_6_code_0 23 rfl rfl rfl) (zd_b zq_prog_3_method_6_code_0 24 rfl rfl rfl)
theorem d_CS_isGood_25 : decode prog_3_method_6_code 25 = .ok (.iload_n 1, 1) := zo_27 (zd_b zq_prog_3_method_6_code_0 25 rfl rfl rfl)
theorem d_CS_isGood_26 : decode prog_3_method_6_code 26 = .ok (.iaload, 1) := zo_46 (zd_b zq_prog_3_method_6_code_0 26 rfl rfl rfl)
theorem d_CS_isGood_27 : decode prog_3_method_6_code 27 = .ok (.bipush 72, 2) := zo_16 (d := 72) (zd_b zq_prog_3_method_6_code_0 27 rfl rfl rfl) (zd_b zq_prog_3_method_6_code_0 28 rfl rfl rfl) (by decide +kernel)
theorem d_CS_isGood_29 : decode prog_3_method_6_code 29 = .ok (.iadd, 1) := zo_96 (zd_b zq_prog_3_method_6_code_0 29 rfl rfl rfl)
theorem d_CS_isGood_30 : decode prog_3_method_6_code 30 = .ok (.if_icmp .gt 7, 3) := zo_163 (d := 0) (e := 7) (zd_b zq_prog_3_method_6_code_0 30 rfl rfl rfl) (zd_b zq_prog_3_method_6_code_0 31 rfl rfl rfl) (zd_b zq_prog_3_method_6_code_1 0 rfl rfl rfl) (by decide +kernel)
theorem d_CS_isGood_33 : decode prog_3_method_6_code 33 = .ok (.iconst 1, 1) := zo_4 (zd_b zq_prog_3_method_6_code_1 1 rfl rfl rfl)
theorem d_CS_isGood_34 : decode prog_3_method_6_code 34 = .ok (.goto 4, 3) := zo_167 (d := 0) (e := 4) (zd_b zq_prog_3_method_6_code_1 2 rfl rfl rfl) (zd_b zq_prog_3_method_6_code_1 3 rfl rfl rfl) (zd_b zq_prog_3_method_6_code_1 4 rfl rfl rfl) (by decide +kernel)
set_option maxHeartbeats 4000000 in
set_option maxRecDepth 100000 in
theorem C_CS_isGood (g : zG) (a a1 a2 a3 : Nat) (cn cu ag : Nat → Int32) (nl : Nat) (hnl : nl ≤ 20) (k : Nat) (hk : k < 20) : CT g M_CS_isGood [.ref a, .int (nI k)] [(a, .inr (1, [.ref a1, .ref a2, .ref a3, .int (nI nl)])), (a1, .inl (0, 20, .inl cn)), (a2, .inl (0, 20, .inl cu)), (a3, .inl (0, 20, .inl ag))] (fun o cs1 => o = .inl (some (.int (z_bi (gdB cu ag k)))) ∧ cs1 = [(a, .inr (1, [.ref a1, .ref a2, .ref a3, .int (nI nl)])), (a1, .inl (0, 20, .inl cn)), (a2, .inl (0, 20, .inl cu)), (a3, .inl (0, 20, .inl ag))]) 0 0 := by
  refine z_of (by decide) rfl (Nat.le_of_ble_eq_true rfl) (fun w0 => ?_)
  refine r_lvE (lv2 := [(0, .ref a), (1, .int (nI k))]) rfl ?_
  refine r_aload_n d_CS_isGood_0 rfl 0 rfl ?_
  refine r_get fs_CS_16 d_CS_isGood_1 (q0 := 0) rfl rfl ?_
  refine r_iload_n d_CS_isGood_4 rfl 1 rfl ?_
  refine r_iald d_CS_isGood_5 (q0 := 3) rfl (vp_in_nI (by omega) (by omega)) (v := ag k) (by rw [nI_clamp (by omega)]) ?_
  refine r_aload_n d_CS_isGood_6 rfl 0 rfl ?_
  refine r_get fs_CS_13 d_CS_isGood_7 (q0 := 0) rfl rfl ?_
  refine r_iload_n d_CS_isGood_10 rfl 1 rfl ?_
  refine r_iald d_CS_isGood_11 (q0 := 2) rfl (vp_in_nI (by omega) (by omega)) (v := cu k) (by rw [nI_clamp (by omega)]) ?_
  refine r_icmp_lt (tgt := 37) d_CS_isGood_12 (by decide) (fun c_12 => ?_) (fun c_12 => ?_)
  · refine r_iconst d_CS_isGood_37 (v := 0) (by decide) ?_
    refine r_iret d_CS_isGood_38 rfl rfl ?_
    refine ⟨?_, rfl⟩
    simp_all [gdB, z_bi]
  · refine r_aload_n d_CS_isGood_15 rfl 0 rfl ?_
    refine r_get fs_CS_16 d_CS_isGood_16 (q0 := 0) rfl rfl ?_
    refine r_iload_n d_CS_isGood_19 rfl 1 rfl ?_
    refine r_iald d_CS_isGood_20 (q0 := 3) rfl (vp_in_nI (by omega) (by omega)) (v := ag k) (by rw [nI_clamp (by omega)]) ?_
    refine r_aload_n d_CS_isGood_21 rfl 0 rfl ?_
    refine r_get fs_CS_13 d_CS_isGood_22 (q0 := 0) rfl rfl ?_
    refine r_iload_n d_CS_isGood_25 rfl 1 rfl ?_
    refine r_iald d_CS_isGood_26 (q0 := 2) rfl (vp_in_nI (by omega) (by omega)) (v := cu k) (by rw [nI_clamp (by omega)]) ?_
    refine r_bipush d_CS_isGood_27 (v := 72) (by decide) ?_
    refine r_iadd d_CS_isGood_29 (v := (cu k) + 72) rfl ?_
    refine r_icmp_gt (tgt := 37) d_CS_isGood_30 (by decide) (fun c_30 => ?_) (fun c_30 => ?_)
    · refine r_iconst d_CS_isGood_37 (v := 0) (by decide) ?_
      refine r_iret d_CS_isGood_38 rfl rfl ?_
      refine ⟨?_, rfl⟩
      simp_all [gdB, z_bi]
    · refine r_iconst d_CS_isGood_33 (v := 1) (by decide) ?_
      refine r_goto (tgt := 38) d_CS_isGood_34 (by decide) ?_
      refine r_iret d_CS_isGood_38 rfl rfl ?_
      refine ⟨?_, rfl⟩
      simp_all [gdB, z_bi]
abbrev M_CS_allGood : zM := (⟨"Ironpour$CoreStore", "allGood", "()I"⟩, prog_3_method_5_code, 3, (Option.some FieldType.int), 2, 41, [])
theorem d_CS_allGood_4 : decode prog_3_method_5_code 4 = .ok (.iload_n 2, 1) := zo_28 (zd_b zq_prog_3_method_5_code_0 4 rfl rfl rfl)
theorem d_CS_allGood_5 : decode prog_3_method_5_code 5 = .ok (.aload_n 0, 1) := zo_42 (zd_b zq_prog_3_method_5_code_0 5 rfl rfl rfl)
theorem d_CS_allGood_6 : decode prog_3_method_5_code 6 = .ok (.getfield 19, 3) := zo_180 (d := 0) (e := 19) (zd_b zq_prog_3_method_5_code_0 6 rfl rfl rfl) (zd_b zq_prog_3_method_5_code_0 7 rfl rfl rfl) (zd_b zq_prog_3_method_5_code_0 8 rfl rfl rfl)
theorem d_CS_allGood_9 : decode prog_3_method_5_code 9 = .ok (.if_icmp .ge 30, 3) := zo_162 (d := 0) (e := 30) (zd_b zq_prog_3_method_5_code_0 9 rfl rfl rfl) (zd_b zq_prog_3_method_5_code_0 10 rfl rfl rfl) (zd_b zq_prog_3_method_5_code_0 11 rfl rfl rfl) (by decide +kernel)
theorem d_CS_allGood_39 : decode prog_3_method_5_code 39 = .ok (.iload_n 1, 1) := zo_27 (zd_b zq_prog_3_method_5_code_1 7 rfl rfl rfl)
theorem d_CS_allGood_40 : decode prog_3_method_5_code 40 = .ok (.ireturn, 1) := zo_172 (zd_b zq_prog_3_method_5_code_1 8 rfl rfl rfl)
theorem d_CS_allGood_12 : decode prog_3_method_5_code 12 = .ok (.iload_n 1, 1) := zo_27 (zd_b zq_prog_3_method_5_code_0 12 rfl rfl rfl)
theorem d_CS_allGood_13 : decode prog_3_method_5_code 13 = .ok (.aload_n 0, 1) := zo_42 (zd_b zq_prog_3_method_5_code_0 13 rfl rfl rfl)
theorem d_CS_allGood_14 : decode prog_3_method_5_code 14 = .ok (.iload_n 2, 1) := zo_28 (zd_b zq_prog_3_method_5_code_0 14 rfl rfl rfl)
theorem d_CS_allGood_15 : decode prog_3_method_5_code 15 = .ok (.invokevirtual 23, 3) := zo_182 (d := 0) (e := 23) (zd_b zq_prog_3_method_5_code_0 15 rfl rfl rfl) (zd_b zq_prog_3_method_5_code_0 16 rfl rfl rfl) (zd_b zq_prog_3_method_5_code_0 17 rfl rfl rfl)
theorem ok_CS_allGood_CS_isGood : z_ok M_CS_allGood M_CS_isGood 1 := ⟨z_mj2 (i := 164) rfl (by decide +kernel), rfl, ⟨by decide +kernel, by decide +kernel, by decide +kernel⟩, ⟨by decide, by decide⟩, z_mj1 (i := 6) rfl (by decide +kernel), rfl⟩
theorem ln_CS_23 : Cond.methodLink "Ironpour$CoreStore" 23 M_CS_isGood.1 ∈ z_gw := z_mj2 (i := 161) rfl (by decide +kernel)
theorem w_im_CS_isGood : Cond.instanceMethod M_CS_isGood.1 ∈ z_gw := z_mj2 (i := 163) rfl (by decide +kernel)
theorem w_se_CS_isGood : Cond.selects M_CS_isGood.1.cls M_CS_isGood.1 M_CS_isGood.1 ∈ z_gw := z_mem (i := 3) (by decide +kernel) (by decide +kernel)
theorem d_CS_allGood_18 : decode prog_3_method_5_code 18 = .ok (.ifCond .eq 12, 3) := zo_153 (d := 0) (e := 12) (zd_b zq_prog_3_method_5_code_0 18 rfl rfl rfl) (zd_b zq_prog_3_method_5_code_0 19 rfl rfl rfl) (zd_b zq_prog_3_method_5_code_0 20 rfl rfl rfl) (by decide +kernel)
theorem d_CS_allGood_30 : decode prog_3_method_5_code 30 = .ok (.iconst 0, 1) := zo_3 (zd_b zq_prog_3_method_5_code_0 30 rfl rfl rfl)
theorem d_CS_allGood_31 : decode prog_3_method_5_code 31 = .ok (.iadd, 1) := zo_96 (zd_b zq_prog_3_method_5_code_0 31 rfl rfl rfl)
theorem d_CS_allGood_32 : decode prog_3_method_5_code 32 = .ok (.istore_n 1, 1) := zo_60 (zd_b zq_prog_3_method_5_code_1 0 rfl rfl rfl)
theorem d_CS_allGood_33 : decode prog_3_method_5_code 33 = .ok (.iinc 2 1, 3) := by decide +kernel
theorem d_CS_allGood_36 : decode prog_3_method_5_code 36 = .ok (.goto (-32), 3) := zo_167 (d := 255) (e := 224) (zd_b zq_prog_3_method_5_code_1 4 rfl rfl rfl) (zd_b zq_prog_3_method_5_code_1 5 rfl rfl rfl) (zd_b zq_prog_3_method_5_code_1 6 rfl rfl rfl) (by decide +kernel)
theorem d_CS_allGood_21 : decode prog_3_method_5_code 21 = .ok (.aload_n 0, 1) := zo_42 (zd_b zq_prog_3_method_5_code_0 21 rfl rfl rfl)
theorem d_CS_allGood_22 : decode prog_3_method_5_code 22 = .ok (.getfield 9, 3) := zo_180 (d := 0) (e := 9) (zd_b zq_prog_3_method_5_code_0 22 rfl rfl rfl) (zd_b zq_prog_3_method_5_code_0 23 rfl rfl rfl) (zd_b zq_prog_3_method_5_code_0 24 rfl rfl rfl)
theorem d_CS_allGood_25 : decode prog_3_method_5_code 25 = .ok (.iload_n 2, 1) := zo_28 (zd_b zq_prog_3_method_5_code_0 25 rfl rfl rfl)
theorem d_CS_allGood_26 : decode prog_3_method_5_code 26 = .ok (.iaload, 1) := zo_46 (zd_b zq_prog_3_method_5_code_0 26 rfl rfl rfl)
theorem d_CS_allGood_27 : decode prog_3_method_5_code 27 = .ok (.goto 4, 3) := zo_167 (d := 0) (e := 4) (zd_b zq_prog_3_method_5_code_0 27 rfl rfl rfl) (zd_b zq_prog_3_method_5_code_0 28 rfl rfl rfl) (zd_b zq_prog_3_method_5_code_0 29 rfl rfl rfl) (by decide +kernel)
theorem d_CS_allGood_0 : decode prog_3_method_5_code 0 = .ok (.iconst 0, 1) := zo_3 (zd_b zq_prog_3_method_5_code_0 0 rfl rfl rfl)
theorem d_CS_allGood_1 : decode prog_3_method_5_code 1 = .ok (.istore_n 1, 1) := zo_60 (zd_b zq_prog_3_method_5_code_0 1 rfl rfl rfl)
theorem d_CS_allGood_2 : decode prog_3_method_5_code 2 = .ok (.iconst 0, 1) := zo_3 (zd_b zq_prog_3_method_5_code_0 2 rfl rfl rfl)
theorem d_CS_allGood_3 : decode prog_3_method_5_code 3 = .ok (.istore_n 2, 1) := zo_61 (zd_b zq_prog_3_method_5_code_0 3 rfl rfl rfl)
set_option maxHeartbeats 4000000 in
set_option maxRecDepth 100000 in
theorem L_CS_allGood_4 (g : zG) (a a1 a2 a3 : Nat) (cn cu ag : Nat → Int32) (nl : Nat) (hnl : nl ≤ 20) (w0 : zW) (n : Nat) : ∀ (d i : Nat), i ≤ nl → nl < i + d → DV g M_CS_allGood (fun o cs1 => o = .inl (some (.int (bx_sum (fun k => if gdB cu ag k then cn k else 0) nl))) ∧ cs1 = [(a, .inr (1, [.ref a1, .ref a2, .ref a3, .int (nI nl)])), (a1, .inl (0, 20, .inl cn)), (a2, .inl (0, 20, .inl cu)), (a3, .inl (0, 20, .inl ag))]) w0 n 4 [(2, .int (nI i)), (1, .int (bx_sum (fun k => if gdB cu ag k then cn k else 0) i)), (0, .ref a)] [] [(a, .inr (1, [.ref a1, .ref a2, .ref a3, .int (nI nl)])), (a1, .inl (0, 20, .inl cn)), (a2, .inl (0, 20, .inl cu)), (a3, .inl (0, 20, .inl ag))] 0 0 := by
  intro d
  induction d with
  | zero => intro i h1 h2 ; exact absurd h2 (by omega)
  | succ d ih =>
    intro i h1 h2 
    refine r_iload_n d_CS_allGood_4 rfl 0 rfl ?_
    refine r_aload_n d_CS_allGood_5 rfl 2 rfl ?_
    refine r_get fs_CS_19 d_CS_allGood_6 (q0 := 0) rfl rfl ?_
    refine r_icmp_ge (tgt := 39) d_CS_allGood_9 (by decide) (fun c_9 => ?_) (fun c_9 => ?_)
    · have hn := z_le (by omega) (by omega) c_9
      have hv : i = nl := by omega
      subst hv
      refine r_iload_n d_CS_allGood_39 rfl 1 rfl ?_
      refine r_iret d_CS_allGood_40 rfl rfl ?_
      exact ⟨rfl, rfl⟩
    · have hn := z_nle (by omega) (by omega) c_9
      refine r_iload_n d_CS_allGood_12 rfl 1 rfl ?_
      refine r_aload_n d_CS_allGood_13 rfl 2 rfl ?_
      refine r_iload_n d_CS_allGood_14 rfl 0 rfl ?_
      refine r_callV (As := [.int (nI i)]) (rest := [.int (bx_sum (fun k => if gdB cu ag k then cn k else 0) i)]) (csC := [(a, .inr (1, [.ref a1, .ref a2, .ref a3, .int (nI nl)])), (a1, .inl (0, 20, .inl cn)), (a2, .inl (0, 20, .inl cu)), (a3, .inl (0, 20, .inl ag))]) (is := [0, 1, 2, 3]) (q0 := 0) rfl rfl ln_CS_23 w_im_CS_isGood w_se_CS_isGood ok_CS_allGood_CS_isGood d_CS_allGood_15 (C_CS_isGood g a a1 a2 a3 cn cu ag nl hnl i (by omega)) rfl rfl (Nat.le_of_ble_eq_true rfl) rfl (by decide) (by omega) (by omega) (fun E cs1 hx => ?_) (fun v cs1 hx => ?_)
      · exact absurd hx.1 (by simp)
      · obtain ⟨e1, rfl⟩ := hx
        cases e1
        refine ⟨rfl, ?_⟩
        refine r_st (st2 := [.int (z_bi (gdB cu ag i)), .int (bx_sum (fun k => if gdB cu ag k then cn k else 0) i)]) rfl ?_
        refine r_cs (cs2 := [(a, .inr (1, [.ref a1, .ref a2, .ref a3, .int (nI nl)])), (a1, .inl (0, 20, .inl cn)), (a2, .inl (0, 20, .inl cu)), (a3, .inl (0, 20, .inl ag))]) rfl ?_
        refine r_if_eq (tgt := 30) d_CS_allGood_18 (by decide) (fun c_18 => ?_) (fun c_18 => ?_)
        · have hb := z_bi0 c_18
          refine r_iconst d_CS_allGood_30 (v := 0) (by decide) ?_
          refine r_iadd d_CS_allGood_31 (v := (bx_sum (fun k => if gdB cu ag k then cn k else 0) i) + 0) rfl ?_
          refine r_istore_n (lv' := [(1, .int ((bx_sum (fun k => if gdB cu ag k then cn k else 0) i) + 0)), (2, .int (nI i)), (0, .ref a)]) d_CS_allGood_32 rfl (by decide) rfl ?_
          refine r_iinc (lv' := [(2, .int (nI (i + 1))), (1, .int ((bx_sum (fun k => if gdB cu ag k then cn k else 0) i) + 0)), (0, .ref a)]) (v := nI (i + 1)) d_CS_allGood_33 (j := 1) rfl (nI_add _ _) (by decide) rfl ?_
          refine r_goto (tgt := 4) d_CS_allGood_36 (by decide) ?_
          refine r_lvE (lv2 := [(2, .int (nI (i + 1))), (1, .int (bx_sum (fun k => if gdB cu ag k then cn k else 0) (i + 1))), (0, .ref a)]) (by first | (rw [bx_sum]; simp only [hb, if_true]; done) | (rw [bx_sum]; simp [hb]; done)) ?_
          refine r_cs (cs2 := [(a, .inr (1, [.ref a1, .ref a2, .ref a3, .int (nI nl)])), (a1, .inl (0, 20, .inl cn)), (a2, .inl (0, 20, .inl cu)), (a3, .inl (0, 20, .inl ag))]) (rfl) ?_
          exact ih (i + 1) (by omega) (by omega)
        · have hb := z_bi1 c_18
          refine r_aload_n d_CS_allGood_21 rfl 2 rfl ?_
          refine r_get fs_CS_9 d_CS_allGood_22 (q0 := 0) rfl rfl ?_
          refine r_iload_n d_CS_allGood_25 rfl 0 rfl ?_
          refine r_iald d_CS_allGood_26 (q0 := 1) rfl (vp_in_nI (by omega) (by omega)) (v := cn i) (by rw [nI_clamp (by omega)]) ?_
          refine r_goto (tgt := 31) d_CS_allGood_27 (by decide) ?_
          refine r_iadd d_CS_allGood_31 (v := (bx_sum (fun k => if gdB cu ag k then cn k else 0) i) + (cn i)) rfl ?_
          refine r_istore_n (lv' := [(1, .int ((bx_sum (fun k => if gdB cu ag k then cn k else 0) i) + (cn i))), (2, .int (nI i)), (0, .ref a)]) d_CS_allGood_32 rfl (by decide) rfl ?_
          refine r_iinc (lv' := [(2, .int (nI (i + 1))), (1, .int ((bx_sum (fun k => if gdB cu ag k then cn k else 0) i) + (cn i))), (0, .ref a)]) (v := nI (i + 1)) d_CS_allGood_33 (j := 1) rfl (nI_add _ _) (by decide) rfl ?_
          refine r_goto (tgt := 4) d_CS_allGood_36 (by decide) ?_
          refine r_lvE (lv2 := [(2, .int (nI (i + 1))), (1, .int (bx_sum (fun k => if gdB cu ag k then cn k else 0) (i + 1))), (0, .ref a)]) (by first | (rw [bx_sum]; simp only [hb, if_true]; done) | (rw [bx_sum]; simp [hb]; done)) ?_
          refine r_cs (cs2 := [(a, .inr (1, [.ref a1, .ref a2, .ref a3, .int (nI nl)])), (a1, .inl (0, 20, .inl cn)), (a2, .inl (0, 20, .inl cu)), (a3, .inl (0, 20, .inl ag))]) (rfl) ?_
          exact ih (i + 1) (by omega) (by omega)
set_option maxHeartbeats 4000000 in
set_option maxRecDepth 100000 in
theorem C_CS_allGood (g : zG) (a a1 a2 a3 : Nat) (cn cu ag : Nat → Int32) (nl : Nat) (hnl : nl ≤ 20) : CT g M_CS_allGood [.ref a] [(a, .inr (1, [.ref a1, .ref a2, .ref a3, .int (nI nl)])), (a1, .inl (0, 20, .inl cn)), (a2, .inl (0, 20, .inl cu)), (a3, .inl (0, 20, .inl ag))] (fun o cs1 => o = .inl (some (.int (bx_sum (fun k => if gdB cu ag k then cn k else 0) nl))) ∧ cs1 = [(a, .inr (1, [.ref a1, .ref a2, .ref a3, .int (nI nl)])), (a1, .inl (0, 20, .inl cn)), (a2, .inl (0, 20, .inl cu)), (a3, .inl (0, 20, .inl ag))]) 0 0 := by
  refine z_of (by decide) rfl (Nat.le_of_ble_eq_true rfl) (fun w0 => ?_)
  refine r_lvE (lv2 := [(0, .ref a)]) rfl ?_
  refine r_iconst d_CS_allGood_0 (v := 0) (by decide) ?_
  refine r_istore_n (lv' := [(1, .int 0), (0, .ref a)]) d_CS_allGood_1 rfl (by decide) rfl ?_
  refine r_iconst d_CS_allGood_2 (v := 0) (by decide) ?_
  refine r_istore_n (lv' := [(2, .int 0), (1, .int 0), (0, .ref a)]) d_CS_allGood_3 rfl (by decide) rfl ?_
  refine r_lvE (lv2 := [(2, .int (nI 0)), (1, .int (bx_sum (fun k => if gdB cu ag k then cn k else 0) 0)), (0, .ref a)]) (rfl) ?_
  refine r_cs (cs2 := [(a, .inr (1, [.ref a1, .ref a2, .ref a3, .int (nI nl)])), (a1, .inl (0, 20, .inl cn)), (a2, .inl (0, 20, .inl cu)), (a3, .inl (0, 20, .inl ag))]) (rfl) ?_
  exact L_CS_allGood_4 g a a1 a2 a3 cn cu ag nl hnl w0 _  (nl + 1) 0 (Nat.zero_le _) (by omega)
abbrev M_CS_dropEmptyLots : zM := (⟨"Ironpour$CoreStore", "dropEmptyLots", "()V"⟩, prog_3_method_9_code, 3, (Option.none : Option FieldType), 1, 20, [])
theorem d_CS_dropEmptyLots_4 : decode prog_3_method_9_code 4 = .ok (.iload_n 2, 1) := zo_28 (zd_b zq_prog_3_method_9_code_0 4 rfl rfl rfl)
theorem d_CS_dropEmptyLots_5 : decode prog_3_method_9_code 5 = .ok (.aload_n 0, 1) := zo_42 (zd_b zq_prog_3_method_9_code_0 5 rfl rfl rfl)
theorem d_CS_dropEmptyLots_6 : decode prog_3_method_9_code 6 = .ok (.getfield 19, 3) := zo_180 (d := 0) (e := 19) (zd_b zq_prog_3_method_9_code_0 6 rfl rfl rfl) (zd_b zq_prog_3_method_9_code_0 7 rfl rfl rfl) (zd_b zq_prog_3_method_9_code_0 8 rfl rfl rfl)
theorem d_CS_dropEmptyLots_9 : decode prog_3_method_9_code 9 = .ok (.if_icmp .ge 57, 3) := zo_162 (d := 0) (e := 57) (zd_b zq_prog_3_method_9_code_0 9 rfl rfl rfl) (zd_b zq_prog_3_method_9_code_0 10 rfl rfl rfl) (zd_b zq_prog_3_method_9_code_0 11 rfl rfl rfl) (by decide +kernel)
theorem d_CS_dropEmptyLots_66 : decode prog_3_method_9_code 66 = .ok (.aload_n 0, 1) := zo_42 (zd_b zq_prog_3_method_9_code_2 2 rfl rfl rfl)
theorem d_CS_dropEmptyLots_67 : decode prog_3_method_9_code 67 = .ok (.iload_n 1, 1) := zo_27 (zd_b zq_prog_3_method_9_code_2 3 rfl rfl rfl)
theorem d_CS_dropEmptyLots_68 : decode prog_3_method_9_code 68 = .ok (.putfield 19, 3) := zo_181 (d := 0) (e := 19) (zd_b zq_prog_3_method_9_code_2 4 rfl rfl rfl) (zd_b zq_prog_3_method_9_code_2 5 rfl rfl rfl) (zd_b zq_prog_3_method_9_code_2 6 rfl rfl rfl)
theorem d_CS_dropEmptyLots_71 : decode prog_3_method_9_code 71 = .ok (.return_, 1) := zo_177 (zd_b zq_prog_3_method_9_code_2 7 rfl rfl rfl)
theorem d_CS_dropEmptyLots_12 : decode prog_3_method_9_code 12 = .ok (.aload_n 0, 1) := zo_42 (zd_b zq_prog_3_method_9_code_0 12 rfl rfl rfl)
theorem d_CS_dropEmptyLots_13 : decode prog_3_method_9_code 13 = .ok (.getfield 9, 3) := zo_180 (d := 0) (e := 9) (zd_b zq_prog_3_method_9_code_0 13 rfl rfl rfl) (zd_b zq_prog_3_method_9_code_0 14 rfl rfl rfl) (zd_b zq_prog_3_method_9_code_0 15 rfl rfl rfl)
theorem d_CS_dropEmptyLots_16 : decode prog_3_method_9_code 16 = .ok (.iload_n 2, 1) := zo_28 (zd_b zq_prog_3_method_9_code_0 16 rfl rfl rfl)
theorem d_CS_dropEmptyLots_17 : decode prog_3_method_9_code 17 = .ok (.iaload, 1) := zo_46 (zd_b zq_prog_3_method_9_code_0 17 rfl rfl rfl)
theorem d_CS_dropEmptyLots_18 : decode prog_3_method_9_code 18 = .ok (.ifCond .le 42, 3) := zo_158 (d := 0) (e := 42) (zd_b zq_prog_3_method_9_code_0 18 rfl rfl rfl) (zd_b zq_prog_3_method_9_code_0 19 rfl rfl rfl) (zd_b zq_prog_3_method_9_code_0 20 rfl rfl rfl) (by decide +kernel)
theorem d_CS_dropEmptyLots_60 : decode prog_3_method_9_code 60 = .ok (.iinc 2 1, 3) := by decide +kernel
theorem d_CS_dropEmptyLots_63 : decode prog_3_method_9_code 63 = .ok (.goto (-59), 3) := zo_167 (d := 255) (e := 197) (zd_b zq_prog_3_method_9_code_1 31 rfl rfl rfl) (zd_b zq_prog_3_method_9_code_2 0 rfl rfl rfl) (zd_b zq_prog_3_method_9_code_2 1 rfl rfl rfl) (by decide +kernel)
theorem d_CS_dropEmptyLots_21 : decode prog_3_method_9_code 21 = .ok (.aload_n 0, 1) := zo_42 (zd_b zq_prog_3_method_9_code_0 21 rfl rfl rfl)
theorem d_CS_dropEmptyLots_22 : decode prog_3_method_9_code 22 = .ok (.getfield 9, 3) := zo_180 (d := 0) (e := 9) (zd_b zq_prog_3_method_9_code_0 22 rfl rfl rfl) (zd_b zq_prog_3_method_9_code_0 23 rfl rfl rfl) (zd_b zq_prog_3_method_9_code_0 24 rfl rfl rfl)
theorem d_CS_dropEmptyLots_25 : decode prog_3_method_9_code 25 = .ok (.iload_n 1, 1) := zo_27 (zd_b zq_prog_3_method_9_code_0 25 rfl rfl rfl)
theorem d_CS_dropEmptyLots_26 : decode prog_3_method_9_code 26 = .ok (.aload_n 0, 1) := zo_42 (zd_b zq_prog_3_method_9_code_0 26 rfl rfl rfl)
theorem d_CS_dropEmptyLots_27 : decode prog_3_method_9_code 27 = .ok (.getfield 9, 3) := zo_180 (d := 0) (e := 9) (zd_b zq_prog_3_method_9_code_0 27 rfl rfl rfl) (zd_b zq_prog_3_method_9_code_0 28 rfl rfl rfl) (zd_b zq_prog_3_method_9_code_0 29 rfl rfl rfl)
theorem d_CS_dropEmptyLots_30 : decode prog_3_method_9_code 30 = .ok (.iload_n 2, 1) := zo_28 (zd_b zq_prog_3_method_9_code_0 30 rfl rfl rfl)
theorem d_CS_dropEmptyLots_31 : decode prog_3_method_9_code 31 = .ok (.iaload, 1) := zo_46 (zd_b zq_prog_3_method_9_code_0 31 rfl rfl rfl)
theorem d_CS_dropEmptyLots_32 : decode prog_3_method_9_code 32 = .ok (.iastore, 1) := zo_79 (zd_b zq_prog_3_method_9_code_1 0 rfl rfl rfl)
theorem d_CS_dropEmptyLots_33 : decode prog_3_method_9_code 33 = .ok (.aload_n 0, 1) := zo_42 (zd_b zq_prog_3_method_9_code_1 1 rfl rfl rfl)
theorem d_CS_dropEmptyLots_34 : decode prog_3_method_9_code 34 = .ok (.getfield 13, 3) := zo_180 (d := 0) (e := 13) (zd_b zq_prog_3_method_9_code_1 2 rfl rfl rfl) (zd_b zq_prog_3_method_9_code_1 3 rfl rfl rfl) (zd_b zq_prog_3_method_9_code_1 4 rfl rfl rfl)
theorem d_CS_dropEmptyLots_37 : decode prog_3_method_9_code 37 = .ok (.iload_n 1, 1) := zo_27 (zd_b zq_prog_3_method_9_code_1 5 rfl rfl rfl)
theorem d_CS_dropEmptyLots_38 : decode prog_3_method_9_code 38 = .ok (.aload_n 0, 1) := zo_42 (zd_b zq_prog_3_method_9_code_1 6 rfl rfl rfl)
theorem d_CS_dropEmptyLots_39 : decode prog_3_method_9_code 39 = .ok (.getfield 13, 3) := zo_180 (d := 0) (e := 13) (zd_b zq_prog_3_method_9_code_1 7 rfl rfl rfl) (zd_b zq_prog_3_method_9_code_1 8 rfl rfl rfl) (zd_b zq_prog_3_method_9_code_1 9 rfl rfl rfl)
theorem d_CS_dropEmptyLots_42 : decode prog_3_method_9_code 42 = .ok (.iload_n 2, 1) := zo_28 (zd_b zq_prog_3_method_9_code_1 10 rfl rfl rfl)
theorem d_CS_dropEmptyLots_43 : decode prog_3_method_9_code 43 = .ok (.iaload, 1) := zo_46 (zd_b zq_prog_3_method_9_code_1 11 rfl rfl rfl)
theorem d_CS_dropEmptyLots_44 : decode prog_3_method_9_code 44 = .ok (.iastore, 1) := zo_79 (zd_b zq_prog_3_method_9_code_1 12 rfl rfl rfl)
theorem d_CS_dropEmptyLots_45 : decode prog_3_method_9_code 45 = .ok (.aload_n 0, 1) := zo_42 (zd_b zq_prog_3_method_9_code_1 13 rfl rfl rfl)
theorem d_CS_dropEmptyLots_46 : decode prog_3_method_9_code 46 = .ok (.getfield 16, 3) := zo_180 (d := 0) (e := 16) (zd_b zq_prog_3_method_9_code_1 14 rfl rfl rfl) (zd_b zq_prog_3_method_9_code_1 15 rfl rfl rfl) (zd_b zq_prog_3_method_9_code_1 16 rfl rfl rfl)
theorem d_CS_dropEmptyLots_49 : decode prog_3_method_9_code 49 = .ok (.iload_n 1, 1) := zo_27 (zd_b zq_prog_3_method_9_code_1 17 rfl rfl rfl)
theorem d_CS_dropEmptyLots_50 : decode prog_3_method_9_code 50 = .ok (.aload_n 0, 1) := zo_42 (zd_b zq_prog_3_method_9_code_1 18 rfl rfl rfl)
theorem d_CS_dropEmptyLots_51 : decode prog_3_method_9_code 51 = .ok (.getfield 16, 3) := zo_180 (d := 0) (e := 16) (zd_b zq_prog_3_method_9_code_1 19 rfl rfl rfl) (zd_b zq_prog_3_method_9_code_1 20 rfl rfl rfl) (zd_b zq_prog_3_method_9_code_1 21 rfl rfl rfl)
theorem d_CS_dropEmptyLots_54 : decode prog_3_method_9_code 54 = .ok (.iload_n 2, 1) := zo_28 (zd_b zq_prog_3_method_9_code_1 22 rfl rfl rfl)
theorem d_CS_dropEmptyLots_55 : decode prog_3_method_9_code 55 = .ok (.iaload, 1) := zo_46 (zd_b zq_prog_3_method_9_code_1 23 rfl rfl rfl)
theorem d_CS_dropEmptyLots_56 : decode prog_3_method_9_code 56 = .ok (.iastore, 1) := zo_79 (zd_b zq_prog_3_method_9_code_1 24 rfl rfl rfl)
theorem d_CS_dropEmptyLots_57 : decode prog_3_method_9_code 57 = .ok (.iinc 1 1, 3) := by decide +kernel
theorem d_CS_dropEmptyLots_0 : decode prog_3_method_9_code 0 = .ok (.iconst 0, 1) := zo_3 (zd_b zq_prog_3_method_9_code_0 0 rfl rfl rfl)
theorem d_CS_dropEmptyLots_1 : decode prog_3_method_9_code 1 = .ok (.istore_n 1, 1) := zo_60 (zd_b zq_prog_3_method_9_code_0 1 rfl rfl rfl)
theorem d_CS_dropEmptyLots_2 : decode prog_3_method_9_code 2 = .ok (.iconst 0, 1) := zo_3 (zd_b zq_prog_3_method_9_code_0 2 rfl rfl rfl)
theorem d_CS_dropEmptyLots_3 : decode prog_3_method_9_code 3 = .ok (.istore_n 2, 1) := zo_61 (zd_b zq_prog_3_method_9_code_0 3 rfl rfl rfl)
set_option maxHeartbeats 4000000 in
set_option maxRecDepth 100000 in
theorem L_CS_dropEmptyLots_4 (g : zG) (a a1 a2 a3 : Nat) (cn cu ag : Nat → Int32) (nl : Nat) (hnl : nl ≤ 20) (w0 : zW) (n : Nat) : ∀ (d i : Nat), i ≤ nl → nl < i + d → DV g M_CS_dropEmptyLots (fun o cs1 => o = .inl none ∧ cs1 = [(a, .inr (1, [.ref a1, .ref a2, .ref a3, .int (nI (dlS cn cu ag nl).1)])), (a1, .inl (0, 20, .inl ((dlS cn cu ag nl).2.1))), (a2, .inl (0, 20, .inl ((dlS cn cu ag nl).2.2.1))), (a3, .inl (0, 20, .inl ((dlS cn cu ag nl).2.2.2)))]) w0 n 4 [(2, .int (nI i)), (1, .int (nI (dlS cn cu ag i).1)), (0, .ref a)] [] [(a, .inr (1, [.ref a1, .ref a2, .ref a3, .int (nI nl)])), (a1, .inl (0, 20, .inl ((dlS cn cu ag i).2.1))), (a2, .inl (0, 20, .inl ((dlS cn cu ag i).2.2.1))), (a3, .inl (0, 20, .inl ((dlS cn cu ag i).2.2.2)))] 0 0 := by
  intro d
  induction d with
  | zero => intro i h1 h2 ; exact absurd h2 (by omega)
  | succ d ih =>
    intro i h1 h2 
    refine r_iload_n d_CS_dropEmptyLots_4 rfl 0 rfl ?_
    refine r_aload_n d_CS_dropEmptyLots_5 rfl 2 rfl ?_
    refine r_get fs_CS_19 d_CS_dropEmptyLots_6 (q0 := 0) rfl rfl ?_
    refine r_icmp_ge (tgt := 66) d_CS_dropEmptyLots_9 (by decide) (fun c_9 => ?_) (fun c_9 => ?_)
    · have hn := z_le (by omega) (by omega) c_9
      have hv : i = nl := by omega
      subst hv
      refine r_aload_n d_CS_dropEmptyLots_66 rfl 2 rfl ?_
      refine r_iload_n d_CS_dropEmptyLots_67 rfl 1 rfl ?_
      refine r_put fp_CS_19 d_CS_dropEmptyLots_68 (fun h => nomatch h) rfl rfl (q0 := 0) rfl (Nat.le_of_ble_eq_true rfl) (cs' := [(a, .inr (1, [.ref a1, .ref a2, .ref a3, .int (nI (dlS cn cu ag i).1)])), (a1, .inl (0, 20, .inl ((dlS cn cu ag i).2.1))), (a2, .inl (0, 20, .inl ((dlS cn cu ag i).2.2.1))), (a3, .inl (0, 20, .inl ((dlS cn cu ag i).2.2.2)))]) rfl ?_
      refine r_vret d_CS_dropEmptyLots_71 rfl ?_
      exact ⟨rfl, rfl⟩
    · have hn := z_nle (by omega) (by omega) c_9
      have hle := dlS_le cn cu ag i
      refine r_aload_n d_CS_dropEmptyLots_12 rfl 2 rfl ?_
      refine r_get fs_CS_9 d_CS_dropEmptyLots_13 (q0 := 0) rfl rfl ?_
      refine r_iload_n d_CS_dropEmptyLots_16 rfl 0 rfl ?_
      refine r_iald d_CS_dropEmptyLots_17 (q0 := 1) rfl (vp_in_nI (by omega) (by omega)) (v := ((dlS cn cu ag i).2.1) i) (by rw [nI_clamp (by omega)]) ?_
      refine r_if_le (tgt := 60) d_CS_dropEmptyLots_18 (by decide) (fun c_18 => ?_) (fun c_18 => ?_)
      · refine r_iinc (lv' := [(2, .int (nI (i + 1))), (1, .int (nI (dlS cn cu ag i).1)), (0, .ref a)]) (v := nI (i + 1)) d_CS_dropEmptyLots_60 (j := 0) rfl (nI_add _ _) (by decide) rfl ?_
        refine r_goto (tgt := 4) d_CS_dropEmptyLots_63 (by decide) ?_
        refine r_lvE (lv2 := [(2, .int (nI (i + 1))), (1, .int (nI (dlS cn cu ag (i + 1)).1)), (0, .ref a)]) (by first | (rw [dlS_t c_18] <;> rfl) | (rw [dlS_f c_18] <;> rfl)) ?_
        refine r_cs (cs2 := [(a, .inr (1, [.ref a1, .ref a2, .ref a3, .int (nI nl)])), (a1, .inl (0, 20, .inl ((dlS cn cu ag (i + 1)).2.1))), (a2, .inl (0, 20, .inl ((dlS cn cu ag (i + 1)).2.2.1))), (a3, .inl (0, 20, .inl ((dlS cn cu ag (i + 1)).2.2.2)))]) (by first | (rw [dlS_t c_18] <;> rfl) | (rw [dlS_f c_18] <;> rfl)) ?_
        exact ih (i + 1) (by omega) (by omega)
      · refine r_aload_n d_CS_dropEmptyLots_21 rfl 2 rfl ?_
        refine r_get fs_CS_9 d_CS_dropEmptyLots_22 (q0 := 0) rfl rfl ?_
        refine r_iload_n d_CS_dropEmptyLots_25 rfl 1 rfl ?_
        refine r_aload_n d_CS_dropEmptyLots_26 rfl 2 rfl ?_
        refine r_get fs_CS_9 d_CS_dropEmptyLots_27 (q0 := 0) rfl rfl ?_
        refine r_iload_n d_CS_dropEmptyLots_30 rfl 0 rfl ?_
        refine r_iald d_CS_dropEmptyLots_31 (q0 := 1) rfl (vp_in_nI (by omega) (by omega)) (v := ((dlS cn cu ag i).2.1) i) (by rw [nI_clamp (by omega)]) ?_
        refine r_iast d_CS_dropEmptyLots_32 (q0 := 1) rfl (vp_in_nI (by omega) (by omega)) (f' := upd ((dlS cn cu ag i).2.1) (dlS cn cu ag i).1 (((dlS cn cu ag i).2.1) i)) (by rw [nI_clamp (by omega)]) (cs' := [(a, .inr (1, [.ref a1, .ref a2, .ref a3, .int (nI nl)])), (a1, .inl (0, 20, .inl (upd ((dlS cn cu ag i).2.1) (dlS cn cu ag i).1 (((dlS cn cu ag i).2.1) i)))), (a2, .inl (0, 20, .inl ((dlS cn cu ag i).2.2.1))), (a3, .inl (0, 20, .inl ((dlS cn cu ag i).2.2.2)))]) rfl ?_
        refine r_aload_n d_CS_dropEmptyLots_33 rfl 2 rfl ?_
        refine r_get fs_CS_13 d_CS_dropEmptyLots_34 (q0 := 0) rfl rfl ?_
        refine r_iload_n d_CS_dropEmptyLots_37 rfl 1 rfl ?_
        refine r_aload_n d_CS_dropEmptyLots_38 rfl 2 rfl ?_
        refine r_get fs_CS_13 d_CS_dropEmptyLots_39 (q0 := 0) rfl rfl ?_
        refine r_iload_n d_CS_dropEmptyLots_42 rfl 0 rfl ?_
        refine r_iald d_CS_dropEmptyLots_43 (q0 := 2) rfl (vp_in_nI (by omega) (by omega)) (v := ((dlS cn cu ag i).2.2.1) i) (by rw [nI_clamp (by omega)]) ?_
        refine r_iast d_CS_dropEmptyLots_44 (q0 := 2) rfl (vp_in_nI (by omega) (by omega)) (f' := upd ((dlS cn cu ag i).2.2.1) (dlS cn cu ag i).1 (((dlS cn cu ag i).2.2.1) i)) (by rw [nI_clamp (by omega)]) (cs' := [(a, .inr (1, [.ref a1, .ref a2, .ref a3, .int (nI nl)])), (a1, .inl (0, 20, .inl (upd ((dlS cn cu ag i).2.1) (dlS cn cu ag i).1 (((dlS cn cu ag i).2.1) i)))), (a2, .inl (0, 20, .inl (upd ((dlS cn cu ag i).2.2.1) (dlS cn cu ag i).1 (((dlS cn cu ag i).2.2.1) i)))), (a3, .inl (0, 20, .inl ((dlS cn cu ag i).2.2.2)))]) rfl ?_
        refine r_aload_n d_CS_dropEmptyLots_45 rfl 2 rfl ?_
        refine r_get fs_CS_16 d_CS_dropEmptyLots_46 (q0 := 0) rfl rfl ?_
        refine r_iload_n d_CS_dropEmptyLots_49 rfl 1 rfl ?_
        refine r_aload_n d_CS_dropEmptyLots_50 rfl 2 rfl ?_
        refine r_get fs_CS_16 d_CS_dropEmptyLots_51 (q0 := 0) rfl rfl ?_
        refine r_iload_n d_CS_dropEmptyLots_54 rfl 0 rfl ?_
        refine r_iald d_CS_dropEmptyLots_55 (q0 := 3) rfl (vp_in_nI (by omega) (by omega)) (v := ((dlS cn cu ag i).2.2.2) i) (by rw [nI_clamp (by omega)]) ?_
        refine r_iast d_CS_dropEmptyLots_56 (q0 := 3) rfl (vp_in_nI (by omega) (by omega)) (f' := upd ((dlS cn cu ag i).2.2.2) (dlS cn cu ag i).1 (((dlS cn cu ag i).2.2.2) i)) (by rw [nI_clamp (by omega)]) (cs' := [(a, .inr (1, [.ref a1, .ref a2, .ref a3, .int (nI nl)])), (a1, .inl (0, 20, .inl (upd ((dlS cn cu ag i).2.1) (dlS cn cu ag i).1 (((dlS cn cu ag i).2.1) i)))), (a2, .inl (0, 20, .inl (upd ((dlS cn cu ag i).2.2.1) (dlS cn cu ag i).1 (((dlS cn cu ag i).2.2.1) i)))), (a3, .inl (0, 20, .inl (upd ((dlS cn cu ag i).2.2.2) (dlS cn cu ag i).1 (((dlS cn cu ag i).2.2.2) i))))]) rfl ?_
        refine r_iinc (lv' := [(1, .int (nI ((dlS cn cu ag i).1 + 1))), (2, .int (nI i)), (0, .ref a)]) (v := nI ((dlS cn cu ag i).1 + 1)) d_CS_dropEmptyLots_57 (j := 1) rfl (nI_add _ _) (by decide) rfl ?_
        refine r_iinc (lv' := [(2, .int (nI (i + 1))), (1, .int (nI ((dlS cn cu ag i).1 + 1))), (0, .ref a)]) (v := nI (i + 1)) d_CS_dropEmptyLots_60 (j := 1) rfl (nI_add _ _) (by decide) rfl ?_
        refine r_goto (tgt := 4) d_CS_dropEmptyLots_63 (by decide) ?_
        refine r_lvE (lv2 := [(2, .int (nI (i + 1))), (1, .int (nI (dlS cn cu ag (i + 1)).1)), (0, .ref a)]) (by first | (rw [dlS_t c_18] <;> rfl) | (rw [dlS_f c_18] <;> rfl)) ?_
        refine r_cs (cs2 := [(a, .inr (1, [.ref a1, .ref a2, .ref a3, .int (nI nl)])), (a1, .inl (0, 20, .inl ((dlS cn cu ag (i + 1)).2.1))), (a2, .inl (0, 20, .inl ((dlS cn cu ag (i + 1)).2.2.1))), (a3, .inl (0, 20, .inl ((dlS cn cu ag (i + 1)).2.2.2)))]) (by first | (rw [dlS_t c_18] <;> rfl) | (rw [dlS_f c_18] <;> rfl)) ?_
        exact ih (i + 1) (by omega) (by omega)
set_option maxHeartbeats 4000000 in
set_option maxRecDepth 100000 in
theorem C_CS_dropEmptyLots (g : zG) (a a1 a2 a3 : Nat) (cn cu ag : Nat → Int32) (nl : Nat) (hnl : nl ≤ 20) : CT g M_CS_dropEmptyLots [.ref a] [(a, .inr (1, [.ref a1, .ref a2, .ref a3, .int (nI nl)])), (a1, .inl (0, 20, .inl cn)), (a2, .inl (0, 20, .inl cu)), (a3, .inl (0, 20, .inl ag))] (fun o cs1 => o = .inl none ∧ cs1 = [(a, .inr (1, [.ref a1, .ref a2, .ref a3, .int (nI (dlS cn cu ag nl).1)])), (a1, .inl (0, 20, .inl ((dlS cn cu ag nl).2.1))), (a2, .inl (0, 20, .inl ((dlS cn cu ag nl).2.2.1))), (a3, .inl (0, 20, .inl ((dlS cn cu ag nl).2.2.2)))]) 0 0 := by
  refine z_of (by decide) rfl (Nat.le_of_ble_eq_true rfl) (fun w0 => ?_)
  refine r_lvE (lv2 := [(0, .ref a)]) rfl ?_
  refine r_iconst d_CS_dropEmptyLots_0 (v := 0) (by decide) ?_
  refine r_istore_n (lv' := [(1, .int 0), (0, .ref a)]) d_CS_dropEmptyLots_1 rfl (by decide) rfl ?_
  refine r_iconst d_CS_dropEmptyLots_2 (v := 0) (by decide) ?_
  refine r_istore_n (lv' := [(2, .int 0), (1, .int 0), (0, .ref a)]) d_CS_dropEmptyLots_3 rfl (by decide) rfl ?_
  refine r_lvE (lv2 := [(2, .int (nI 0)), (1, .int (nI (dlS cn cu ag 0).1)), (0, .ref a)]) (rfl) ?_
  refine r_cs (cs2 := [(a, .inr (1, [.ref a1, .ref a2, .ref a3, .int (nI nl)])), (a1, .inl (0, 20, .inl ((dlS cn cu ag 0).2.1))), (a2, .inl (0, 20, .inl ((dlS cn cu ag 0).2.2.1))), (a3, .inl (0, 20, .inl ((dlS cn cu ag 0).2.2.2)))]) (rfl) ?_
  exact L_CS_dropEmptyLots_4 g a a1 a2 a3 cn cu ag nl hnl w0 _  (nl + 1) 0 (Nat.zero_le _) (by omega)
abbrev M_CS_growOlder : zM := (⟨"Ironpour$CoreStore", "growOlder", "(I)I"⟩, prog_3_method_8_code, 4, (Option.some FieldType.int), 2, 42, [])
theorem d_CS_growOlder_4 : decode prog_3_method_8_code 4 = .ok (.iload_n 3, 1) := zo_29 (zd_b zq_prog_3_method_8_code_0 4 rfl rfl rfl)
theorem d_CS_growOlder_5 : decode prog_3_method_8_code 5 = .ok (.aload_n 0, 1) := zo_42 (zd_b zq_prog_3_method_8_code_0 5 rfl rfl rfl)
theorem d_CS_growOlder_6 : decode prog_3_method_8_code 6 = .ok (.getfield 19, 3) := zo_180 (d := 0) (e := 19) (zd_b zq_prog_3_method_8_code_0 6 rfl rfl rfl) (zd_b zq_prog_3_method_8_code_0 7 rfl rfl rfl) (zd_b zq_prog_3_method_8_code_0 8 rfl rfl rfl)
theorem d_CS_growOlder_9 : decode prog_3_method_8_code 9 = .ok (.if_icmp .ge 53, 3) := zo_162 (d := 0) (e := 53) (zd_b zq_prog_3_method_8_code_0 9 rfl rfl rfl) (zd_b zq_prog_3_method_8_code_0 10 rfl rfl rfl) (zd_b zq_prog_3_method_8_code_0 11 rfl rfl rfl) (by decide +kernel)
theorem d_CS_growOlder_62 : decode prog_3_method_8_code 62 = .ok (.aload_n 0, 1) := zo_42 (zd_b zq_prog_3_method_8_code_1 30 rfl rfl rfl)
theorem d_CS_growOlder_63 : decode prog_3_method_8_code 63 = .ok (.invokevirtual 33, 3) := zo_182 (d := 0) (e := 33) (zd_b zq_prog_3_method_8_code_1 31 rfl rfl rfl) (zd_b zq_prog_3_method_8_code_2 0 rfl rfl rfl) (zd_b zq_prog_3_method_8_code_2 1 rfl rfl rfl)
theorem ok_CS_growOlder_CS_dropEmptyLots : z_ok M_CS_growOlder M_CS_dropEmptyLots 0 := ⟨z_mj5 (i := 13) rfl (by decide +kernel), rfl, ⟨by decide +kernel, by decide +kernel, by decide +kernel⟩, ⟨by decide, by decide⟩, z_mj1 (i := 6) rfl (by decide +kernel), rfl⟩
theorem ln_CS_33 : Cond.methodLink "Ironpour$CoreStore" 33 M_CS_dropEmptyLots.1 ∈ z_gw := z_mj5 (i := 10) rfl (by decide +kernel)
theorem w_im_CS_dropEmptyLots : Cond.instanceMethod M_CS_dropEmptyLots.1 ∈ z_gw := z_mj5 (i := 12) rfl (by decide +kernel)
theorem w_se_CS_dropEmptyLots : Cond.selects M_CS_dropEmptyLots.1.cls M_CS_dropEmptyLots.1 M_CS_dropEmptyLots.1 ∈ z_gw := z_mem (i := 19) (by decide +kernel) (by decide +kernel)
theorem d_CS_growOlder_66 : decode prog_3_method_8_code 66 = .ok (.iload_n 2, 1) := zo_28 (zd_b zq_prog_3_method_8_code_2 2 rfl rfl rfl)
theorem d_CS_growOlder_67 : decode prog_3_method_8_code 67 = .ok (.ireturn, 1) := zo_172 (zd_b zq_prog_3_method_8_code_2 3 rfl rfl rfl)
theorem d_CS_growOlder_12 : decode prog_3_method_8_code 12 = .ok (.aload_n 0, 1) := zo_42 (zd_b zq_prog_3_method_8_code_0 12 rfl rfl rfl)
theorem d_CS_growOlder_13 : decode prog_3_method_8_code 13 = .ok (.getfield 16, 3) := zo_180 (d := 0) (e := 16) (zd_b zq_prog_3_method_8_code_0 13 rfl rfl rfl) (zd_b zq_prog_3_method_8_code_0 14 rfl rfl rfl) (zd_b zq_prog_3_method_8_code_0 15 rfl rfl rfl)
theorem d_CS_growOlder_16 : decode prog_3_method_8_code 16 = .ok (.iload_n 3, 1) := zo_29 (zd_b zq_prog_3_method_8_code_0 16 rfl rfl rfl)
theorem d_CS_growOlder_17 : decode prog_3_method_8_code 17 = .ok (.dup2, 1) := zo_92 (zd_b zq_prog_3_method_8_code_0 17 rfl rfl rfl)
theorem d_CS_growOlder_18 : decode prog_3_method_8_code 18 = .ok (.iaload, 1) := zo_46 (zd_b zq_prog_3_method_8_code_0 18 rfl rfl rfl)
theorem d_CS_growOlder_19 : decode prog_3_method_8_code 19 = .ok (.iload_n 1, 1) := zo_27 (zd_b zq_prog_3_method_8_code_0 19 rfl rfl rfl)
theorem d_CS_growOlder_20 : decode prog_3_method_8_code 20 = .ok (.iadd, 1) := zo_96 (zd_b zq_prog_3_method_8_code_0 20 rfl rfl rfl)
theorem d_CS_growOlder_21 : decode prog_3_method_8_code 21 = .ok (.iastore, 1) := zo_79 (zd_b zq_prog_3_method_8_code_0 21 rfl rfl rfl)
theorem d_CS_growOlder_22 : decode prog_3_method_8_code 22 = .ok (.aload_n 0, 1) := zo_42 (zd_b zq_prog_3_method_8_code_0 22 rfl rfl rfl)
theorem d_CS_growOlder_23 : decode prog_3_method_8_code 23 = .ok (.getfield 16, 3) := zo_180 (d := 0) (e := 16) (zd_b zq_prog_3_method_8_code_0 23 rfl rfl rfl) (zd_b zq_prog_3_method_8_code_0 24 rfl rfl rfl) (zd_b zq_prog_3_method_8_code_0 25 rfl rfl rfl)
theorem d_CS_growOlder_26 : decode prog_3_method_8_code 26 = .ok (.iload_n 3, 1) := zo_29 (zd_b zq_prog_3_method_8_code_0 26 rfl rfl rfl)
theorem d_CS_growOlder_27 : decode prog_3_method_8_code 27 = .ok (.iaload, 1) := zo_46 (zd_b zq_prog_3_method_8_code_0 27 rfl rfl rfl)
theorem d_CS_growOlder_28 : decode prog_3_method_8_code 28 = .ok (.aload_n 0, 1) := zo_42 (zd_b zq_prog_3_method_8_code_0 28 rfl rfl rfl)
theorem d_CS_growOlder_29 : decode prog_3_method_8_code 29 = .ok (.getfield 13, 3) := zo_180 (d := 0) (e := 13) (zd_b zq_prog_3_method_8_code_0 29 rfl rfl rfl) (zd_b zq_prog_3_method_8_code_0 30 rfl rfl rfl) (zd_b zq_prog_3_method_8_code_0 31 rfl rfl rfl)
theorem d_CS_growOlder_32 : decode prog_3_method_8_code 32 = .ok (.iload_n 3, 1) := zo_29 (zd_b zq_prog_3_method_8_code_1 0 rfl rfl rfl)
theorem d_CS_growOlder_33 : decode prog_3_method_8_code 33 = .ok (.iaload, 1) := zo_46 (zd_b zq_prog_3_method_8_code_1 1 rfl rfl rfl)
theorem d_CS_growOlder_34 : decode prog_3_method_8_code 34 = .ok (.bipush 72, 2) := zo_16 (d := 72) (zd_b zq_prog_3_method_8_code_1 2 rfl rfl rfl) (zd_b zq_prog_3_method_8_code_1 3 rfl rfl rfl) (by decide +kernel)
theorem d_CS_growOlder_36 : decode prog_3_method_8_code 36 = .ok (.iadd, 1) := zo_96 (zd_b zq_prog_3_method_8_code_1 4 rfl rfl rfl)
theorem d_CS_growOlder_37 : decode prog_3_method_8_code 37 = .ok (.if_icmp .le 19, 3) := zo_164 (d := 0) (e := 19) (zd_b zq_prog_3_method_8_code_1 5 rfl rfl rfl) (zd_b zq_prog_3_method_8_code_1 6 rfl rfl rfl) (zd_b zq_prog_3_method_8_code_1 7 rfl rfl rfl) (by decide +kernel)
theorem d_CS_growOlder_56 : decode prog_3_method_8_code 56 = .ok (.iinc 3 1, 3) := by decide +kernel
theorem d_CS_growOlder_59 : decode prog_3_method_8_code 59 = .ok (.goto (-55), 3) := zo_167 (d := 255) (e := 201) (zd_b zq_prog_3_method_8_code_1 27 rfl rfl rfl) (zd_b zq_prog_3_method_8_code_1 28 rfl rfl rfl) (zd_b zq_prog_3_method_8_code_1 29 rfl rfl rfl) (by decide +kernel)
theorem d_CS_growOlder_40 : decode prog_3_method_8_code 40 = .ok (.iload_n 2, 1) := zo_28 (zd_b zq_prog_3_method_8_code_1 8 rfl rfl rfl)
theorem d_CS_growOlder_41 : decode prog_3_method_8_code 41 = .ok (.aload_n 0, 1) := zo_42 (zd_b zq_prog_3_method_8_code_1 9 rfl rfl rfl)
theorem d_CS_growOlder_42 : decode prog_3_method_8_code 42 = .ok (.getfield 9, 3) := zo_180 (d := 0) (e := 9) (zd_b zq_prog_3_method_8_code_1 10 rfl rfl rfl) (zd_b zq_prog_3_method_8_code_1 11 rfl rfl rfl) (zd_b zq_prog_3_method_8_code_1 12 rfl rfl rfl)
theorem d_CS_growOlder_45 : decode prog_3_method_8_code 45 = .ok (.iload_n 3, 1) := zo_29 (zd_b zq_prog_3_method_8_code_1 13 rfl rfl rfl)
theorem d_CS_growOlder_46 : decode prog_3_method_8_code 46 = .ok (.iaload, 1) := zo_46 (zd_b zq_prog_3_method_8_code_1 14 rfl rfl rfl)
theorem d_CS_growOlder_47 : decode prog_3_method_8_code 47 = .ok (.iadd, 1) := zo_96 (zd_b zq_prog_3_method_8_code_1 15 rfl rfl rfl)
theorem d_CS_growOlder_48 : decode prog_3_method_8_code 48 = .ok (.istore_n 2, 1) := zo_61 (zd_b zq_prog_3_method_8_code_1 16 rfl rfl rfl)
theorem d_CS_growOlder_49 : decode prog_3_method_8_code 49 = .ok (.aload_n 0, 1) := zo_42 (zd_b zq_prog_3_method_8_code_1 17 rfl rfl rfl)
theorem d_CS_growOlder_50 : decode prog_3_method_8_code 50 = .ok (.getfield 9, 3) := zo_180 (d := 0) (e := 9) (zd_b zq_prog_3_method_8_code_1 18 rfl rfl rfl) (zd_b zq_prog_3_method_8_code_1 19 rfl rfl rfl) (zd_b zq_prog_3_method_8_code_1 20 rfl rfl rfl)
theorem d_CS_growOlder_53 : decode prog_3_method_8_code 53 = .ok (.iload_n 3, 1) := zo_29 (zd_b zq_prog_3_method_8_code_1 21 rfl rfl rfl)
theorem d_CS_growOlder_54 : decode prog_3_method_8_code 54 = .ok (.iconst 0, 1) := zo_3 (zd_b zq_prog_3_method_8_code_1 22 rfl rfl rfl)
theorem d_CS_growOlder_55 : decode prog_3_method_8_code 55 = .ok (.iastore, 1) := zo_79 (zd_b zq_prog_3_method_8_code_1 23 rfl rfl rfl)
theorem d_CS_growOlder_0 : decode prog_3_method_8_code 0 = .ok (.iconst 0, 1) := zo_3 (zd_b zq_prog_3_method_8_code_0 0 rfl rfl rfl)
theorem d_CS_growOlder_1 : decode prog_3_method_8_code 1 = .ok (.istore_n 2, 1) := zo_61 (zd_b zq_prog_3_method_8_code_0 1 rfl rfl rfl)
theorem d_CS_growOlder_2 : decode prog_3_method_8_code 2 = .ok (.iconst 0, 1) := zo_3 (zd_b zq_prog_3_method_8_code_0 2 rfl rfl rfl)
theorem d_CS_growOlder_3 : decode prog_3_method_8_code 3 = .ok (.istore_n 3, 1) := zo_62 (zd_b zq_prog_3_method_8_code_0 3 rfl rfl rfl)
set_option maxHeartbeats 4000000 in
set_option maxRecDepth 100000 in
theorem L_CS_growOlder_4 (g : zG) (a a1 a2 a3 : Nat) (cn cu ag : Nat → Int32) (nl : Nat) (hnl : nl ≤ 20) (h : Int32) (w0 : zW) (n : Nat) : ∀ (d i : Nat), i ≤ nl → nl < i + d → DV g M_CS_growOlder (fun o cs1 => o = .inl (some (.int ((gwS cn cu ag h nl).2.2))) ∧ cs1 = [(a, .inr (1, [.ref a1, .ref a2, .ref a3, .int (nI (dlS (gwS cn cu ag h nl).1 cu (gwS cn cu ag h nl).2.1 nl).1)])), (a1, .inl (0, 20, .inl ((dlS (gwS cn cu ag h nl).1 cu (gwS cn cu ag h nl).2.1 nl).2.1))), (a2, .inl (0, 20, .inl ((dlS (gwS cn cu ag h nl).1 cu (gwS cn cu ag h nl).2.1 nl).2.2.1))), (a3, .inl (0, 20, .inl ((dlS (gwS cn cu ag h nl).1 cu (gwS cn cu ag h nl).2.1 nl).2.2.2)))]) w0 n 4 [(3, .int (nI i)), (2, .int ((gwS cn cu ag h i).2.2)), (0, .ref a), (1, .int h)] [] [(a, .inr (1, [.ref a1, .ref a2, .ref a3, .int (nI nl)])), (a1, .inl (0, 20, .inl ((gwS cn cu ag h i).1))), (a2, .inl (0, 20, .inl cu)), (a3, .inl (0, 20, .inl ((gwS cn cu ag h i).2.1)))] 0 0 := by
  intro d
  induction d with
  | zero => intro i h1 h2 ; exact absurd h2 (by omega)
  | succ d ih =>
    intro i h1 h2 
    refine r_iload_n d_CS_growOlder_4 rfl 0 rfl ?_
    refine r_aload_n d_CS_growOlder_5 rfl 2 rfl ?_
    refine r_get fs_CS_19 d_CS_growOlder_6 (q0 := 0) rfl rfl ?_
    refine r_icmp_ge (tgt := 62) d_CS_growOlder_9 (by decide) (fun c_9 => ?_) (fun c_9 => ?_)
    · have hn := z_le (by omega) (by omega) c_9
      have hv : i = nl := by omega
      subst hv
      refine r_aload_n d_CS_growOlder_62 rfl 2 rfl ?_
      refine r_callV (As := []) (rest := []) (csC := [(a, .inr (1, [.ref a1, .ref a2, .ref a3, .int (nI i)])), (a1, .inl (0, 20, .inl ((gwS cn cu ag h i).1))), (a2, .inl (0, 20, .inl cu)), (a3, .inl (0, 20, .inl ((gwS cn cu ag h i).2.1)))]) (is := [0, 1, 2, 3]) (q0 := 0) rfl rfl ln_CS_33 w_im_CS_dropEmptyLots w_se_CS_dropEmptyLots ok_CS_growOlder_CS_dropEmptyLots d_CS_growOlder_63 (C_CS_dropEmptyLots g a a1 a2 a3 (gwS cn cu ag h i).1 cu (gwS cn cu ag h i).2.1 i (by omega)) rfl rfl (Nat.le_of_ble_eq_true rfl) rfl (by decide) (by omega) (by omega) (fun E cs1 hx => ?_) (fun v cs1 hx => ?_)
      · exact absurd hx.1 (by simp)
      · obtain ⟨e1, rfl⟩ := hx
        cases e1
        refine ⟨rfl, ?_⟩
        refine r_st (st2 := []) rfl ?_
        refine r_cs (cs2 := [(a, .inr (1, [.ref a1, .ref a2, .ref a3, .int (nI (dlS (gwS cn cu ag h i).1 cu (gwS cn cu ag h i).2.1 i).1)])), (a1, .inl (0, 20, .inl ((dlS (gwS cn cu ag h i).1 cu (gwS cn cu ag h i).2.1 i).2.1))), (a2, .inl (0, 20, .inl ((dlS (gwS cn cu ag h i).1 cu (gwS cn cu ag h i).2.1 i).2.2.1))), (a3, .inl (0, 20, .inl ((dlS (gwS cn cu ag h i).1 cu (gwS cn cu ag h i).2.1 i).2.2.2)))]) rfl ?_
        refine r_iload_n d_CS_growOlder_66 rfl 1 rfl ?_
        refine r_iret d_CS_growOlder_67 rfl rfl ?_
        exact ⟨rfl, rfl⟩
    · have hn := z_nle (by omega) (by omega) c_9
      refine r_aload_n d_CS_growOlder_12 rfl 2 rfl ?_
      refine r_get fs_CS_16 d_CS_growOlder_13 (q0 := 0) rfl rfl ?_
      refine r_iload_n d_CS_growOlder_16 rfl 0 rfl ?_
      refine r_dup2_11 d_CS_growOlder_17 rfl rfl ?_
      refine r_iald d_CS_growOlder_18 (q0 := 3) rfl (vp_in_nI (by omega) (by omega)) (v := ((gwS cn cu ag h i).2.1) i) (by rw [nI_clamp (by omega)]) ?_
      refine r_iload_n d_CS_growOlder_19 rfl 3 rfl ?_
      refine r_iadd d_CS_growOlder_20 (v := (((gwS cn cu ag h i).2.1) i) + h) rfl ?_
      refine r_iast d_CS_growOlder_21 (q0 := 3) rfl (vp_in_nI (by omega) (by omega)) (f' := upd ((gwS cn cu ag h i).2.1) i ((((gwS cn cu ag h i).2.1) i) + h)) (by rw [nI_clamp (by omega)]) (cs' := [(a, .inr (1, [.ref a1, .ref a2, .ref a3, .int (nI nl)])), (a1, .inl (0, 20, .inl ((gwS cn cu ag h i).1))), (a2, .inl (0, 20, .inl cu)), (a3, .inl (0, 20, .inl (upd ((gwS cn cu ag h i).2.1) i ((((gwS cn cu ag h i).2.1) i) + h))))]) rfl ?_
      refine r_aload_n d_CS_growOlder_22 rfl 2 rfl ?_
      refine r_get fs_CS_16 d_CS_growOlder_23 (q0 := 0) rfl rfl ?_
      refine r_iload_n d_CS_growOlder_26 rfl 0 rfl ?_
      refine r_iald d_CS_growOlder_27 (q0 := 3) rfl (vp_in_nI (by omega) (by omega)) (v := (gwS cn cu ag h i).2.1 i + h) (by rw [nI_clamp (by omega)]; exact if_pos rfl) ?_
      refine r_aload_n d_CS_growOlder_28 rfl 2 rfl ?_
      refine r_get fs_CS_13 d_CS_growOlder_29 (q0 := 0) rfl rfl ?_
      refine r_iload_n d_CS_growOlder_32 rfl 0 rfl ?_
      refine r_iald d_CS_growOlder_33 (q0 := 2) rfl (vp_in_nI (by omega) (by omega)) (v := cu i) (by rw [nI_clamp (by omega)]) ?_
      refine r_bipush d_CS_growOlder_34 (v := 72) (by decide) ?_
      refine r_iadd d_CS_growOlder_36 (v := (cu i) + 72) rfl ?_
      refine r_icmp_le (tgt := 56) d_CS_growOlder_37 (by decide) (fun c_37 => ?_) (fun c_37 => ?_)
      · refine r_iinc (lv' := [(3, .int (nI (i + 1))), (2, .int ((gwS cn cu ag h i).2.2)), (0, .ref a), (1, .int h)]) (v := nI (i + 1)) d_CS_growOlder_56 (j := 0) rfl (nI_add _ _) (by decide) rfl ?_
        refine r_goto (tgt := 4) d_CS_growOlder_59 (by decide) ?_
        refine r_lvE (lv2 := [(3, .int (nI (i + 1))), (2, .int ((gwS cn cu ag h (i + 1)).2.2)), (0, .ref a), (1, .int h)]) (by first | (rw [gwS_t c_37] <;> rfl) | (rw [gwS_f c_37] <;> rfl)) ?_
        refine r_cs (cs2 := [(a, .inr (1, [.ref a1, .ref a2, .ref a3, .int (nI nl)])), (a1, .inl (0, 20, .inl ((gwS cn cu ag h (i + 1)).1))), (a2, .inl (0, 20, .inl cu)), (a3, .inl (0, 20, .inl ((gwS cn cu ag h (i + 1)).2.1)))]) (by first | (rw [gwS_t c_37] <;> rfl) | (rw [gwS_f c_37] <;> rfl)) ?_
        exact ih (i + 1) (by omega) (by omega)
      · refine r_iload_n d_CS_growOlder_40 rfl 1 rfl ?_
        refine r_aload_n d_CS_growOlder_41 rfl 2 rfl ?_
        refine r_get fs_CS_9 d_CS_growOlder_42 (q0 := 0) rfl rfl ?_
        refine r_iload_n d_CS_growOlder_45 rfl 0 rfl ?_
        refine r_iald d_CS_growOlder_46 (q0 := 1) rfl (vp_in_nI (by omega) (by omega)) (v := ((gwS cn cu ag h i).1) i) (by rw [nI_clamp (by omega)]) ?_
        refine r_iadd d_CS_growOlder_47 (v := ((gwS cn cu ag h i).2.2) + (((gwS cn cu ag h i).1) i)) rfl ?_
        refine r_istore_n (lv' := [(2, .int (((gwS cn cu ag h i).2.2) + (((gwS cn cu ag h i).1) i))), (3, .int (nI i)), (0, .ref a), (1, .int h)]) d_CS_growOlder_48 rfl (by decide) rfl ?_
        refine r_aload_n d_CS_growOlder_49 rfl 2 rfl ?_
        refine r_get fs_CS_9 d_CS_growOlder_50 (q0 := 0) rfl rfl ?_
        refine r_iload_n d_CS_growOlder_53 rfl 1 rfl ?_
        refine r_iconst d_CS_growOlder_54 (v := 0) (by decide) ?_
        refine r_iast d_CS_growOlder_55 (q0 := 1) rfl (vp_in_nI (by omega) (by omega)) (f' := upd ((gwS cn cu ag h i).1) i 0) (by rw [nI_clamp (by omega)]) (cs' := [(a, .inr (1, [.ref a1, .ref a2, .ref a3, .int (nI nl)])), (a1, .inl (0, 20, .inl (upd ((gwS cn cu ag h i).1) i 0))), (a2, .inl (0, 20, .inl cu)), (a3, .inl (0, 20, .inl (upd ((gwS cn cu ag h i).2.1) i ((((gwS cn cu ag h i).2.1) i) + h))))]) rfl ?_
        refine r_iinc (lv' := [(3, .int (nI (i + 1))), (2, .int (((gwS cn cu ag h i).2.2) + (((gwS cn cu ag h i).1) i))), (0, .ref a), (1, .int h)]) (v := nI (i + 1)) d_CS_growOlder_56 (j := 1) rfl (nI_add _ _) (by decide) rfl ?_
        refine r_goto (tgt := 4) d_CS_growOlder_59 (by decide) ?_
        refine r_lvE (lv2 := [(3, .int (nI (i + 1))), (2, .int ((gwS cn cu ag h (i + 1)).2.2)), (0, .ref a), (1, .int h)]) (by first | (rw [gwS_t c_37] <;> rfl) | (rw [gwS_f c_37] <;> rfl)) ?_
        refine r_cs (cs2 := [(a, .inr (1, [.ref a1, .ref a2, .ref a3, .int (nI nl)])), (a1, .inl (0, 20, .inl ((gwS cn cu ag h (i + 1)).1))), (a2, .inl (0, 20, .inl cu)), (a3, .inl (0, 20, .inl ((gwS cn cu ag h (i + 1)).2.1)))]) (by first | (rw [gwS_t c_37] <;> rfl) | (rw [gwS_f c_37] <;> rfl)) ?_
        exact ih (i + 1) (by omega) (by omega)
set_option maxHeartbeats 4000000 in
set_option maxRecDepth 100000 in
theorem C_CS_growOlder (g : zG) (a a1 a2 a3 : Nat) (cn cu ag : Nat → Int32) (nl : Nat) (hnl : nl ≤ 20) (h : Int32) : CT g M_CS_growOlder [.ref a, .int h] [(a, .inr (1, [.ref a1, .ref a2, .ref a3, .int (nI nl)])), (a1, .inl (0, 20, .inl cn)), (a2, .inl (0, 20, .inl cu)), (a3, .inl (0, 20, .inl ag))] (fun o cs1 => o = .inl (some (.int ((gwS cn cu ag h nl).2.2))) ∧ cs1 = [(a, .inr (1, [.ref a1, .ref a2, .ref a3, .int (nI (dlS (gwS cn cu ag h nl).1 cu (gwS cn cu ag h nl).2.1 nl).1)])), (a1, .inl (0, 20, .inl ((dlS (gwS cn cu ag h nl).1 cu (gwS cn cu ag h nl).2.1 nl).2.1))), (a2, .inl (0, 20, .inl ((dlS (gwS cn cu ag h nl).1 cu (gwS cn cu ag h nl).2.1 nl).2.2.1))), (a3, .inl (0, 20, .inl ((dlS (gwS cn cu ag h nl).1 cu (gwS cn cu ag h nl).2.1 nl).2.2.2)))]) 0 0 := by
  refine z_of (by decide) rfl (Nat.le_of_ble_eq_true rfl) (fun w0 => ?_)
  refine r_lvE (lv2 := [(0, .ref a), (1, .int h)]) rfl ?_
  refine r_iconst d_CS_growOlder_0 (v := 0) (by decide) ?_
  refine r_istore_n (lv' := [(2, .int 0), (0, .ref a), (1, .int h)]) d_CS_growOlder_1 rfl (by decide) rfl ?_
  refine r_iconst d_CS_growOlder_2 (v := 0) (by decide) ?_
  refine r_istore_n (lv' := [(3, .int 0), (2, .int 0), (0, .ref a), (1, .int h)]) d_CS_growOlder_3 rfl (by decide) rfl ?_
  refine r_lvE (lv2 := [(3, .int (nI 0)), (2, .int ((gwS cn cu ag h 0).2.2)), (0, .ref a), (1, .int h)]) (rfl) ?_
  refine r_cs (cs2 := [(a, .inr (1, [.ref a1, .ref a2, .ref a3, .int (nI nl)])), (a1, .inl (0, 20, .inl ((gwS cn cu ag h 0).1))), (a2, .inl (0, 20, .inl cu)), (a3, .inl (0, 20, .inl ((gwS cn cu ag h 0).2.1)))]) (rfl) ?_
  exact L_CS_growOlder_4 g a a1 a2 a3 cn cu ag nl hnl h w0 _  (nl + 1) 0 (Nat.zero_le _) (by omega)
abbrev M_Fu_takeFromOutside : zM := (⟨"Ironpour$Furnace", "takeFromOutside", "(II[I)V"⟩, prog_5_method_2_code, 7, (Option.none : Option FieldType), 1, 20, [])
theorem d_Fu_takeFromOutside_3 : decode prog_5_method_2_code 3 = .ok (.iload 4, 2) := zo_21 (d := 4) (zd_b zq_prog_5_method_2_code_0 3 rfl rfl rfl) (zd_b zq_prog_5_method_2_code_0 4 rfl rfl rfl)
theorem d_Fu_takeFromOutside_5 : decode prog_5_method_2_code 5 = .ok (.iconst 4, 1) := zo_7 (zd_b zq_prog_5_method_2_code_0 5 rfl rfl rfl)
theorem d_Fu_takeFromOutside_6 : decode prog_5_method_2_code 6 = .ok (.if_icmp .ge 73, 3) := zo_162 (d := 0) (e := 73) (zd_b zq_prog_5_method_2_code_0 6 rfl rfl rfl) (zd_b zq_prog_5_method_2_code_0 7 rfl rfl rfl) (zd_b zq_prog_5_method_2_code_0 8 rfl rfl rfl) (by decide +kernel)
theorem d_Fu_takeFromOutside_79 : decode prog_5_method_2_code 79 = .ok (.aload_n 0, 1) := zo_42 (zd_b zq_prog_5_method_2_code_2 15 rfl rfl rfl)
theorem d_Fu_takeFromOutside_80 : decode prog_5_method_2_code 80 = .ok (.getfield 12, 3) := zo_180 (d := 0) (e := 12) (zd_b zq_prog_5_method_2_code_2 16 rfl rfl rfl) (zd_b zq_prog_5_method_2_code_2 17 rfl rfl rfl) (zd_b zq_prog_5_method_2_code_2 18 rfl rfl rfl)
theorem fs_Fu_12 : z_fs "Ironpour$Furnace" 12 3 0 := ⟨R_Fu, "Ironpour$Furnace", F_Fu, 5, rfl, u_Fu, by decide, Or.inl ⟨z_mj1 (i := 210) rfl (by decide +kernel), Or.inl rfl⟩⟩
theorem d_Fu_takeFromOutside_83 : decode prog_5_method_2_code 83 = .ok (.dup, 1) := zo_89 (zd_b zq_prog_5_method_2_code_2 19 rfl rfl rfl)
theorem d_Fu_takeFromOutside_84 : decode prog_5_method_2_code 84 = .ok (.getfield 33, 3) := zo_180 (d := 0) (e := 33) (zd_b zq_prog_5_method_2_code_2 20 rfl rfl rfl) (zd_b zq_prog_5_method_2_code_2 21 rfl rfl rfl) (zd_b zq_prog_5_method_2_code_2 22 rfl rfl rfl)
theorem fs_Fu_33 : z_fs "Ironpour$Furnace" 33 6 1 := ⟨R_Me, "Ironpour$Metal", F_Me, 2, rfl, u_Me, by decide, Or.inr ⟨"Ironpour", z_mk1 (i := 202) rfl (by decide +kernel), rfl⟩⟩
theorem d_Fu_takeFromOutside_87 : decode prog_5_method_2_code 87 = .ok (.iload_n 2, 1) := zo_28 (zd_b zq_prog_5_method_2_code_2 23 rfl rfl rfl)
theorem d_Fu_takeFromOutside_88 : decode prog_5_method_2_code 88 = .ok (.iadd, 1) := zo_96 (zd_b zq_prog_5_method_2_code_2 24 rfl rfl rfl)
theorem d_Fu_takeFromOutside_89 : decode prog_5_method_2_code 89 = .ok (.putfield 33, 3) := zo_181 (d := 0) (e := 33) (zd_b zq_prog_5_method_2_code_2 25 rfl rfl rfl) (zd_b zq_prog_5_method_2_code_2 26 rfl rfl rfl) (zd_b zq_prog_5_method_2_code_2 27 rfl rfl rfl)
theorem fp_Fu_33 : z_fp "Ironpour$Furnace" 33 6 1 false .int := ⟨R_Me, "Ironpour$Metal", F_Me, 2, t_Me, rfl, u_Me, by decide, t_Me_ok, n_Me, rfl, rfl, Or.inr ⟨rfl, "Ironpour", z_mk1 (i := 202) rfl (by decide +kernel), rfl⟩⟩
theorem d_Fu_takeFromOutside_92 : decode prog_5_method_2_code 92 = .ok (.aload_n 0, 1) := zo_42 (zd_b zq_prog_5_method_2_code_2 28 rfl rfl rfl)
theorem d_Fu_takeFromOutside_93 : decode prog_5_method_2_code 93 = .ok (.dup, 1) := zo_89 (zd_b zq_prog_5_method_2_code_2 29 rfl rfl rfl)
theorem d_Fu_takeFromOutside_94 : decode prog_5_method_2_code 94 = .ok (.getfield 37, 3) := zo_180 (d := 0) (e := 37) (zd_b zq_prog_5_method_2_code_2 30 rfl rfl rfl) (zd_b zq_prog_5_method_2_code_2 31 rfl rfl rfl) (zd_b zq_prog_5_method_2_code_3 0 rfl rfl rfl)
theorem fs_Fu_37 : z_fs "Ironpour$Furnace" 37 3 4 := ⟨R_Fu, "Ironpour$Furnace", F_Fu, 5, rfl, u_Fu, by decide, Or.inl ⟨z_mj1 (i := 218) rfl (by decide +kernel), Or.inl rfl⟩⟩
theorem d_Fu_takeFromOutside_97 : decode prog_5_method_2_code 97 = .ok (.iload_n 2, 1) := zo_28 (zd_b zq_prog_5_method_2_code_3 1 rfl rfl rfl)
theorem d_Fu_takeFromOutside_98 : decode prog_5_method_2_code 98 = .ok (.i2l, 1) := zo_133 (zd_b zq_prog_5_method_2_code_3 2 rfl rfl rfl)
theorem d_Fu_takeFromOutside_99 : decode prog_5_method_2_code 99 = .ok (.ladd, 1) := zo_97 (zd_b zq_prog_5_method_2_code_3 3 rfl rfl rfl)
theorem d_Fu_takeFromOutside_100 : decode prog_5_method_2_code 100 = .ok (.putfield 37, 3) := zo_181 (d := 0) (e := 37) (zd_b zq_prog_5_method_2_code_3 4 rfl rfl rfl) (zd_b zq_prog_5_method_2_code_3 5 rfl rfl rfl) (zd_b zq_prog_5_method_2_code_3 6 rfl rfl rfl)
theorem fp_Fu_37 : z_fp "Ironpour$Furnace" 37 3 4 false .long := ⟨R_Fu, "Ironpour$Furnace", F_Fu, 5, t_Fu, rfl, u_Fu, by decide, t_Fu_ok, n_Fu, rfl, rfl, Or.inl ⟨z_mj1 (i := 218) rfl (by decide +kernel), Or.inl rfl, fun h => nomatch h⟩⟩
theorem d_Fu_takeFromOutside_103 : decode prog_5_method_2_code 103 = .ok (.return_, 1) := zo_177 (zd_b zq_prog_5_method_2_code_3 7 rfl rfl rfl)
theorem d_Fu_takeFromOutside_9 : decode prog_5_method_2_code 9 = .ok (.iload 4, 2) := zo_21 (d := 4) (zd_b zq_prog_5_method_2_code_0 9 rfl rfl rfl) (zd_b zq_prog_5_method_2_code_0 10 rfl rfl rfl)
theorem d_Fu_takeFromOutside_11 : decode prog_5_method_2_code 11 = .ok (.aload_n 3, 1) := zo_45 (zd_b zq_prog_5_method_2_code_0 11 rfl rfl rfl)
theorem d_Fu_takeFromOutside_12 : decode prog_5_method_2_code 12 = .ok (.arraylength, 1) := zo_190 (zd_b zq_prog_5_method_2_code_0 12 rfl rfl rfl)
theorem d_Fu_takeFromOutside_13 : decode prog_5_method_2_code 13 = .ok (.if_icmp .ge 66, 3) := zo_162 (d := 0) (e := 66) (zd_b zq_prog_5_method_2_code_0 13 rfl rfl rfl) (zd_b zq_prog_5_method_2_code_0 14 rfl rfl rfl) (zd_b zq_prog_5_method_2_code_0 15 rfl rfl rfl) (by decide +kernel)
theorem d_Fu_takeFromOutside_16 : decode prog_5_method_2_code 16 = .ok (.iload_n 1, 1) := zo_27 (zd_b zq_prog_5_method_2_code_0 16 rfl rfl rfl)
theorem d_Fu_takeFromOutside_17 : decode prog_5_method_2_code 17 = .ok (.i2l, 1) := zo_133 (zd_b zq_prog_5_method_2_code_0 17 rfl rfl rfl)
theorem d_Fu_takeFromOutside_18 : decode prog_5_method_2_code 18 = .ok (.aload_n 3, 1) := zo_45 (zd_b zq_prog_5_method_2_code_0 18 rfl rfl rfl)
theorem d_Fu_takeFromOutside_19 : decode prog_5_method_2_code 19 = .ok (.iload 4, 2) := zo_21 (d := 4) (zd_b zq_prog_5_method_2_code_0 19 rfl rfl rfl) (zd_b zq_prog_5_method_2_code_0 20 rfl rfl rfl)
theorem d_Fu_takeFromOutside_21 : decode prog_5_method_2_code 21 = .ok (.iaload, 1) := zo_46 (zd_b zq_prog_5_method_2_code_0 21 rfl rfl rfl)
theorem d_Fu_takeFromOutside_22 : decode prog_5_method_2_code 22 = .ok (.i2l, 1) := zo_133 (zd_b zq_prog_5_method_2_code_0 22 rfl rfl rfl)
theorem d_Fu_takeFromOutside_23 : decode prog_5_method_2_code 23 = .ok (.lmul, 1) := zo_105 (zd_b zq_prog_5_method_2_code_0 23 rfl rfl rfl)
theorem d_Fu_takeFromOutside_24 : decode prog_5_method_2_code 24 = .ok (.lstore 5, 2) := zo_55 (d := 5) (zd_b zq_prog_5_method_2_code_0 24 rfl rfl rfl) (zd_b zq_prog_5_method_2_code_0 25 rfl rfl rfl)
theorem d_Fu_takeFromOutside_26 : decode prog_5_method_2_code 26 = .ok (.aload_n 0, 1) := zo_42 (zd_b zq_prog_5_method_2_code_0 26 rfl rfl rfl)
theorem d_Fu_takeFromOutside_27 : decode prog_5_method_2_code 27 = .ok (.getfield 18, 3) := zo_180 (d := 0) (e := 18) (zd_b zq_prog_5_method_2_code_0 27 rfl rfl rfl) (zd_b zq_prog_5_method_2_code_0 28 rfl rfl rfl) (zd_b zq_prog_5_method_2_code_0 29 rfl rfl rfl)
theorem fs_Fu_18 : z_fs "Ironpour$Furnace" 18 3 1 := ⟨R_Fu, "Ironpour$Furnace", F_Fu, 5, rfl, u_Fu, by decide, Or.inl ⟨z_mj1 (i := 212) rfl (by decide +kernel), Or.inl rfl⟩⟩
theorem d_Fu_takeFromOutside_30 : decode prog_5_method_2_code 30 = .ok (.iload 4, 2) := zo_21 (d := 4) (zd_b zq_prog_5_method_2_code_0 30 rfl rfl rfl) (zd_b zq_prog_5_method_2_code_0 31 rfl rfl rfl)
theorem d_Fu_takeFromOutside_32 : decode prog_5_method_2_code 32 = .ok (.dup2, 1) := zo_92 (zd_b zq_prog_5_method_2_code_1 0 rfl rfl rfl)
theorem d_Fu_takeFromOutside_33 : decode prog_5_method_2_code 33 = .ok (.laload, 1) := zo_47 (zd_b zq_prog_5_method_2_code_1 1 rfl rfl rfl)
theorem d_Fu_takeFromOutside_34 : decode prog_5_method_2_code 34 = .ok (.lload 5, 2) := zo_22 (d := 5) (zd_b zq_prog_5_method_2_code_1 2 rfl rfl rfl) (zd_b zq_prog_5_method_2_code_1 3 rfl rfl rfl)
theorem d_Fu_takeFromOutside_36 : decode prog_5_method_2_code 36 = .ok (.ladd, 1) := zo_97 (zd_b zq_prog_5_method_2_code_1 4 rfl rfl rfl)
theorem d_Fu_takeFromOutside_37 : decode prog_5_method_2_code 37 = .ok (.lastore, 1) := zo_80 (zd_b zq_prog_5_method_2_code_1 5 rfl rfl rfl)
theorem d_Fu_takeFromOutside_38 : decode prog_5_method_2_code 38 = .ok (.aload_n 0, 1) := zo_42 (zd_b zq_prog_5_method_2_code_1 6 rfl rfl rfl)
theorem d_Fu_takeFromOutside_39 : decode prog_5_method_2_code 39 = .ok (.getfield 22, 3) := zo_180 (d := 0) (e := 22) (zd_b zq_prog_5_method_2_code_1 7 rfl rfl rfl) (zd_b zq_prog_5_method_2_code_1 8 rfl rfl rfl) (zd_b zq_prog_5_method_2_code_1 9 rfl rfl rfl)
theorem fs_Fu_22 : z_fs "Ironpour$Furnace" 22 3 2 := ⟨R_Fu, "Ironpour$Furnace", F_Fu, 5, rfl, u_Fu, by decide, Or.inl ⟨z_mj1 (i := 214) rfl (by decide +kernel), Or.inl rfl⟩⟩
theorem d_Fu_takeFromOutside_42 : decode prog_5_method_2_code 42 = .ok (.iload 4, 2) := zo_21 (d := 4) (zd_b zq_prog_5_method_2_code_1 10 rfl rfl rfl) (zd_b zq_prog_5_method_2_code_1 11 rfl rfl rfl)
theorem d_Fu_takeFromOutside_44 : decode prog_5_method_2_code 44 = .ok (.dup2, 1) := zo_92 (zd_b zq_prog_5_method_2_code_1 12 rfl rfl rfl)
theorem d_Fu_takeFromOutside_45 : decode prog_5_method_2_code 45 = .ok (.laload, 1) := zo_47 (zd_b zq_prog_5_method_2_code_1 13 rfl rfl rfl)
theorem d_Fu_takeFromOutside_46 : decode prog_5_method_2_code 46 = .ok (.lload 5, 2) := zo_22 (d := 5) (zd_b zq_prog_5_method_2_code_1 14 rfl rfl rfl) (zd_b zq_prog_5_method_2_code_1 15 rfl rfl rfl)
theorem d_Fu_takeFromOutside_48 : decode prog_5_method_2_code 48 = .ok (.ldc2_w 28, 3) := zo_20 (d := 0) (e := 28) (zd_b zq_prog_5_method_2_code_1 16 rfl rfl rfl) (zd_b zq_prog_5_method_2_code_1 17 rfl rfl rfl) (zd_b zq_prog_5_method_2_code_1 18 rfl rfl rfl)
theorem ct_Fu_28 : Cond.constantLong "Ironpour$Furnace" 28 10 ∈ z_gw := z_mj5 (i := 64) rfl (by decide +kernel)
theorem d_Fu_takeFromOutside_51 : decode prog_5_method_2_code 51 = .ok (.lrem, 1) := zo_113 (zd_b zq_prog_5_method_2_code_1 19 rfl rfl rfl)
theorem d_Fu_takeFromOutside_52 : decode prog_5_method_2_code 52 = .ok (.ladd, 1) := zo_97 (zd_b zq_prog_5_method_2_code_1 20 rfl rfl rfl)
theorem d_Fu_takeFromOutside_53 : decode prog_5_method_2_code 53 = .ok (.lastore, 1) := zo_80 (zd_b zq_prog_5_method_2_code_1 21 rfl rfl rfl)
theorem d_Fu_takeFromOutside_54 : decode prog_5_method_2_code 54 = .ok (.aload_n 0, 1) := zo_42 (zd_b zq_prog_5_method_2_code_1 22 rfl rfl rfl)
theorem d_Fu_takeFromOutside_55 : decode prog_5_method_2_code 55 = .ok (.getfield 12, 3) := zo_180 (d := 0) (e := 12) (zd_b zq_prog_5_method_2_code_1 23 rfl rfl rfl) (zd_b zq_prog_5_method_2_code_1 24 rfl rfl rfl) (zd_b zq_prog_5_method_2_code_1 25 rfl rfl rfl)
theorem d_Fu_takeFromOutside_58 : decode prog_5_method_2_code 58 = .ok (.getfield 30, 3) := zo_180 (d := 0) (e := 30) (zd_b zq_prog_5_method_2_code_1 26 rfl rfl rfl) (zd_b zq_prog_5_method_2_code_1 27 rfl rfl rfl) (zd_b zq_prog_5_method_2_code_1 28 rfl rfl rfl)
theorem fs_Fu_30 : z_fs "Ironpour$Furnace" 30 6 0 := ⟨R_Me, "Ironpour$Metal", F_Me, 2, rfl, u_Me, by decide, Or.inr ⟨"Ironpour", z_mk1 (i := 198) rfl (by decide +kernel), rfl⟩⟩
theorem d_Fu_takeFromOutside_61 : decode prog_5_method_2_code 61 = .ok (.iload 4, 2) := zo_21 (d := 4) (zd_b zq_prog_5_method_2_code_1 29 rfl rfl rfl) (zd_b zq_prog_5_method_2_code_1 30 rfl rfl rfl)
theorem d_Fu_takeFromOutside_63 : decode prog_5_method_2_code 63 = .ok (.dup2, 1) := zo_92 (zd_b zq_prog_5_method_2_code_1 31 rfl rfl rfl)
theorem d_Fu_takeFromOutside_64 : decode prog_5_method_2_code 64 = .ok (.laload, 1) := zo_47 (zd_b zq_prog_5_method_2_code_2 0 rfl rfl rfl)
theorem d_Fu_takeFromOutside_65 : decode prog_5_method_2_code 65 = .ok (.lload 5, 2) := zo_22 (d := 5) (zd_b zq_prog_5_method_2_code_2 1 rfl rfl rfl) (zd_b zq_prog_5_method_2_code_2 2 rfl rfl rfl)
theorem d_Fu_takeFromOutside_67 : decode prog_5_method_2_code 67 = .ok (.ldc2_w 28, 3) := zo_20 (d := 0) (e := 28) (zd_b zq_prog_5_method_2_code_2 3 rfl rfl rfl) (zd_b zq_prog_5_method_2_code_2 4 rfl rfl rfl) (zd_b zq_prog_5_method_2_code_2 5 rfl rfl rfl)
theorem d_Fu_takeFromOutside_70 : decode prog_5_method_2_code 70 = .ok (.ldiv, 1) := zo_109 (zd_b zq_prog_5_method_2_code_2 6 rfl rfl rfl)
theorem d_Fu_takeFromOutside_71 : decode prog_5_method_2_code 71 = .ok (.ladd, 1) := zo_97 (zd_b zq_prog_5_method_2_code_2 7 rfl rfl rfl)
theorem d_Fu_takeFromOutside_72 : decode prog_5_method_2_code 72 = .ok (.lastore, 1) := zo_80 (zd_b zq_prog_5_method_2_code_2 8 rfl rfl rfl)
theorem d_Fu_takeFromOutside_73 : decode prog_5_method_2_code 73 = .ok (.iinc 4 1, 3) := by decide +kernel
theorem d_Fu_takeFromOutside_76 : decode prog_5_method_2_code 76 = .ok (.goto (-73), 3) := zo_167 (d := 255) (e := 183) (zd_b zq_prog_5_method_2_code_2 12 rfl rfl rfl) (zd_b zq_prog_5_method_2_code_2 13 rfl rfl rfl) (zd_b zq_prog_5_method_2_code_2 14 rfl rfl rfl) (by decide +kernel)
theorem d_Fu_takeFromOutside_0 : decode prog_5_method_2_code 0 = .ok (.iconst 0, 1) := zo_3 (zd_b zq_prog_5_method_2_code_0 0 rfl rfl rfl)
theorem d_Fu_takeFromOutside_1 : decode prog_5_method_2_code 1 = .ok (.istore 4, 2) := zo_54 (d := 4) (zd_b zq_prog_5_method_2_code_0 1 rfl rfl rfl) (zd_b zq_prog_5_method_2_code_0 2 rfl rfl rfl)
set_option maxHeartbeats 4000000 in
set_option maxRecDepth 100000 in
theorem L_Fu_takeFromOutside_3 (g : zG) (a ab abg at1 at2 at3 : Nat) (gr T1 T2 T3 : Nat → Int64) (ir : Int32) (io : Int64) (am iz : Int32) (t : Nat) (ht : t < 4) (w0 : zW) (n : Nat) : ∀ (d i : Nat), i ≤ 4 → 4 < i + d → DV g M_Fu_takeFromOutside (fun o cs1 => o = .inl none ∧ cs1 = [(a, .inr (3, [.ref ab, .ref at1, .ref at2, .ref at3, .long (io + iz.toInt64)])), (ab, .inr (6, [.ref abg, .int (ir + iz)])), (abg, .inl (3, 4, .inr (.inl (lfd gr (fun e => chS am t e / 10) 4)))), (at1, .inl (3, 4, .inr (.inl (lfd T1 (fun e => chS am t e) 4)))), (at2, .inl (3, 4, .inr (.inl (lfd T2 (fun e => chS am t e - chS am t e / 10 * 10) 4)))), (at3, .inl (3, 4, .inr (.inl T3)))]) w0 n 3 [(4, .int (nI i)), (0, .ref a), (1, .int am), (2, .int iz), (3, .ref (g.2.2 t))] [] [(a, .inr (3, [.ref ab, .ref at1, .ref at2, .ref at3, .long io])), (ab, .inr (6, [.ref abg, .int ir])), (abg, .inl (3, 4, .inr (.inl (lfd gr (fun e => chS am t e / 10) i)))), (at1, .inl (3, 4, .inr (.inl (lfd T1 (fun e => chS am t e) i)))), (at2, .inl (3, 4, .inr (.inl (lfd T2 (fun e => chS am t e - chS am t e / 10 * 10) i)))), (at3, .inl (3, 4, .inr (.inl T3)))] 0 0 := by
  intro d
  induction d with
  | zero => intro i h1 h2 ; exact absurd h2 (by omega)
  | succ d ih =>
    intro i h1 h2 
    refine r_iload d_Fu_takeFromOutside_3 0 rfl ?_
    refine r_iconst d_Fu_takeFromOutside_5 (v := 4) (by decide) ?_
    refine r_icmp_ge (tgt := 79) d_Fu_takeFromOutside_6 (by decide) (fun c_6 => ?_) (fun c_6 => ?_)
    · have hn := z_le (a := 4) (by omega) (by decide) c_6
      obtain rfl : i = 4 := by omega
      refine r_aload_n d_Fu_takeFromOutside_79 rfl 1 rfl ?_
      refine r_get fs_Fu_12 d_Fu_takeFromOutside_80 (q0 := 0) rfl rfl ?_
      refine r_dup d_Fu_takeFromOutside_83 rfl ?_
      refine r_get fs_Fu_33 d_Fu_takeFromOutside_84 (q0 := 1) rfl rfl ?_
      refine r_iload_n d_Fu_takeFromOutside_87 rfl 3 rfl ?_
      refine r_iadd d_Fu_takeFromOutside_88 (v := ir + iz) rfl ?_
      refine r_put fp_Fu_33 d_Fu_takeFromOutside_89 (fun h => nomatch h) rfl rfl (q0 := 1) rfl (Nat.le_of_ble_eq_true rfl) (cs' := [(a, .inr (3, [.ref ab, .ref at1, .ref at2, .ref at3, .long io])), (ab, .inr (6, [.ref abg, .int (ir + iz)])), (abg, .inl (3, 4, .inr (.inl (lfd gr (fun e => chS am t e / 10) 4)))), (at1, .inl (3, 4, .inr (.inl (lfd T1 (fun e => chS am t e) 4)))), (at2, .inl (3, 4, .inr (.inl (lfd T2 (fun e => chS am t e - chS am t e / 10 * 10) 4)))), (at3, .inl (3, 4, .inr (.inl T3)))]) rfl ?_
      refine r_aload_n d_Fu_takeFromOutside_92 rfl 1 rfl ?_
      refine r_dup d_Fu_takeFromOutside_93 rfl ?_
      refine r_get fs_Fu_37 d_Fu_takeFromOutside_94 (q0 := 0) rfl rfl ?_
      refine r_iload_n d_Fu_takeFromOutside_97 rfl 3 rfl ?_
      refine r_i2l d_Fu_takeFromOutside_98 (v := iz.toInt64) rfl ?_
      refine r_ladd d_Fu_takeFromOutside_99 (v := io + iz.toInt64) rfl ?_
      refine r_put fp_Fu_37 d_Fu_takeFromOutside_100 (fun h => nomatch h) rfl rfl (q0 := 0) rfl (Nat.le_of_ble_eq_true rfl) (cs' := [(a, .inr (3, [.ref ab, .ref at1, .ref at2, .ref at3, .long (io + iz.toInt64)])), (ab, .inr (6, [.ref abg, .int (ir + iz)])), (abg, .inl (3, 4, .inr (.inl (lfd gr (fun e => chS am t e / 10) 4)))), (at1, .inl (3, 4, .inr (.inl (lfd T1 (fun e => chS am t e) 4)))), (at2, .inl (3, 4, .inr (.inl (lfd T2 (fun e => chS am t e - chS am t e / 10 * 10) 4)))), (at3, .inl (3, 4, .inr (.inl T3)))]) rfl ?_
      refine r_vret d_Fu_takeFromOutside_103 rfl ?_
      exact ⟨rfl, rfl⟩
    · have hn := z_nle (a := 4) (by omega) (by decide) c_6
      refine r_iload d_Fu_takeFromOutside_9 0 rfl ?_
      refine r_aload_n d_Fu_takeFromOutside_11 rfl 4 rfl ?_
      refine r_tlenA (by omega) d_Fu_takeFromOutside_12 ?_
      refine r_icmp_ge (tgt := 79) d_Fu_takeFromOutside_13 (by decide) (fun c_13 => ?_) (fun c_13 => ?_)
      · exact absurd (z_le (a := 4) (by omega) (by decide) c_13) (by omega)
      · refine r_iload_n d_Fu_takeFromOutside_16 rfl 2 rfl ?_
        refine r_i2l d_Fu_takeFromOutside_17 (v := am.toInt64) rfl ?_
        refine r_aload_n d_Fu_takeFromOutside_18 rfl 4 rfl ?_
        refine r_iload d_Fu_takeFromOutside_19 0 rfl ?_
        refine r_taldA (v := (z_sv t).getD i 0) (by omega) (vp_in_nI (by omega) (by omega)) (by rw [nI_clamp (by omega)]) d_Fu_takeFromOutside_21 ?_
        refine r_i2l d_Fu_takeFromOutside_22 (v := ((z_sv t).getD i 0).toInt64) rfl ?_
        refine r_lmul d_Fu_takeFromOutside_23 (v := chS am t i) rfl ?_
        refine r_lstore (lv' := [(5, .long (chS am t i)), (4, .int (nI i)), (0, .ref a), (1, .int am), (2, .int iz), (3, .ref (g.2.2 t))]) d_Fu_takeFromOutside_24 (by decide) rfl ?_
        refine r_aload_n d_Fu_takeFromOutside_26 rfl 2 rfl ?_
        refine r_get fs_Fu_18 d_Fu_takeFromOutside_27 (q0 := 0) rfl rfl ?_
        refine r_iload d_Fu_takeFromOutside_30 1 rfl ?_
        refine r_dup2_11 d_Fu_takeFromOutside_32 rfl rfl ?_
        refine r_lald d_Fu_takeFromOutside_33 (q0 := 3) rfl (vp_in_nI (by omega) (by omega)) (v := (lfd T1 (fun e => chS am t e) i) i) (by rw [nI_clamp (by omega)]) ?_
        refine r_lload d_Fu_takeFromOutside_34 0 rfl ?_
        refine r_ladd d_Fu_takeFromOutside_36 (v := ((lfd T1 (fun e => chS am t e) i) i) + (chS am t i)) rfl ?_
        refine r_last d_Fu_takeFromOutside_37 (q0 := 3) rfl (vp_in_nI (by omega) (by omega)) (f' := vp_updL (lfd T1 (fun e => chS am t e) i) i (((lfd T1 (fun e => chS am t e) i) i) + (chS am t i))) (by rw [nI_clamp (by omega)]) (cs' := [(a, .inr (3, [.ref ab, .ref at1, .ref at2, .ref at3, .long io])), (ab, .inr (6, [.ref abg, .int ir])), (abg, .inl (3, 4, .inr (.inl (lfd gr (fun e => chS am t e / 10) i)))), (at1, .inl (3, 4, .inr (.inl (vp_updL (lfd T1 (fun e => chS am t e) i) i (((lfd T1 (fun e => chS am t e) i) i) + (chS am t i)))))), (at2, .inl (3, 4, .inr (.inl (lfd T2 (fun e => chS am t e - chS am t e / 10 * 10) i)))), (at3, .inl (3, 4, .inr (.inl T3)))]) rfl ?_
        refine r_aload_n d_Fu_takeFromOutside_38 rfl 2 rfl ?_
        refine r_get fs_Fu_22 d_Fu_takeFromOutside_39 (q0 := 0) rfl rfl ?_
        refine r_iload d_Fu_takeFromOutside_42 1 rfl ?_
        refine r_dup2_11 d_Fu_takeFromOutside_44 rfl rfl ?_
        refine r_lald d_Fu_takeFromOutside_45 (q0 := 4) rfl (vp_in_nI (by omega) (by omega)) (v := (lfd T2 (fun e => chS am t e - chS am t e / 10 * 10) i) i) (by rw [nI_clamp (by omega)]) ?_
        refine r_lload d_Fu_takeFromOutside_46 0 rfl ?_
        refine r_ldc2 ct_Fu_28 d_Fu_takeFromOutside_48 ?_
        refine r_lrem d_Fu_takeFromOutside_51 (v := (chS am t i) - (chS am t i) / 10 * 10) (by decide) rfl ?_
        refine r_ladd d_Fu_takeFromOutside_52 (v := ((lfd T2 (fun e => chS am t e - chS am t e / 10 * 10) i) i) + ((chS am t i) - (chS am t i) / 10 * 10)) rfl ?_
        refine r_last d_Fu_takeFromOutside_53 (q0 := 4) rfl (vp_in_nI (by omega) (by omega)) (f' := vp_updL (lfd T2 (fun e => chS am t e - chS am t e / 10 * 10) i) i (((lfd T2 (fun e => chS am t e - chS am t e / 10 * 10) i) i) + ((chS am t i) - (chS am t i) / 10 * 10))) (by rw [nI_clamp (by omega)]) (cs' := [(a, .inr (3, [.ref ab, .ref at1, .ref at2, .ref at3, .long io])), (ab, .inr (6, [.ref abg, .int ir])), (abg, .inl (3, 4, .inr (.inl (lfd gr (fun e => chS am t e / 10) i)))), (at1, .inl (3, 4, .inr (.inl (vp_updL (lfd T1 (fun e => chS am t e) i) i (((lfd T1 (fun e => chS am t e) i) i) + (chS am t i)))))), (at2, .inl (3, 4, .inr (.inl (vp_updL (lfd T2 (fun e => chS am t e - chS am t e / 10 * 10) i) i (((lfd T2 (fun e => chS am t e - chS am t e / 10 * 10) i) i) + ((chS am t i) - (chS am t i) / 10 * 10)))))), (at3, .inl (3, 4, .inr (.inl T3)))]) rfl ?_
        refine r_aload_n d_Fu_takeFromOutside_54 rfl 2 rfl ?_
        refine r_get fs_Fu_12 d_Fu_takeFromOutside_55 (q0 := 0) rfl rfl ?_
        refine r_get fs_Fu_30 d_Fu_takeFromOutside_58 (q0 := 1) rfl rfl ?_
        refine r_iload d_Fu_takeFromOutside_61 1 rfl ?_
        refine r_dup2_11 d_Fu_takeFromOutside_63 rfl rfl ?_
        refine r_lald d_Fu_takeFromOutside_64 (q0 := 2) rfl (vp_in_nI (by omega) (by omega)) (v := (lfd gr (fun e => chS am t e / 10) i) i) (by rw [nI_clamp (by omega)]) ?_
        refine r_lload d_Fu_takeFromOutside_65 0 rfl ?_
        refine r_ldc2 ct_Fu_28 d_Fu_takeFromOutside_67 ?_
        refine r_ldiv d_Fu_takeFromOutside_70 (v := (chS am t i) / 10) (by decide) rfl ?_
        refine r_ladd d_Fu_takeFromOutside_71 (v := ((lfd gr (fun e => chS am t e / 10) i) i) + ((chS am t i) / 10)) rfl ?_
        refine r_last d_Fu_takeFromOutside_72 (q0 := 2) rfl (vp_in_nI (by omega) (by omega)) (f' := vp_updL (lfd gr (fun e => chS am t e / 10) i) i (((lfd gr (fun e => chS am t e / 10) i) i) + ((chS am t i) / 10))) (by rw [nI_clamp (by omega)]) (cs' := [(a, .inr (3, [.ref ab, .ref at1, .ref at2, .ref at3, .long io])), (ab, .inr (6, [.ref abg, .int ir])), (abg, .inl (3, 4, .inr (.inl (vp_updL (lfd gr (fun e => chS am t e / 10) i) i (((lfd gr (fun e => chS am t e / 10) i) i) + ((chS am t i) / 10)))))), (at1, .inl (3, 4, .inr (.inl (vp_updL (lfd T1 (fun e => chS am t e) i) i (((lfd T1 (fun e => chS am t e) i) i) + (chS am t i)))))), (at2, .inl (3, 4, .inr (.inl (vp_updL (lfd T2 (fun e => chS am t e - chS am t e / 10 * 10) i) i (((lfd T2 (fun e => chS am t e - chS am t e / 10 * 10) i) i) + ((chS am t i) - (chS am t i) / 10 * 10)))))), (at3, .inl (3, 4, .inr (.inl T3)))]) rfl ?_
        refine r_iinc (lv' := [(4, .int (nI (i + 1))), (5, .long (chS am t i)), (0, .ref a), (1, .int am), (2, .int iz), (3, .ref (g.2.2 t))]) (v := nI (i + 1)) d_Fu_takeFromOutside_73 (j := 1) rfl (nI_add _ _) (by decide) rfl ?_
        refine r_goto (tgt := 3) d_Fu_takeFromOutside_76 (by decide) ?_
        refine r_lv (lv' := [(4, .int (nI (i + 1))), (0, .ref a), (1, .int am), (2, .int iz), (3, .ref (g.2.2 t))]) [0, 2, 3, 4, 5] rfl ?_
        refine r_lvE (lv2 := [(4, .int (nI (i + 1))), (0, .ref a), (1, .int am), (2, .int iz), (3, .ref (g.2.2 t))]) (rfl) ?_
        refine r_cs (cs2 := [(a, .inr (3, [.ref ab, .ref at1, .ref at2, .ref at3, .long io])), (ab, .inr (6, [.ref abg, .int ir])), (abg, .inl (3, 4, .inr (.inl (lfd gr (fun e => chS am t e / 10) (i + 1))))), (at1, .inl (3, 4, .inr (.inl (lfd T1 (fun e => chS am t e) (i + 1))))), (at2, .inl (3, 4, .inr (.inl (lfd T2 (fun e => chS am t e - chS am t e / 10 * 10) (i + 1))))), (at3, .inl (3, 4, .inr (.inl T3)))]) (rfl) ?_
        exact ih (i + 1) (by omega) (by omega)
set_option maxHeartbeats 4000000 in
set_option maxRecDepth 100000 in
theorem C_Fu_takeFromOutside (g : zG) (a ab abg at1 at2 at3 : Nat) (gr T1 T2 T3 : Nat → Int64) (ir : Int32) (io : Int64) (am iz : Int32) (t : Nat) (ht : t < 4) : CT g M_Fu_takeFromOutside [.ref a, .int am, .int iz, .ref (g.2.2 t)] [(a, .inr (3, [.ref ab, .ref at1, .ref at2, .ref at3, .long io])), (ab, .inr (6, [.ref abg, .int ir])), (abg, .inl (3, 4, .inr (.inl gr))), (at1, .inl (3, 4, .inr (.inl T1))), (at2, .inl (3, 4, .inr (.inl T2))), (at3, .inl (3, 4, .inr (.inl T3)))] (fun o cs1 => o = .inl none ∧ cs1 = [(a, .inr (3, [.ref ab, .ref at1, .ref at2, .ref at3, .long (io + iz.toInt64)])), (ab, .inr (6, [.ref abg, .int (ir + iz)])), (abg, .inl (3, 4, .inr (.inl (lfd gr (fun e => chS am t e / 10) 4)))), (at1, .inl (3, 4, .inr (.inl (lfd T1 (fun e => chS am t e) 4)))), (at2, .inl (3, 4, .inr (.inl (lfd T2 (fun e => chS am t e - chS am t e / 10 * 10) 4)))), (at3, .inl (3, 4, .inr (.inl T3)))]) 0 0 := by
  refine z_of (by decide) rfl (Nat.le_of_ble_eq_true rfl) (fun w0 => ?_)
  refine r_lvE (lv2 := [(0, .ref a), (1, .int am), (2, .int iz), (3, .ref (g.2.2 t))]) rfl ?_
  refine r_iconst d_Fu_takeFromOutside_0 (v := 0) (by decide) ?_
  refine r_istore (lv' := [(4, .int 0), (0, .ref a), (1, .int am), (2, .int iz), (3, .ref (g.2.2 t))]) d_Fu_takeFromOutside_1 (by decide) rfl ?_
  refine r_lvE (lv2 := [(4, .int (nI 0)), (0, .ref a), (1, .int am), (2, .int iz), (3, .ref (g.2.2 t))]) (rfl) ?_
  refine r_cs (cs2 := [(a, .inr (3, [.ref ab, .ref at1, .ref at2, .ref at3, .long io])), (ab, .inr (6, [.ref abg, .int ir])), (abg, .inl (3, 4, .inr (.inl (lfd gr (fun e => chS am t e / 10) 0)))), (at1, .inl (3, 4, .inr (.inl (lfd T1 (fun e => chS am t e) 0)))), (at2, .inl (3, 4, .inr (.inl (lfd T2 (fun e => chS am t e - chS am t e / 10 * 10) 0)))), (at3, .inl (3, 4, .inr (.inl T3)))]) (rfl) ?_
  exact L_Fu_takeFromOutside_3 g a ab abg at1 at2 at3 gr T1 T2 T3 ir io am iz t ht w0 _  (4 + 1) 0 (Nat.zero_le _) (by omega)
abbrev M_Fu_lose : zM := (⟨"Ironpour$Furnace", "lose", "(II)V"⟩, prog_5_method_4_code, 5, (Option.none : Option FieldType), 1, 20, [])
theorem d_Fu_lose_0 : decode prog_5_method_4_code 0 = .ok (.iload_n 2, 1) := zo_28 (zd_b zq_prog_5_method_4_code_0 0 rfl rfl rfl)
theorem d_Fu_lose_1 : decode prog_5_method_4_code 1 = .ok (.ifCond .le 39, 3) := zo_158 (d := 0) (e := 39) (zd_b zq_prog_5_method_4_code_0 1 rfl rfl rfl) (zd_b zq_prog_5_method_4_code_0 2 rfl rfl rfl) (zd_b zq_prog_5_method_4_code_0 3 rfl rfl rfl) (by decide +kernel)
theorem d_Fu_lose_4 : decode prog_5_method_4_code 4 = .ok (.aload_n 0, 1) := zo_42 (zd_b zq_prog_5_method_4_code_0 4 rfl rfl rfl)
theorem d_Fu_lose_5 : decode prog_5_method_4_code 5 = .ok (.getfield 12, 3) := zo_180 (d := 0) (e := 12) (zd_b zq_prog_5_method_4_code_0 5 rfl rfl rfl) (zd_b zq_prog_5_method_4_code_0 6 rfl rfl rfl) (zd_b zq_prog_5_method_4_code_0 7 rfl rfl rfl)
theorem d_Fu_lose_8 : decode prog_5_method_4_code 8 = .ok (.getfield 30, 3) := zo_180 (d := 0) (e := 30) (zd_b zq_prog_5_method_4_code_0 8 rfl rfl rfl) (zd_b zq_prog_5_method_4_code_0 9 rfl rfl rfl) (zd_b zq_prog_5_method_4_code_0 10 rfl rfl rfl)
theorem d_Fu_lose_11 : decode prog_5_method_4_code 11 = .ok (.iload_n 1, 1) := zo_27 (zd_b zq_prog_5_method_4_code_0 11 rfl rfl rfl)
theorem d_Fu_lose_12 : decode prog_5_method_4_code 12 = .ok (.laload, 1) := zo_47 (zd_b zq_prog_5_method_4_code_0 12 rfl rfl rfl)
theorem d_Fu_lose_13 : decode prog_5_method_4_code 13 = .ok (.iload_n 2, 1) := zo_28 (zd_b zq_prog_5_method_4_code_0 13 rfl rfl rfl)
theorem d_Fu_lose_14 : decode prog_5_method_4_code 14 = .ok (.i2l, 1) := zo_133 (zd_b zq_prog_5_method_4_code_0 14 rfl rfl rfl)
theorem d_Fu_lose_15 : decode prog_5_method_4_code 15 = .ok (.ldiv, 1) := zo_109 (zd_b zq_prog_5_method_4_code_0 15 rfl rfl rfl)
theorem d_Fu_lose_16 : decode prog_5_method_4_code 16 = .ok (.lstore_n 3, 1) := zo_66 (zd_b zq_prog_5_method_4_code_0 16 rfl rfl rfl)
theorem d_Fu_lose_17 : decode prog_5_method_4_code 17 = .ok (.aload_n 0, 1) := zo_42 (zd_b zq_prog_5_method_4_code_0 17 rfl rfl rfl)
theorem d_Fu_lose_18 : decode prog_5_method_4_code 18 = .ok (.getfield 12, 3) := zo_180 (d := 0) (e := 12) (zd_b zq_prog_5_method_4_code_0 18 rfl rfl rfl) (zd_b zq_prog_5_method_4_code_0 19 rfl rfl rfl) (zd_b zq_prog_5_method_4_code_0 20 rfl rfl rfl)
theorem d_Fu_lose_21 : decode prog_5_method_4_code 21 = .ok (.getfield 30, 3) := zo_180 (d := 0) (e := 30) (zd_b zq_prog_5_method_4_code_0 21 rfl rfl rfl) (zd_b zq_prog_5_method_4_code_0 22 rfl rfl rfl) (zd_b zq_prog_5_method_4_code_0 23 rfl rfl rfl)
theorem d_Fu_lose_24 : decode prog_5_method_4_code 24 = .ok (.iload_n 1, 1) := zo_27 (zd_b zq_prog_5_method_4_code_0 24 rfl rfl rfl)
theorem d_Fu_lose_25 : decode prog_5_method_4_code 25 = .ok (.dup2, 1) := zo_92 (zd_b zq_prog_5_method_4_code_0 25 rfl rfl rfl)
theorem d_Fu_lose_26 : decode prog_5_method_4_code 26 = .ok (.laload, 1) := zo_47 (zd_b zq_prog_5_method_4_code_0 26 rfl rfl rfl)
theorem d_Fu_lose_27 : decode prog_5_method_4_code 27 = .ok (.lload_n 3, 1) := zo_33 (zd_b zq_prog_5_method_4_code_0 27 rfl rfl rfl)
theorem d_Fu_lose_28 : decode prog_5_method_4_code 28 = .ok (.lsub, 1) := zo_101 (zd_b zq_prog_5_method_4_code_0 28 rfl rfl rfl)
theorem d_Fu_lose_29 : decode prog_5_method_4_code 29 = .ok (.lastore, 1) := zo_80 (zd_b zq_prog_5_method_4_code_0 29 rfl rfl rfl)
theorem d_Fu_lose_30 : decode prog_5_method_4_code 30 = .ok (.aload_n 0, 1) := zo_42 (zd_b zq_prog_5_method_4_code_0 30 rfl rfl rfl)
theorem d_Fu_lose_31 : decode prog_5_method_4_code 31 = .ok (.getfield 25, 3) := zo_180 (d := 0) (e := 25) (zd_b zq_prog_5_method_4_code_0 31 rfl rfl rfl) (zd_b zq_prog_5_method_4_code_1 0 rfl rfl rfl) (zd_b zq_prog_5_method_4_code_1 1 rfl rfl rfl)
theorem fs_Fu_25 : z_fs "Ironpour$Furnace" 25 3 3 := ⟨R_Fu, "Ironpour$Furnace", F_Fu, 5, rfl, u_Fu, by decide, Or.inl ⟨z_mj1 (i := 216) rfl (by decide +kernel), Or.inl rfl⟩⟩
theorem d_Fu_lose_34 : decode prog_5_method_4_code 34 = .ok (.iload_n 1, 1) := zo_27 (zd_b zq_prog_5_method_4_code_1 2 rfl rfl rfl)
theorem d_Fu_lose_35 : decode prog_5_method_4_code 35 = .ok (.dup2, 1) := zo_92 (zd_b zq_prog_5_method_4_code_1 3 rfl rfl rfl)
theorem d_Fu_lose_36 : decode prog_5_method_4_code 36 = .ok (.laload, 1) := zo_47 (zd_b zq_prog_5_method_4_code_1 4 rfl rfl rfl)
theorem d_Fu_lose_37 : decode prog_5_method_4_code 37 = .ok (.lload_n 3, 1) := zo_33 (zd_b zq_prog_5_method_4_code_1 5 rfl rfl rfl)
theorem d_Fu_lose_38 : decode prog_5_method_4_code 38 = .ok (.ladd, 1) := zo_97 (zd_b zq_prog_5_method_4_code_1 6 rfl rfl rfl)
theorem d_Fu_lose_39 : decode prog_5_method_4_code 39 = .ok (.lastore, 1) := zo_80 (zd_b zq_prog_5_method_4_code_1 7 rfl rfl rfl)
theorem d_Fu_lose_40 : decode prog_5_method_4_code 40 = .ok (.return_, 1) := zo_177 (zd_b zq_prog_5_method_4_code_1 8 rfl rfl rfl)
set_option maxHeartbeats 4000000 in
set_option maxRecDepth 100000 in
theorem C_Fu_lose (g : zG) (a ab abg at1 at2 at3 : Nat) (gr T1 T2 T3 : Nat → Int64) (ir : Int32) (io : Int64) (e : Nat) (he : e < 4) (d : Int32) (hd : d = 2000 ∨ d = 4000) : CT g M_Fu_lose [.ref a, .int (nI e), .int d] [(a, .inr (3, [.ref ab, .ref at1, .ref at2, .ref at3, .long io])), (ab, .inr (6, [.ref abg, .int ir])), (abg, .inl (3, 4, .inr (.inl gr))), (at1, .inl (3, 4, .inr (.inl T1))), (at2, .inl (3, 4, .inr (.inl T2))), (at3, .inl (3, 4, .inr (.inl T3)))] (fun o cs1 => o = .inl none ∧ cs1 = [(a, .inr (3, [.ref ab, .ref at1, .ref at2, .ref at3, .long io])), (ab, .inr (6, [.ref abg, .int ir])), (abg, .inl (3, 4, .inr (.inl ((loS e d.toInt64 (gr, T3)).1)))), (at1, .inl (3, 4, .inr (.inl T1))), (at2, .inl (3, 4, .inr (.inl T2))), (at3, .inl (3, 4, .inr (.inl ((loS e d.toInt64 (gr, T3)).2))))]) 0 0 := by
  refine z_of (by decide) rfl (Nat.le_of_ble_eq_true rfl) (fun w0 => ?_)
  refine r_lvE (lv2 := [(0, .ref a), (1, .int (nI e)), (2, .int d)]) rfl ?_
  refine r_iload_n d_Fu_lose_0 rfl 2 rfl ?_
  refine r_if_le (tgt := 40) d_Fu_lose_1 (by decide) (fun c_1 => ?_) (fun c_1 => ?_)
  · exact absurd c_1 (by rcases hd with rfl | rfl <;> decide)
  · refine r_aload_n d_Fu_lose_4 rfl 0 rfl ?_
    refine r_get fs_Fu_12 d_Fu_lose_5 (q0 := 0) rfl rfl ?_
    refine r_get fs_Fu_30 d_Fu_lose_8 (q0 := 1) rfl rfl ?_
    refine r_iload_n d_Fu_lose_11 rfl 1 rfl ?_
    refine r_lald d_Fu_lose_12 (q0 := 2) rfl (vp_in_nI (by omega) (by omega)) (v := gr e) (by rw [nI_clamp (by omega)]) ?_
    refine r_iload_n d_Fu_lose_13 rfl 2 rfl ?_
    refine r_i2l d_Fu_lose_14 (v := d.toInt64) rfl ?_
    refine r_ldiv d_Fu_lose_15 (v := (gr e) / d.toInt64) (by rcases hd with rfl | rfl <;> decide) rfl ?_
    refine r_lstore_n (lv' := [(3, .long ((gr e) / d.toInt64)), (0, .ref a), (1, .int (nI e)), (2, .int d)]) d_Fu_lose_16 rfl (by decide) rfl ?_
    refine r_aload_n d_Fu_lose_17 rfl 1 rfl ?_
    refine r_get fs_Fu_12 d_Fu_lose_18 (q0 := 0) rfl rfl ?_
    refine r_get fs_Fu_30 d_Fu_lose_21 (q0 := 1) rfl rfl ?_
    refine r_iload_n d_Fu_lose_24 rfl 2 rfl ?_
    refine r_dup2_11 d_Fu_lose_25 rfl rfl ?_
    refine r_lald d_Fu_lose_26 (q0 := 2) rfl (vp_in_nI (by omega) (by omega)) (v := gr e) (by rw [nI_clamp (by omega)]) ?_
    refine r_lload_n d_Fu_lose_27 rfl 0 rfl ?_
    refine r_lsub d_Fu_lose_28 (v := (gr e) - ((gr e) / d.toInt64)) rfl ?_
    refine r_last d_Fu_lose_29 (q0 := 2) rfl (vp_in_nI (by omega) (by omega)) (f' := vp_updL gr e ((gr e) - ((gr e) / d.toInt64))) (by rw [nI_clamp (by omega)]) (cs' := [(a, .inr (3, [.ref ab, .ref at1, .ref at2, .ref at3, .long io])), (ab, .inr (6, [.ref abg, .int ir])), (abg, .inl (3, 4, .inr (.inl (vp_updL gr e ((gr e) - ((gr e) / d.toInt64)))))), (at1, .inl (3, 4, .inr (.inl T1))), (at2, .inl (3, 4, .inr (.inl T2))), (at3, .inl (3, 4, .inr (.inl T3)))]) rfl ?_
    refine r_aload_n d_Fu_lose_30 rfl 1 rfl ?_
    refine r_get fs_Fu_25 d_Fu_lose_31 (q0 := 0) rfl rfl ?_
    refine r_iload_n d_Fu_lose_34 rfl 2 rfl ?_
    refine r_dup2_11 d_Fu_lose_35 rfl rfl ?_
    refine r_lald d_Fu_lose_36 (q0 := 5) rfl (vp_in_nI (by omega) (by omega)) (v := T3 e) (by rw [nI_clamp (by omega)]) ?_
    refine r_lload_n d_Fu_lose_37 rfl 0 rfl ?_
    refine r_ladd d_Fu_lose_38 (v := (T3 e) + ((gr e) / d.toInt64)) rfl ?_
    refine r_last d_Fu_lose_39 (q0 := 5) rfl (vp_in_nI (by omega) (by omega)) (f' := vp_updL T3 e ((T3 e) + ((gr e) / d.toInt64))) (by rw [nI_clamp (by omega)]) (cs' := [(a, .inr (3, [.ref ab, .ref at1, .ref at2, .ref at3, .long io])), (ab, .inr (6, [.ref abg, .int ir])), (abg, .inl (3, 4, .inr (.inl (vp_updL gr e ((gr e) - ((gr e) / d.toInt64)))))), (at1, .inl (3, 4, .inr (.inl T1))), (at2, .inl (3, 4, .inr (.inl T2))), (at3, .inl (3, 4, .inr (.inl (vp_updL T3 e ((T3 e) + ((gr e) / d.toInt64))))))]) rfl ?_
    refine r_vret d_Fu_lose_40 rfl ?_
    exact ⟨rfl, rfl⟩
abbrev M_Fu_loseFor : zM := (⟨"Ironpour$Furnace", "loseFor", "(I)V"⟩, prog_5_method_3_code, 3, (Option.none : Option FieldType), 2, 44, [])
theorem d_Fu_loseFor_2 : decode prog_5_method_3_code 2 = .ok (.iload_n 2, 1) := zo_28 (zd_b zq_prog_5_method_3_code_0 2 rfl rfl rfl)
theorem d_Fu_loseFor_3 : decode prog_5_method_3_code 3 = .ok (.iload_n 1, 1) := zo_27 (zd_b zq_prog_5_method_3_code_0 3 rfl rfl rfl)
theorem d_Fu_loseFor_4 : decode prog_5_method_3_code 4 = .ok (.if_icmp .ge 33, 3) := zo_162 (d := 0) (e := 33) (zd_b zq_prog_5_method_3_code_0 4 rfl rfl rfl) (zd_b zq_prog_5_method_3_code_0 5 rfl rfl rfl) (zd_b zq_prog_5_method_3_code_0 6 rfl rfl rfl) (by decide +kernel)
theorem d_Fu_loseFor_37 : decode prog_5_method_3_code 37 = .ok (.return_, 1) := zo_177 (zd_b zq_prog_5_method_3_code_1 5 rfl rfl rfl)
theorem d_Fu_loseFor_7 : decode prog_5_method_3_code 7 = .ok (.aload_n 0, 1) := zo_42 (zd_b zq_prog_5_method_3_code_0 7 rfl rfl rfl)
theorem d_Fu_loseFor_8 : decode prog_5_method_3_code 8 = .ok (.iconst 0, 1) := zo_3 (zd_b zq_prog_5_method_3_code_0 8 rfl rfl rfl)
theorem d_Fu_loseFor_9 : decode prog_5_method_3_code 9 = .ok (.sipush 2000, 3) := zo_17 (d := 7) (e := 208) (zd_b zq_prog_5_method_3_code_0 9 rfl rfl rfl) (zd_b zq_prog_5_method_3_code_0 10 rfl rfl rfl) (zd_b zq_prog_5_method_3_code_0 11 rfl rfl rfl) (by decide +kernel)
theorem d_Fu_loseFor_12 : decode prog_5_method_3_code 12 = .ok (.invokevirtual 41, 3) := zo_182 (d := 0) (e := 41) (zd_b zq_prog_5_method_3_code_0 12 rfl rfl rfl) (zd_b zq_prog_5_method_3_code_0 13 rfl rfl rfl) (zd_b zq_prog_5_method_3_code_0 14 rfl rfl rfl)
theorem ok_Fu_loseFor_Fu_lose : z_ok M_Fu_loseFor M_Fu_lose 2 := ⟨z_mj5 (i := 98) rfl (by decide +kernel), rfl, ⟨by decide +kernel, by decide +kernel, by decide +kernel⟩, ⟨by decide, by decide⟩, z_mj1 (i := 7) rfl (by decide +kernel), rfl⟩
theorem ln_Fu_41 : Cond.methodLink "Ironpour$Furnace" 41 M_Fu_lose.1 ∈ z_gw := z_mj5 (i := 95) rfl (by decide +kernel)
theorem w_im_Fu_lose : Cond.instanceMethod M_Fu_lose.1 ∈ z_gw := z_mj5 (i := 97) rfl (by decide +kernel)
theorem w_se_Fu_lose : Cond.selects M_Fu_lose.1.cls M_Fu_lose.1 M_Fu_lose.1 ∈ z_gw := z_mem (i := 21) (by decide +kernel) (by decide +kernel)
theorem d_Fu_loseFor_15 : decode prog_5_method_3_code 15 = .ok (.aload_n 0, 1) := zo_42 (zd_b zq_prog_5_method_3_code_0 15 rfl rfl rfl)
theorem d_Fu_loseFor_16 : decode prog_5_method_3_code 16 = .ok (.iconst 1, 1) := zo_4 (zd_b zq_prog_5_method_3_code_0 16 rfl rfl rfl)
theorem d_Fu_loseFor_17 : decode prog_5_method_3_code 17 = .ok (.sipush 4000, 3) := zo_17 (d := 15) (e := 160) (zd_b zq_prog_5_method_3_code_0 17 rfl rfl rfl) (zd_b zq_prog_5_method_3_code_0 18 rfl rfl rfl) (zd_b zq_prog_5_method_3_code_0 19 rfl rfl rfl) (by decide +kernel)
theorem d_Fu_loseFor_20 : decode prog_5_method_3_code 20 = .ok (.invokevirtual 41, 3) := zo_182 (d := 0) (e := 41) (zd_b zq_prog_5_method_3_code_0 20 rfl rfl rfl) (zd_b zq_prog_5_method_3_code_0 21 rfl rfl rfl) (zd_b zq_prog_5_method_3_code_0 22 rfl rfl rfl)
theorem d_Fu_loseFor_23 : decode prog_5_method_3_code 23 = .ok (.aload_n 0, 1) := zo_42 (zd_b zq_prog_5_method_3_code_0 23 rfl rfl rfl)
theorem d_Fu_loseFor_24 : decode prog_5_method_3_code 24 = .ok (.iconst 2, 1) := zo_5 (zd_b zq_prog_5_method_3_code_0 24 rfl rfl rfl)
theorem d_Fu_loseFor_25 : decode prog_5_method_3_code 25 = .ok (.sipush 4000, 3) := zo_17 (d := 15) (e := 160) (zd_b zq_prog_5_method_3_code_0 25 rfl rfl rfl) (zd_b zq_prog_5_method_3_code_0 26 rfl rfl rfl) (zd_b zq_prog_5_method_3_code_0 27 rfl rfl rfl) (by decide +kernel)
theorem d_Fu_loseFor_28 : decode prog_5_method_3_code 28 = .ok (.invokevirtual 41, 3) := zo_182 (d := 0) (e := 41) (zd_b zq_prog_5_method_3_code_0 28 rfl rfl rfl) (zd_b zq_prog_5_method_3_code_0 29 rfl rfl rfl) (zd_b zq_prog_5_method_3_code_0 30 rfl rfl rfl)
theorem d_Fu_loseFor_31 : decode prog_5_method_3_code 31 = .ok (.iinc 2 1, 3) := by decide +kernel
theorem d_Fu_loseFor_34 : decode prog_5_method_3_code 34 = .ok (.goto (-32), 3) := zo_167 (d := 255) (e := 224) (zd_b zq_prog_5_method_3_code_1 2 rfl rfl rfl) (zd_b zq_prog_5_method_3_code_1 3 rfl rfl rfl) (zd_b zq_prog_5_method_3_code_1 4 rfl rfl rfl) (by decide +kernel)
theorem d_Fu_loseFor_0 : decode prog_5_method_3_code 0 = .ok (.iconst 0, 1) := zo_3 (zd_b zq_prog_5_method_3_code_0 0 rfl rfl rfl)
theorem d_Fu_loseFor_1 : decode prog_5_method_3_code 1 = .ok (.istore_n 2, 1) := zo_61 (zd_b zq_prog_5_method_3_code_0 1 rfl rfl rfl)
set_option maxHeartbeats 4000000 in
set_option maxRecDepth 100000 in
theorem L_Fu_loseFor_2 (g : zG) (a ab abg at1 at2 at3 : Nat) (gr T1 T2 T3 : Nat → Int64) (ir : Int32) (io : Int64) (m : Nat) (hm : m < 1000) (w0 : zW) (n : Nat) : ∀ (d i : Nat), i ≤ m → m < i + d → DV g M_Fu_loseFor (fun o cs1 => o = .inl none ∧ cs1 = [(a, .inr (3, [.ref ab, .ref at1, .ref at2, .ref at3, .long io])), (ab, .inr (6, [.ref abg, .int ir])), (abg, .inl (3, 4, .inr (.inl ((lmS (gr, T3) m).1)))), (at1, .inl (3, 4, .inr (.inl T1))), (at2, .inl (3, 4, .inr (.inl T2))), (at3, .inl (3, 4, .inr (.inl ((lmS (gr, T3) m).2))))]) w0 n 2 [(2, .int (nI i)), (0, .ref a), (1, .int (nI m))] [] [(a, .inr (3, [.ref ab, .ref at1, .ref at2, .ref at3, .long io])), (ab, .inr (6, [.ref abg, .int ir])), (abg, .inl (3, 4, .inr (.inl ((lmS (gr, T3) i).1)))), (at1, .inl (3, 4, .inr (.inl T1))), (at2, .inl (3, 4, .inr (.inl T2))), (at3, .inl (3, 4, .inr (.inl ((lmS (gr, T3) i).2))))] 0 0 := by
  intro d
  induction d with
  | zero => intro i h1 h2 ; exact absurd h2 (by omega)
  | succ d ih =>
    intro i h1 h2 
    refine r_iload_n d_Fu_loseFor_2 rfl 0 rfl ?_
    refine r_iload_n d_Fu_loseFor_3 rfl 2 rfl ?_
    refine r_icmp_ge (tgt := 37) d_Fu_loseFor_4 (by decide) (fun c_4 => ?_) (fun c_4 => ?_)
    · have hn := z_le (by omega) (by omega) c_4
      have hv : i = m := by omega
      subst hv
      refine r_vret d_Fu_loseFor_37 rfl ?_
      exact ⟨rfl, rfl⟩
    · have hn := z_nle (by omega) (by omega) c_4
      refine r_aload_n d_Fu_loseFor_7 rfl 1 rfl ?_
      refine r_iconst d_Fu_loseFor_8 (v := 0) (by decide) ?_
      refine r_sipush d_Fu_loseFor_9 (v := 2000) (by decide) ?_
      refine r_callV (As := [.int 0, .int 2000]) (rest := []) (csC := [(a, .inr (3, [.ref ab, .ref at1, .ref at2, .ref at3, .long io])), (ab, .inr (6, [.ref abg, .int ir])), (abg, .inl (3, 4, .inr (.inl ((lmS (gr, T3) i).1)))), (at1, .inl (3, 4, .inr (.inl T1))), (at2, .inl (3, 4, .inr (.inl T2))), (at3, .inl (3, 4, .inr (.inl ((lmS (gr, T3) i).2))))]) (is := [0, 1, 2, 3, 4, 5]) (q0 := 0) rfl rfl ln_Fu_41 w_im_Fu_lose w_se_Fu_lose ok_Fu_loseFor_Fu_lose d_Fu_loseFor_12 (C_Fu_lose g a ab abg at1 at2 at3 ((lmS (gr, T3) i).1) T1 T2 ((lmS (gr, T3) i).2) ir io 0 (by decide) 2000 (by decide)) rfl rfl (Nat.le_of_ble_eq_true rfl) rfl (by decide) (by omega) (by omega) (fun E cs1 hx => ?_) (fun v cs1 hx => ?_)
      · exact absurd hx.1 (by simp)
      · obtain ⟨e1, rfl⟩ := hx
        cases e1
        refine ⟨rfl, ?_⟩
        refine r_st (st2 := []) rfl ?_
        refine r_cs (cs2 := [(a, .inr (3, [.ref ab, .ref at1, .ref at2, .ref at3, .long io])), (ab, .inr (6, [.ref abg, .int ir])), (abg, .inl (3, 4, .inr (.inl ((loS 0 2000 (((lmS (gr, T3) i).1), ((lmS (gr, T3) i).2))).1)))), (at1, .inl (3, 4, .inr (.inl T1))), (at2, .inl (3, 4, .inr (.inl T2))), (at3, .inl (3, 4, .inr (.inl ((loS 0 2000 (((lmS (gr, T3) i).1), ((lmS (gr, T3) i).2))).2))))]) rfl ?_
        refine r_aload_n d_Fu_loseFor_15 rfl 1 rfl ?_
        refine r_iconst d_Fu_loseFor_16 (v := 1) (by decide) ?_
        refine r_sipush d_Fu_loseFor_17 (v := 4000) (by decide) ?_
        refine r_callV (As := [.int 1, .int 4000]) (rest := []) (csC := [(a, .inr (3, [.ref ab, .ref at1, .ref at2, .ref at3, .long io])), (ab, .inr (6, [.ref abg, .int ir])), (abg, .inl (3, 4, .inr (.inl ((loS 0 2000 (((lmS (gr, T3) i).1), ((lmS (gr, T3) i).2))).1)))), (at1, .inl (3, 4, .inr (.inl T1))), (at2, .inl (3, 4, .inr (.inl T2))), (at3, .inl (3, 4, .inr (.inl ((loS 0 2000 (((lmS (gr, T3) i).1), ((lmS (gr, T3) i).2))).2))))]) (is := [0, 1, 2, 3, 4, 5]) (q0 := 0) rfl rfl ln_Fu_41 w_im_Fu_lose w_se_Fu_lose ok_Fu_loseFor_Fu_lose d_Fu_loseFor_20 (C_Fu_lose g a ab abg at1 at2 at3 ((loS 0 2000 (((lmS (gr, T3) i).1), ((lmS (gr, T3) i).2))).1) T1 T2 ((loS 0 2000 (((lmS (gr, T3) i).1), ((lmS (gr, T3) i).2))).2) ir io 1 (by decide) 4000 (by decide)) rfl rfl (Nat.le_of_ble_eq_true rfl) rfl (by decide) (by omega) (by omega) (fun E cs1 hx => ?_) (fun v cs1 hx => ?_)
        · exact absurd hx.1 (by simp)
        · obtain ⟨e1, rfl⟩ := hx
          cases e1
          refine ⟨rfl, ?_⟩
          refine r_st (st2 := []) rfl ?_
          refine r_cs (cs2 := [(a, .inr (3, [.ref ab, .ref at1, .ref at2, .ref at3, .long io])), (ab, .inr (6, [.ref abg, .int ir])), (abg, .inl (3, 4, .inr (.inl ((loS 1 4000 (((loS 0 2000 (((lmS (gr, T3) i).1), ((lmS (gr, T3) i).2))).1), ((loS 0 2000 (((lmS (gr, T3) i).1), ((lmS (gr, T3) i).2))).2))).1)))), (at1, .inl (3, 4, .inr (.inl T1))), (at2, .inl (3, 4, .inr (.inl T2))), (at3, .inl (3, 4, .inr (.inl ((loS 1 4000 (((loS 0 2000 (((lmS (gr, T3) i).1), ((lmS (gr, T3) i).2))).1), ((loS 0 2000 (((lmS (gr, T3) i).1), ((lmS (gr, T3) i).2))).2))).2))))]) rfl ?_
          refine r_aload_n d_Fu_loseFor_23 rfl 1 rfl ?_
          refine r_iconst d_Fu_loseFor_24 (v := 2) (by decide) ?_
          refine r_sipush d_Fu_loseFor_25 (v := 4000) (by decide) ?_
          refine r_callV (As := [.int 2, .int 4000]) (rest := []) (csC := [(a, .inr (3, [.ref ab, .ref at1, .ref at2, .ref at3, .long io])), (ab, .inr (6, [.ref abg, .int ir])), (abg, .inl (3, 4, .inr (.inl ((loS 1 4000 (((loS 0 2000 (((lmS (gr, T3) i).1), ((lmS (gr, T3) i).2))).1), ((loS 0 2000 (((lmS (gr, T3) i).1), ((lmS (gr, T3) i).2))).2))).1)))), (at1, .inl (3, 4, .inr (.inl T1))), (at2, .inl (3, 4, .inr (.inl T2))), (at3, .inl (3, 4, .inr (.inl ((loS 1 4000 (((loS 0 2000 (((lmS (gr, T3) i).1), ((lmS (gr, T3) i).2))).1), ((loS 0 2000 (((lmS (gr, T3) i).1), ((lmS (gr, T3) i).2))).2))).2))))]) (is := [0, 1, 2, 3, 4, 5]) (q0 := 0) rfl rfl ln_Fu_41 w_im_Fu_lose w_se_Fu_lose ok_Fu_loseFor_Fu_lose d_Fu_loseFor_28 (C_Fu_lose g a ab abg at1 at2 at3 ((loS 1 4000 (((loS 0 2000 (((lmS (gr, T3) i).1), ((lmS (gr, T3) i).2))).1), ((loS 0 2000 (((lmS (gr, T3) i).1), ((lmS (gr, T3) i).2))).2))).1) T1 T2 ((loS 1 4000 (((loS 0 2000 (((lmS (gr, T3) i).1), ((lmS (gr, T3) i).2))).1), ((loS 0 2000 (((lmS (gr, T3) i).1), ((lmS (gr, T3) i).2))).2))).2) ir io 2 (by decide) 4000 (by decide)) rfl rfl (Nat.le_of_ble_eq_true rfl) rfl (by decide) (by omega) (by omega) (fun E cs1 hx => ?_) (fun v cs1 hx => ?_)
          · exact absurd hx.1 (by simp)
          · obtain ⟨e1, rfl⟩ := hx
            cases e1
            refine ⟨rfl, ?_⟩
            refine r_st (st2 := []) rfl ?_
            refine r_cs (cs2 := [(a, .inr (3, [.ref ab, .ref at1, .ref at2, .ref at3, .long io])), (ab, .inr (6, [.ref abg, .int ir])), (abg, .inl (3, 4, .inr (.inl ((loS 2 4000 (((loS 1 4000 (((loS 0 2000 (((lmS (gr, T3) i).1), ((lmS (gr, T3) i).2))).1), ((loS 0 2000 (((lmS (gr, T3) i).1), ((lmS (gr, T3) i).2))).2))).1), ((loS 1 4000 (((loS 0 2000 (((lmS (gr, T3) i).1), ((lmS (gr, T3) i).2))).1), ((loS 0 2000 (((lmS (gr, T3) i).1), ((lmS (gr, T3) i).2))).2))).2))).1)))), (at1, .inl (3, 4, .inr (.inl T1))), (at2, .inl (3, 4, .inr (.inl T2))), (at3, .inl (3, 4, .inr (.inl ((loS 2 4000 (((loS 1 4000 (((loS 0 2000 (((lmS (gr, T3) i).1), ((lmS (gr, T3) i).2))).1), ((loS 0 2000 (((lmS (gr, T3) i).1), ((lmS (gr, T3) i).2))).2))).1), ((loS 1 4000 (((loS 0 2000 (((lmS (gr, T3) i).1), ((lmS (gr, T3) i).2))).1), ((loS 0 2000 (((lmS (gr, T3) i).1), ((lmS (gr, T3) i).2))).2))).2))).2))))]) rfl ?_
            refine r_iinc (lv' := [(2, .int (nI (i + 1))), (0, .ref a), (1, .int (nI m))]) (v := nI (i + 1)) d_Fu_loseFor_31 (j := 0) rfl (nI_add _ _) (by decide) rfl ?_
            refine r_goto (tgt := 2) d_Fu_loseFor_34 (by decide) ?_
            refine r_lvE (lv2 := [(2, .int (nI (i + 1))), (0, .ref a), (1, .int (nI m))]) (rfl) ?_
            refine r_cs (cs2 := [(a, .inr (3, [.ref ab, .ref at1, .ref at2, .ref at3, .long io])), (ab, .inr (6, [.ref abg, .int ir])), (abg, .inl (3, 4, .inr (.inl ((lmS (gr, T3) (i + 1)).1)))), (at1, .inl (3, 4, .inr (.inl T1))), (at2, .inl (3, 4, .inr (.inl T2))), (at3, .inl (3, 4, .inr (.inl ((lmS (gr, T3) (i + 1)).2))))]) (rfl) ?_
            exact ih (i + 1) (by omega) (by omega)
set_option maxHeartbeats 4000000 in
set_option maxRecDepth 100000 in
theorem C_Fu_loseFor (g : zG) (a ab abg at1 at2 at3 : Nat) (gr T1 T2 T3 : Nat → Int64) (ir : Int32) (io : Int64) (m : Nat) (hm : m < 1000) : CT g M_Fu_loseFor [.ref a, .int (nI m)] [(a, .inr (3, [.ref ab, .ref at1, .ref at2, .ref at3, .long io])), (ab, .inr (6, [.ref abg, .int ir])), (abg, .inl (3, 4, .inr (.inl gr))), (at1, .inl (3, 4, .inr (.inl T1))), (at2, .inl (3, 4, .inr (.inl T2))), (at3, .inl (3, 4, .inr (.inl T3)))] (fun o cs1 => o = .inl none ∧ cs1 = [(a, .inr (3, [.ref ab, .ref at1, .ref at2, .ref at3, .long io])), (ab, .inr (6, [.ref abg, .int ir])), (abg, .inl (3, 4, .inr (.inl ((lmS (gr, T3) m).1)))), (at1, .inl (3, 4, .inr (.inl T1))), (at2, .inl (3, 4, .inr (.inl T2))), (at3, .inl (3, 4, .inr (.inl ((lmS (gr, T3) m).2))))]) 0 0 := by
  refine z_of (by decide) rfl (Nat.le_of_ble_eq_true rfl) (fun w0 => ?_)
  refine r_lvE (lv2 := [(0, .ref a), (1, .int (nI m))]) rfl ?_
  refine r_iconst d_Fu_loseFor_0 (v := 0) (by decide) ?_
  refine r_istore_n (lv' := [(2, .int 0), (0, .ref a), (1, .int (nI m))]) d_Fu_loseFor_1 rfl (by decide) rfl ?_
  refine r_lvE (lv2 := [(2, .int (nI 0)), (0, .ref a), (1, .int (nI m))]) (rfl) ?_
  refine r_cs (cs2 := [(a, .inr (3, [.ref ab, .ref at1, .ref at2, .ref at3, .long io])), (ab, .inr (6, [.ref abg, .int ir])), (abg, .inl (3, 4, .inr (.inl ((lmS (gr, T3) 0).1)))), (at1, .inl (3, 4, .inr (.inl T1))), (at2, .inl (3, 4, .inr (.inl T2))), (at3, .inl (3, 4, .inr (.inl ((lmS (gr, T3) 0).2))))]) (rfl) ?_
  exact L_Fu_loseFor_2 g a ab abg at1 at2 at3 gr T1 T2 T3 ir io m hm w0 _  (m + 1) 0 (Nat.zero_le _) (by omega)
abbrev M_La_isEmpty : zM := (⟨"Ironpour$Ladle", "isEmpty", "()Z"⟩, prog_7_method_2_code, 1, (Option.some FieldType.boolean), 1, 20, [])
theorem d_La_isEmpty_0 : decode prog_7_method_2_code 0 = .ok (.aload_n 0, 1) := zo_42 (zd_b zq_prog_7_method_2_code_0 0 rfl rfl rfl)
theorem d_La_isEmpty_1 : decode prog_7_method_2_code 1 = .ok (.getfield 12, 3) := zo_180 (d := 0) (e := 12) (zd_b zq_prog_7_method_2_code_0 1 rfl rfl rfl) (zd_b zq_prog_7_method_2_code_0 2 rfl rfl rfl) (zd_b zq_prog_7_method_2_code_0 3 rfl rfl rfl)
theorem fs_La_12 : z_fs "Ironpour$Ladle" 12 5 0 := ⟨R_La, "Ironpour$Ladle", F_La, 4, rfl, u_La, by decide, Or.inl ⟨z_mj1 (i := 239) rfl (by decide +kernel), Or.inl rfl⟩⟩
theorem d_La_isEmpty_4 : decode prog_7_method_2_code 4 = .ok (.getfield 18, 3) := zo_180 (d := 0) (e := 18) (zd_b zq_prog_7_method_2_code_0 4 rfl rfl rfl) (zd_b zq_prog_7_method_2_code_0 5 rfl rfl rfl) (zd_b zq_prog_7_method_2_code_0 6 rfl rfl rfl)
theorem fs_La_18 : z_fs "Ironpour$Ladle" 18 6 1 := ⟨R_Me, "Ironpour$Metal", F_Me, 2, rfl, u_Me, by decide, Or.inr ⟨"Ironpour", z_mk1 (i := 201) rfl (by decide +kernel), rfl⟩⟩
theorem d_La_isEmpty_7 : decode prog_7_method_2_code 7 = .ok (.ifCond .ne 7, 3) := zo_154 (d := 0) (e := 7) (zd_b zq_prog_7_method_2_code_0 7 rfl rfl rfl) (zd_b zq_prog_7_method_2_code_0 8 rfl rfl rfl) (zd_b zq_prog_7_method_2_code_0 9 rfl rfl rfl) (by decide +kernel)
theorem d_La_isEmpty_14 : decode prog_7_method_2_code 14 = .ok (.iconst 0, 1) := zo_3 (zd_b zq_prog_7_method_2_code_0 14 rfl rfl rfl)
theorem d_La_isEmpty_15 : decode prog_7_method_2_code 15 = .ok (.ireturn, 1) := zo_172 (zd_b zq_prog_7_method_2_code_0 15 rfl rfl rfl)
theorem d_La_isEmpty_10 : decode prog_7_method_2_code 10 = .ok (.iconst 1, 1) := zo_4 (zd_b zq_prog_7_method_2_code_0 10 rfl rfl rfl)
theorem d_La_isEmpty_11 : decode prog_7_method_2_code 11 = .ok (.goto 4, 3) := zo_167 (d := 0) (e := 4) (zd_b zq_prog_7_method_2_code_0 11 rfl rfl rfl) (zd_b zq_prog_7_method_2_code_0 12 rfl rfl rfl) (zd_b zq_prog_7_method_2_code_0 13 rfl rfl rfl) (by decide +kernel)
set_option maxHeartbeats 4000000 in
set_option maxRecDepth 100000 in
theorem C_La_isEmpty (g : zG) (a ab abg : Nat) (gr : Nat → Int64) (he mg wd ir : Int32) : CT g M_La_isEmpty [.ref a] [(a, .inr (5, [.ref ab, .int he, .int mg, .int wd])), (ab, .inr (6, [.ref abg, .int ir])), (abg, .inl (3, 4, .inr (.inl gr)))] (fun o cs1 => o = .inl (some (.int (if ir = 0 then 1 else 0))) ∧ cs1 = [(a, .inr (5, [.ref ab, .int he, .int mg, .int wd])), (ab, .inr (6, [.ref abg, .int ir])), (abg, .inl (3, 4, .inr (.inl gr)))]) 0 0 := by
  refine z_of (by decide) rfl (Nat.le_of_ble_eq_true rfl) (fun w0 => ?_)
  refine r_lvE (lv2 := [(0, .ref a)]) rfl ?_
  refine r_aload_n d_La_isEmpty_0 rfl 0 rfl ?_
  refine r_get fs_La_12 d_La_isEmpty_1 (q0 := 0) rfl rfl ?_
  refine r_get fs_La_18 d_La_isEmpty_4 (q0 := 1) rfl rfl ?_
  refine r_if_ne (tgt := 14) d_La_isEmpty_7 (by decide) (fun c_7 => ?_) (fun c_7 => ?_)
  · refine r_iconst d_La_isEmpty_14 (v := 0) (by decide) ?_
    refine r_iret d_La_isEmpty_15 rfl rfl ?_
    refine ⟨?_, rfl⟩
    first | rw [if_pos (by assumption)] | rw [if_neg (by assumption)]
  · refine r_iconst d_La_isEmpty_10 (v := 1) (by decide) ?_
    refine r_goto (tgt := 15) d_La_isEmpty_11 (by decide) ?_
    refine r_iret d_La_isEmpty_15 rfl rfl ?_
    refine ⟨?_, rfl⟩
    first | rw [if_pos (by assumption)] | rw [if_neg (by assumption)]
abbrev M_La_fadeFor : zM := (⟨"Ironpour$Ladle", "fadeFor", "(I)V"⟩, prog_7_method_5_code, 3, (Option.none : Option FieldType), 2, 40, [])
theorem d_La_fadeFor_19 : decode prog_7_method_5_code 19 = .ok (.iload_n 2, 1) := zo_28 (zd_b zq_prog_7_method_5_code_0 19 rfl rfl rfl)
theorem d_La_fadeFor_20 : decode prog_7_method_5_code 20 = .ok (.iload_n 1, 1) := zo_27 (zd_b zq_prog_7_method_5_code_0 20 rfl rfl rfl)
theorem d_La_fadeFor_21 : decode prog_7_method_5_code 21 = .ok (.if_icmp .ge 28, 3) := zo_162 (d := 0) (e := 28) (zd_b zq_prog_7_method_5_code_0 21 rfl rfl rfl) (zd_b zq_prog_7_method_5_code_0 22 rfl rfl rfl) (zd_b zq_prog_7_method_5_code_0 23 rfl rfl rfl) (by decide +kernel)
theorem d_La_fadeFor_49 : decode prog_7_method_5_code 49 = .ok (.return_, 1) := zo_177 (zd_b zq_prog_7_method_5_code_1 17 rfl rfl rfl)
theorem d_La_fadeFor_24 : decode prog_7_method_5_code 24 = .ok (.aload_n 0, 1) := zo_42 (zd_b zq_prog_7_method_5_code_0 24 rfl rfl rfl)
theorem d_La_fadeFor_25 : decode prog_7_method_5_code 25 = .ok (.dup, 1) := zo_89 (zd_b zq_prog_7_method_5_code_0 25 rfl rfl rfl)
theorem d_La_fadeFor_26 : decode prog_7_method_5_code 26 = .ok (.getfield 29, 3) := zo_180 (d := 0) (e := 29) (zd_b zq_prog_7_method_5_code_0 26 rfl rfl rfl) (zd_b zq_prog_7_method_5_code_0 27 rfl rfl rfl) (zd_b zq_prog_7_method_5_code_0 28 rfl rfl rfl)
theorem fs_La_29 : z_fs "Ironpour$Ladle" 29 5 2 := ⟨R_La, "Ironpour$Ladle", F_La, 4, rfl, u_La, by decide, Or.inl ⟨z_mj2 (i := 3) rfl (by decide +kernel), Or.inl rfl⟩⟩
theorem d_La_fadeFor_29 : decode prog_7_method_5_code 29 = .ok (.aload_n 0, 1) := zo_42 (zd_b zq_prog_7_method_5_code_0 29 rfl rfl rfl)
theorem d_La_fadeFor_30 : decode prog_7_method_5_code 30 = .ok (.getfield 29, 3) := zo_180 (d := 0) (e := 29) (zd_b zq_prog_7_method_5_code_0 30 rfl rfl rfl) (zd_b zq_prog_7_method_5_code_0 31 rfl rfl rfl) (zd_b zq_prog_7_method_5_code_1 0 rfl rfl rfl)
theorem d_La_fadeFor_33 : decode prog_7_method_5_code 33 = .ok (.bipush 19, 2) := zo_16 (d := 19) (zd_b zq_prog_7_method_5_code_1 1 rfl rfl rfl) (zd_b zq_prog_7_method_5_code_1 2 rfl rfl rfl) (by decide +kernel)
theorem d_La_fadeFor_35 : decode prog_7_method_5_code 35 = .ok (.iadd, 1) := zo_96 (zd_b zq_prog_7_method_5_code_1 3 rfl rfl rfl)
theorem d_La_fadeFor_36 : decode prog_7_method_5_code 36 = .ok (.bipush 20, 2) := zo_16 (d := 20) (zd_b zq_prog_7_method_5_code_1 4 rfl rfl rfl) (zd_b zq_prog_7_method_5_code_1 5 rfl rfl rfl) (by decide +kernel)
theorem d_La_fadeFor_38 : decode prog_7_method_5_code 38 = .ok (.idiv, 1) := zo_108 (zd_b zq_prog_7_method_5_code_1 6 rfl rfl rfl)
theorem d_La_fadeFor_39 : decode prog_7_method_5_code 39 = .ok (.isub, 1) := zo_100 (zd_b zq_prog_7_method_5_code_1 7 rfl rfl rfl)
theorem d_La_fadeFor_40 : decode prog_7_method_5_code 40 = .ok (.putfield 29, 3) := zo_181 (d := 0) (e := 29) (zd_b zq_prog_7_method_5_code_1 8 rfl rfl rfl) (zd_b zq_prog_7_method_5_code_1 9 rfl rfl rfl) (zd_b zq_prog_7_method_5_code_1 10 rfl rfl rfl)
theorem fp_La_29 : z_fp "Ironpour$Ladle" 29 5 2 false .int := ⟨R_La, "Ironpour$Ladle", F_La, 4, t_La, rfl, u_La, by decide, t_La_ok, n_La, rfl, rfl, Or.inl ⟨z_mj2 (i := 3) rfl (by decide +kernel), Or.inl rfl, fun h => nomatch h⟩⟩
theorem d_La_fadeFor_43 : decode prog_7_method_5_code 43 = .ok (.iinc 2 1, 3) := by decide +kernel
theorem d_La_fadeFor_46 : decode prog_7_method_5_code 46 = .ok (.goto (-27), 3) := zo_167 (d := 255) (e := 229) (zd_b zq_prog_7_method_5_code_1 14 rfl rfl rfl) (zd_b zq_prog_7_method_5_code_1 15 rfl rfl rfl) (zd_b zq_prog_7_method_5_code_1 16 rfl rfl rfl) (by decide +kernel)
theorem d_La_fadeFor_0 : decode prog_7_method_5_code 0 = .ok (.aload_n 0, 1) := zo_42 (zd_b zq_prog_7_method_5_code_0 0 rfl rfl rfl)
theorem d_La_fadeFor_1 : decode prog_7_method_5_code 1 = .ok (.bipush 20, 2) := zo_16 (d := 20) (zd_b zq_prog_7_method_5_code_0 1 rfl rfl rfl) (zd_b zq_prog_7_method_5_code_0 2 rfl rfl rfl) (by decide +kernel)
theorem d_La_fadeFor_3 : decode prog_7_method_5_code 3 = .ok (.aload_n 0, 1) := zo_42 (zd_b zq_prog_7_method_5_code_0 3 rfl rfl rfl)
theorem d_La_fadeFor_4 : decode prog_7_method_5_code 4 = .ok (.getfield 26, 3) := zo_180 (d := 0) (e := 26) (zd_b zq_prog_7_method_5_code_0 4 rfl rfl rfl) (zd_b zq_prog_7_method_5_code_0 5 rfl rfl rfl) (zd_b zq_prog_7_method_5_code_0 6 rfl rfl rfl)
theorem fs_La_26 : z_fs "Ironpour$Ladle" 26 5 1 := ⟨R_La, "Ironpour$Ladle", F_La, 4, rfl, u_La, by decide, Or.inl ⟨z_mj2 (i := 1) rfl (by decide +kernel), Or.inl rfl⟩⟩
theorem d_La_fadeFor_7 : decode prog_7_method_5_code 7 = .ok (.iconst 4, 1) := zo_7 (zd_b zq_prog_7_method_5_code_0 7 rfl rfl rfl)
theorem d_La_fadeFor_8 : decode prog_7_method_5_code 8 = .ok (.iload_n 1, 1) := zo_27 (zd_b zq_prog_7_method_5_code_0 8 rfl rfl rfl)
theorem d_La_fadeFor_9 : decode prog_7_method_5_code 9 = .ok (.imul, 1) := zo_104 (zd_b zq_prog_7_method_5_code_0 9 rfl rfl rfl)
theorem d_La_fadeFor_10 : decode prog_7_method_5_code 10 = .ok (.isub, 1) := zo_100 (zd_b zq_prog_7_method_5_code_0 10 rfl rfl rfl)
theorem d_La_fadeFor_11 : decode prog_7_method_5_code 11 = .ok (.invokestatic 36, 3) := zo_184 (d := 0) (e := 36) (zd_b zq_prog_7_method_5_code_0 11 rfl rfl rfl) (zd_b zq_prog_7_method_5_code_0 12 rfl rfl rfl) (zd_b zq_prog_7_method_5_code_0 13 rfl rfl rfl)
theorem ln_La_36 : Cond.methodLink "Ironpour$Ladle" 36 Lib.Math.max.name ∈ z_gw := z_mj5 (i := 144) rfl (by decide +kernel)
theorem d_La_fadeFor_14 : decode prog_7_method_5_code 14 = .ok (.putfield 26, 3) := zo_181 (d := 0) (e := 26) (zd_b zq_prog_7_method_5_code_0 14 rfl rfl rfl) (zd_b zq_prog_7_method_5_code_0 15 rfl rfl rfl) (zd_b zq_prog_7_method_5_code_0 16 rfl rfl rfl)
theorem fp_La_26 : z_fp "Ironpour$Ladle" 26 5 1 false .int := ⟨R_La, "Ironpour$Ladle", F_La, 4, t_La, rfl, u_La, by decide, t_La_ok, n_La, rfl, rfl, Or.inl ⟨z_mj2 (i := 1) rfl (by decide +kernel), Or.inl rfl, fun h => nomatch h⟩⟩
theorem d_La_fadeFor_17 : decode prog_7_method_5_code 17 = .ok (.iconst 0, 1) := zo_3 (zd_b zq_prog_7_method_5_code_0 17 rfl rfl rfl)
theorem d_La_fadeFor_18 : decode prog_7_method_5_code 18 = .ok (.istore_n 2, 1) := zo_61 (zd_b zq_prog_7_method_5_code_0 18 rfl rfl rfl)
set_option maxHeartbeats 4000000 in
set_option maxRecDepth 100000 in
theorem L_La_fadeFor_19 (g : zG) (a ab abg : Nat) (gr : Nat → Int64) (he mg wd ir : Int32) (m : Nat) (hm : m < 1000) (w0 : zW) (n : Nat) : ∀ (d i : Nat), i ≤ m → m < i + d → DV g M_La_fadeFor (fun o cs1 => o = .inl none ∧ cs1 = [(a, .inr (5, [.ref ab, .int (if 20 < he - 4 * nI m then he - 4 * nI m else 20), .int (mgS mg m), .int wd])), (ab, .inr (6, [.ref abg, .int ir])), (abg, .inl (3, 4, .inr (.inl gr)))]) w0 n 19 [(2, .int (nI i)), (0, .ref a), (1, .int (nI m))] [] [(a, .inr (5, [.ref ab, .int (if 20 < he - 4 * nI m then he - 4 * nI m else 20), .int (mgS mg i), .int wd])), (ab, .inr (6, [.ref abg, .int ir])), (abg, .inl (3, 4, .inr (.inl gr)))] 0 0 := by
  intro d
  induction d with
  | zero => intro i h1 h2 ; exact absurd h2 (by omega)
  | succ d ih =>
    intro i h1 h2 
    refine r_iload_n d_La_fadeFor_19 rfl 0 rfl ?_
    refine r_iload_n d_La_fadeFor_20 rfl 2 rfl ?_
    refine r_icmp_ge (tgt := 49) d_La_fadeFor_21 (by decide) (fun c_21 => ?_) (fun c_21 => ?_)
    · have hn := z_le (by omega) (by omega) c_21
      have hv : i = m := by omega
      subst hv
      refine r_vret d_La_fadeFor_49 rfl ?_
      exact ⟨rfl, rfl⟩
    · have hn := z_nle (by omega) (by omega) c_21
      refine r_aload_n d_La_fadeFor_24 rfl 1 rfl ?_
      refine r_dup d_La_fadeFor_25 rfl ?_
      refine r_get fs_La_29 d_La_fadeFor_26 (q0 := 0) rfl rfl ?_
      refine r_aload_n d_La_fadeFor_29 rfl 1 rfl ?_
      refine r_get fs_La_29 d_La_fadeFor_30 (q0 := 0) rfl rfl ?_
      refine r_bipush d_La_fadeFor_33 (v := 19) (by decide) ?_
      refine r_iadd d_La_fadeFor_35 (v := (mgS mg i) + 19) rfl ?_
      refine r_bipush d_La_fadeFor_36 (v := 20) (by decide) ?_
      refine r_idiv d_La_fadeFor_38 (v := ((mgS mg i) + 19) / 20) (by decide) rfl ?_
      refine r_isub d_La_fadeFor_39 (v := (mgS mg i) - (((mgS mg i) + 19) / 20)) rfl ?_
      refine r_put fp_La_29 d_La_fadeFor_40 (fun h => nomatch h) rfl rfl (q0 := 0) rfl (Nat.le_of_ble_eq_true rfl) (cs' := [(a, .inr (5, [.ref ab, .int (if 20 < he - 4 * nI m then he - 4 * nI m else 20), .int ((mgS mg i) - (((mgS mg i) + 19) / 20)), .int wd])), (ab, .inr (6, [.ref abg, .int ir])), (abg, .inl (3, 4, .inr (.inl gr)))]) rfl ?_
      refine r_iinc (lv' := [(2, .int (nI (i + 1))), (0, .ref a), (1, .int (nI m))]) (v := nI (i + 1)) d_La_fadeFor_43 (j := 0) rfl (nI_add _ _) (by decide) rfl ?_
      refine r_goto (tgt := 19) d_La_fadeFor_46 (by decide) ?_
      refine r_lvE (lv2 := [(2, .int (nI (i + 1))), (0, .ref a), (1, .int (nI m))]) (rfl) ?_
      refine r_cs (cs2 := [(a, .inr (5, [.ref ab, .int (if 20 < he - 4 * nI m then he - 4 * nI m else 20), .int (mgS mg (i + 1)), .int wd])), (ab, .inr (6, [.ref abg, .int ir])), (abg, .inl (3, 4, .inr (.inl gr)))]) (rfl) ?_
      exact ih (i + 1) (by omega) (by omega)
set_option maxHeartbeats 4000000 in
set_option maxRecDepth 100000 in
theorem C_La_fadeFor (g : zG) (a ab abg : Nat) (gr : Nat → Int64) (he mg wd ir : Int32) (m : Nat) (hm : m < 1000) : CT g M_La_fadeFor [.ref a, .int (nI m)] [(a, .inr (5, [.ref ab, .int he, .int mg, .int wd])), (ab, .inr (6, [.ref abg, .int ir])), (abg, .inl (3, 4, .inr (.inl gr)))] (fun o cs1 => o = .inl none ∧ cs1 = [(a, .inr (5, [.ref ab, .int (if 20 < he - 4 * nI m then he - 4 * nI m else 20), .int (mgS mg m), .int wd])), (ab, .inr (6, [.ref abg, .int ir])), (abg, .inl (3, 4, .inr (.inl gr)))]) 0 0 := by
  refine z_of (by decide) rfl (Nat.le_of_ble_eq_true rfl) (fun w0 => ?_)
  refine r_lvE (lv2 := [(0, .ref a), (1, .int (nI m))]) rfl ?_
  refine r_aload_n d_La_fadeFor_0 rfl 0 rfl ?_
  refine r_bipush d_La_fadeFor_1 (v := 20) (by decide) ?_
  refine r_aload_n d_La_fadeFor_3 rfl 0 rfl ?_
  refine r_get fs_La_26 d_La_fadeFor_4 (q0 := 0) rfl rfl ?_
  refine r_iconst d_La_fadeFor_7 (v := 4) (by decide) ?_
  refine r_iload_n d_La_fadeFor_8 rfl 1 rfl ?_
  refine r_imul d_La_fadeFor_9 (v := 4 * nI m) rfl ?_
  refine r_isub d_La_fadeFor_10 (v := he - (4 * nI m)) rfl ?_
  refine r_max (v := (if 20 < he - (4 * nI m) then he - (4 * nI m) else 20)) ln_La_36 w_mmax w_mi w_cmax d_La_fadeFor_11 (by decide) (by decide) (Nat.le_of_ble_eq_true rfl) rfl ?_
  refine r_put fp_La_26 d_La_fadeFor_14 (fun h => nomatch h) rfl rfl (q0 := 0) rfl (Nat.le_of_ble_eq_true rfl) (cs' := [(a, .inr (5, [.ref ab, .int (if 20 < he - (4 * nI m) then he - (4 * nI m) else 20), .int mg, .int wd])), (ab, .inr (6, [.ref abg, .int ir])), (abg, .inl (3, 4, .inr (.inl gr)))]) rfl ?_
  refine r_iconst d_La_fadeFor_17 (v := 0) (by decide) ?_
  refine r_istore_n (lv' := [(2, .int 0), (0, .ref a), (1, .int (nI m))]) d_La_fadeFor_18 rfl (by decide) rfl ?_
  refine r_lvE (lv2 := [(2, .int (nI 0)), (0, .ref a), (1, .int (nI m))]) (rfl) ?_
  refine r_cs (cs2 := [(a, .inr (5, [.ref ab, .int (if 20 < he - 4 * nI m then he - 4 * nI m else 20), .int (mgS mg 0), .int wd])), (ab, .inr (6, [.ref abg, .int ir])), (abg, .inl (3, 4, .inr (.inl gr)))]) (rfl) ?_
  exact L_La_fadeFor_19 g a ab abg gr he mg wd ir m hm w0 _  (m + 1) 0 (Nat.zero_le _) (by omega)
end
