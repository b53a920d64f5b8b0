set_option maxHeartbeats 4000000 in
set_option maxRecDepth 100000 in
theorem L_Fz_pass_10 (g : zG) (a a1 a2 a3 a4 a5 a6 : Nat) (F1 F2 F3 F4 F5 F6 : Nat → Int32) (liq : Int32) (st : Int32) (w0 : zW) (n : Nat) : ∀ (d i : Nat), i ≤ 108 → 108 < i + d → DV g M_Fz_pass (fun o cs1 => o = .inl none ∧ cs1 = [(a, .inr (2, [.ref a1, .ref a2, .ref a3, .ref a4, .ref a5, .ref a6, .int ((stS (gnS F1 F5 F6 (fa_fill (fun _ => 0) F2 108) 108) st (F1, F3, F4, liq) 108).2.2.2)])), (a1, .inl (0, 108, .inl ((stS (gnS F1 F5 F6 (fa_fill (fun _ => 0) F2 108) 108) st (F1, F3, F4, liq) 108).1))), (a2, .inl (0, 108, .inl (gnS F1 F5 F6 (fa_fill (fun _ => 0) F2 108) 108))), (a3, .inl (0, 108, .inl ((stS (gnS F1 F5 F6 (fa_fill (fun _ => 0) F2 108) 108) st (F1, F3, F4, liq) 108).2.1))), (a4, .inl (0, 108, .inl ((stS (gnS F1 F5 F6 (fa_fill (fun _ => 0) F2 108) 108) st (F1, F3, F4, liq) 108).2.2.1))), (a5, .inl (0, 108, .inl F5)), (a6, .inl (0, 108, .inl F6))]) w0 n 10 [(2, .int (nI i)), (0, .ref a), (1, .int st)] [] [(a, .inr (2, [.ref a1, .ref a2, .ref a3, .ref a4, .ref a5, .ref a6, .int liq])), (a1, .inl (0, 108, .inl F1)), (a2, .inl (0, 108, .inl (gnS F1 F5 F6 (fa_fill (fun _ => 0) F2 108) i))), (a3, .inl (0, 108, .inl F3)), (a4, .inl (0, 108, .inl F4)), (a5, .inl (0, 108, .inl F5)), (a6, .inl (0, 108, .inl F6))] 0 0 := by
  intro d
  induction d with
  | zero => intro i h1 h2 ; exact absurd h2 (by omega)
  | succ d ih =>
    intro i h1 h2 
    refine r_iload_n d_Fz_pass_10 rfl 0 rfl ?_
    refine r_bipush d_Fz_pass_11 (v := 108) (by decide) ?_
    refine r_icmp_ge (tgt := 118) d_Fz_pass_13 (by decide) (fun c_13 => ?_) (fun c_13 => ?_)
    · have hn := z_le (a := 108) (by omega) (by decide) c_13
      obtain rfl : i = 108 := by omega
      refine r_iconst d_Fz_pass_118 (v := 0) (by decide) ?_
      refine r_istore_n (lv' := [(2, .int 0), (0, .ref a), (1, .int st)]) d_Fz_pass_119 rfl (by decide) rfl ?_
      refine r_lvE (lv2 := [(2, .int (nI 0)), (0, .ref a), (1, .int st)]) (rfl) ?_
      refine r_cs (cs2 := [(a, .inr (2, [.ref a1, .ref a2, .ref a3, .ref a4, .ref a5, .ref a6, .int ((stS (gnS F1 F5 F6 (fa_fill (fun _ => 0) F2 108) 108) st (F1, F3, F4, liq) 0).2.2.2)])), (a1, .inl (0, 108, .inl ((stS (gnS F1 F5 F6 (fa_fill (fun _ => 0) F2 108) 108) st (F1, F3, F4, liq) 0).1))), (a2, .inl (0, 108, .inl (gnS F1 F5 F6 (fa_fill (fun _ => 0) F2 108) 108))), (a3, .inl (0, 108, .inl ((stS (gnS F1 F5 F6 (fa_fill (fun _ => 0) F2 108) 108) st (F1, F3, F4, liq) 0).2.1))), (a4, .inl (0, 108, .inl ((stS (gnS F1 F5 F6 (fa_fill (fun _ => 0) F2 108) 108) st (F1, F3, F4, liq) 0).2.2.1))), (a5, .inl (0, 108, .inl F5)), (a6, .inl (0, 108, .inl F6))]) (rfl) ?_
      exact L_Fz_pass_120 g a a1 a2 a3 a4 a5 a6 F1 F2 F3 F4 F5 F6 liq st w0 _  (108 + 1) 0 (Nat.zero_le _) (by omega)
    · have hn := z_nle (a := 108) (by omega) (by decide) c_13
      refine r_iload_n d_Fz_pass_16 rfl 0 rfl ?_
      refine r_bipush d_Fz_pass_17 (v := 12) (by decide) ?_
      refine r_irem d_Fz_pass_19 (v := nI (i % 12)) (by decide) (nI_mod12 (by omega)) ?_
      refine r_istore_n (lv' := [(3, .int (nI (i % 12))), (2, .int (nI i)), (0, .ref a), (1, .int st)]) d_Fz_pass_20 rfl (by decide) rfl ?_
      refine r_iload_n d_Fz_pass_21 rfl 0 rfl ?_
      refine r_bipush d_Fz_pass_22 (v := 11) (by decide) ?_
      refine r_icmp_ge (tgt := 41) d_Fz_pass_24 (by decide) (fun c_24 => ?_) (fun c_24 => ?_)
      · have qa : ¬ i % 12 < 11 := Nat.not_lt.mpr (z_le (a := 11) (by omega) (by decide) c_24)
        refine r_iload_n d_Fz_pass_41 rfl 1 rfl ?_
        refine r_bipush d_Fz_pass_42 (v := 96) (by decide) ?_
        refine r_icmp_ge (tgt := 62) d_Fz_pass_44 (by decide) (fun c_44 => ?_) (fun c_44 => ?_)
        · have qb : ¬ i < 96 := Nat.not_lt.mpr (z_le (a := 96) (by omega) (by decide) c_44)
          refine r_iload_n d_Fz_pass_62 rfl 0 rfl ?_
          refine r_if_eq (tgt := 72) d_Fz_pass_63 (by decide) (fun c_63 => ?_) (fun c_63 => ?_)
          · have qc : i % 12 = 0 ∨ i % 12 = 11 := Or.inl (z_eqn (b := 0) (by omega) (by decide) c_63)
            refine r_aload_n d_Fz_pass_72 rfl 2 rfl ?_
            refine r_get fs_Fz_15 d_Fz_pass_73 (q0 := 0) rfl rfl ?_
            refine r_iload_n d_Fz_pass_76 rfl 1 rfl ?_
            refine r_dup2_11 d_Fz_pass_77 rfl rfl ?_
            refine r_iald d_Fz_pass_78 (q0 := 2) rfl (vp_in_nI (by omega) (by omega)) (v := (gnS F1 F5 F6 (fa_fill (fun _ => 0) F2 108) i) i) (by rw [nI_clamp (by omega)]) ?_
            refine r_aload_n d_Fz_pass_79 rfl 2 rfl ?_
            refine r_iload_n d_Fz_pass_80 rfl 1 rfl ?_
            refine r_callV (As := [.int (nI i)]) (rest := [.int ((gnS F1 F5 F6 (fa_fill (fun _ => 0) F2 108) i) i), .int (nI i), .ref a2]) (csC := [(a, .inr (2, [.ref a1, .ref a2, .ref a3, .ref a4, .ref a5, .ref a6, .int liq])), (a1, .inl (0, 108, .inl F1)), (a2, .inl (0, 108, .inl (gnS F1 F5 F6 (fa_fill (fun _ => 0) F2 108) i))), (a3, .inl (0, 108, .inl F3)), (a4, .inl (0, 108, .inl F4)), (a5, .inl (0, 108, .inl F5)), (a6, .inl (0, 108, .inl F6))]) (is := [0, 1, 2, 3, 4, 5, 6]) (q0 := 0) rfl rfl ln_Fz_58 w_im_Fz_flowFromBeyond w_se_Fz_flowFromBeyond ok_Fz_pass_Fz_flowFromBeyond d_Fz_pass_81 (C_Fz_flow g a a1 a2 a3 a4 a5 a6 F1 (gnS F1 F5 F6 (fa_fill (fun _ => 0) F2 108) i) F3 F4 F5 F6 liq i (by omega)) rfl rfl (Nat.le_of_ble_eq_true rfl) rfl (by decide) (by omega) (by omega) (fun E cs1 hx => ?_) (fun v cs1 hx => ?_)
            · exact absurd hx.1 (by simp)
            · obtain ⟨e1, rfl⟩ := hx
              cases e1
              refine ⟨rfl, ?_⟩
              refine r_st (st2 := [.int (flS F1 i), .int ((gnS F1 F5 F6 (fa_fill (fun _ => 0) F2 108) i) i), .int (nI i), .ref a2]) rfl ?_
              refine r_cs (cs2 := [(a, .inr (2, [.ref a1, .ref a2, .ref a3, .ref a4, .ref a5, .ref a6, .int liq])), (a1, .inl (0, 108, .inl F1)), (a2, .inl (0, 108, .inl (gnS F1 F5 F6 (fa_fill (fun _ => 0) F2 108) i))), (a3, .inl (0, 108, .inl F3)), (a4, .inl (0, 108, .inl F4)), (a5, .inl (0, 108, .inl F5)), (a6, .inl (0, 108, .inl F6))]) rfl ?_
              refine r_iadd d_Fz_pass_84 (v := ((gnS F1 F5 F6 (fa_fill (fun _ => 0) F2 108) i) i) + (flS F1 i)) rfl ?_
              refine r_iast d_Fz_pass_85 (q0 := 2) rfl (vp_in_nI (by omega) (by omega)) (f' := upd (gnS F1 F5 F6 (fa_fill (fun _ => 0) F2 108) i) i (((gnS F1 F5 F6 (fa_fill (fun _ => 0) F2 108) i) i) + (flS F1 i))) (by rw [nI_clamp (by omega)]) (cs' := [(a, .inr (2, [.ref a1, .ref a2, .ref a3, .ref a4, .ref a5, .ref a6, .int liq])), (a1, .inl (0, 108, .inl F1)), (a2, .inl (0, 108, .inl (upd (gnS F1 F5 F6 (fa_fill (fun _ => 0) F2 108) i) i (((gnS F1 F5 F6 (fa_fill (fun _ => 0) F2 108) i) i) + (flS F1 i))))), (a3, .inl (0, 108, .inl F3)), (a4, .inl (0, 108, .inl F4)), (a5, .inl (0, 108, .inl F5)), (a6, .inl (0, 108, .inl F6))]) rfl ?_
              refine r_iload_n d_Fz_pass_86 rfl 1 rfl ?_
              refine r_bipush d_Fz_pass_87 (v := 12) (by decide) ?_
              refine r_icmp_lt (tgt := 98) d_Fz_pass_89 (by decide) (fun c_89 => ?_) (fun c_89 => ?_)
              · have qd : i < 12 ∨ 96 ≤ i := Or.inl (z_lt (b := 12) (by decide) (by omega) c_89)
                refine r_aload_n d_Fz_pass_98 rfl 2 rfl ?_
                refine r_get fs_Fz_15 d_Fz_pass_99 (q0 := 0) rfl rfl ?_
                refine r_iload_n d_Fz_pass_102 rfl 1 rfl ?_
                refine r_dup2_11 d_Fz_pass_103 rfl rfl ?_
                refine r_iald d_Fz_pass_104 (q0 := 2) rfl (vp_in_nI (by omega) (by omega)) (v := (upd (gnS F1 F5 F6 (fa_fill (fun _ => 0) F2 108) i) i (((gnS F1 F5 F6 (fa_fill (fun _ => 0) F2 108) i) i) + (flS F1 i))) i) (by rw [nI_clamp (by omega)]) ?_
                refine r_aload_n d_Fz_pass_105 rfl 2 rfl ?_
                refine r_iload_n d_Fz_pass_106 rfl 1 rfl ?_
                refine r_callV (As := [.int (nI i)]) (rest := [.int ((upd (gnS F1 F5 F6 (fa_fill (fun _ => 0) F2 108) i) i (((gnS F1 F5 F6 (fa_fill (fun _ => 0) F2 108) i) i) + (flS F1 i))) i), .int (nI i), .ref a2]) (csC := [(a, .inr (2, [.ref a1, .ref a2, .ref a3, .ref a4, .ref a5, .ref a6, .int liq])), (a1, .inl (0, 108, .inl F1)), (a2, .inl (0, 108, .inl (upd (gnS F1 F5 F6 (fa_fill (fun _ => 0) F2 108) i) i (((gnS F1 F5 F6 (fa_fill (fun _ => 0) F2 108) i) i) + (flS F1 i))))), (a3, .inl (0, 108, .inl F3)), (a4, .inl (0, 108, .inl F4)), (a5, .inl (0, 108, .inl F5)), (a6, .inl (0, 108, .inl F6))]) (is := [0, 1, 2, 3, 4, 5, 6]) (q0 := 0) rfl rfl ln_Fz_58 w_im_Fz_flowFromBeyond w_se_Fz_flowFromBeyond ok_Fz_pass_Fz_flowFromBeyond d_Fz_pass_107 (C_Fz_flow g a a1 a2 a3 a4 a5 a6 F1 (upd (gnS F1 F5 F6 (fa_fill (fun _ => 0) F2 108) i) i (((gnS F1 F5 F6 (fa_fill (fun _ => 0) F2 108) i) i) + (flS F1 i))) F3 F4 F5 F6 liq i (by omega)) rfl rfl (Nat.le_of_ble_eq_true rfl) rfl (by decide) (by omega) (by omega) (fun E cs1 hx => ?_) (fun v cs1 hx => ?_)
                · exact absurd hx.1 (by simp)
                · obtain ⟨e1, rfl⟩ := hx
                  cases e1
                  refine ⟨rfl, ?_⟩
                  refine r_st (st2 := [.int (flS F1 i), .int ((upd (gnS F1 F5 F6 (fa_fill (fun _ => 0) F2 108) i) i (((gnS F1 F5 F6 (fa_fill (fun _ => 0) F2 108) i) i) + (flS F1 i))) i), .int (nI i), .ref a2]) rfl ?_
                  refine r_cs (cs2 := [(a, .inr (2, [.ref a1, .ref a2, .ref a3, .ref a4, .ref a5, .ref a6, .int liq])), (a1, .inl (0, 108, .inl F1)), (a2, .inl (0, 108, .inl (upd (gnS F1 F5 F6 (fa_fill (fun _ => 0) F2 108) i) i (((gnS F1 F5 F6 (fa_fill (fun _ => 0) F2 108) i) i) + (flS F1 i))))), (a3, .inl (0, 108, .inl F3)), (a4, .inl (0, 108, .inl F4)), (a5, .inl (0, 108, .inl F5)), (a6, .inl (0, 108, .inl F6))]) rfl ?_
                  refine r_iadd d_Fz_pass_110 (v := ((upd (gnS F1 F5 F6 (fa_fill (fun _ => 0) F2 108) i) i (((gnS F1 F5 F6 (fa_fill (fun _ => 0) F2 108) i) i) + (flS F1 i))) i) + (flS F1 i)) rfl ?_
                  refine r_iast d_Fz_pass_111 (q0 := 2) rfl (vp_in_nI (by omega) (by omega)) (f' := upd (upd (gnS F1 F5 F6 (fa_fill (fun _ => 0) F2 108) i) i (((gnS F1 F5 F6 (fa_fill (fun _ => 0) F2 108) i) i) + (flS F1 i))) i (((upd (gnS F1 F5 F6 (fa_fill (fun _ => 0) F2 108) i) i (((gnS F1 F5 F6 (fa_fill (fun _ => 0) F2 108) i) i) + (flS F1 i))) i) + (flS F1 i))) (by rw [nI_clamp (by omega)]) (cs' := [(a, .inr (2, [.ref a1, .ref a2, .ref a3, .ref a4, .ref a5, .ref a6, .int liq])), (a1, .inl (0, 108, .inl F1)), (a2, .inl (0, 108, .inl (upd (upd (gnS F1 F5 F6 (fa_fill (fun _ => 0) F2 108) i) i (((gnS F1 F5 F6 (fa_fill (fun _ => 0) F2 108) i) i) + (flS F1 i))) i (((upd (gnS F1 F5 F6 (fa_fill (fun _ => 0) F2 108) i) i (((gnS F1 F5 F6 (fa_fill (fun _ => 0) F2 108) i) i) + (flS F1 i))) i) + (flS F1 i))))), (a3, .inl (0, 108, .inl F3)), (a4, .inl (0, 108, .inl F4)), (a5, .inl (0, 108, .inl F5)), (a6, .inl (0, 108, .inl F6))]) rfl ?_
                  refine r_iinc (lv' := [(2, .int (nI (i + 1))), (3, .int (nI (i % 12))), (0, .ref a), (1, .int st)]) (v := nI (i + 1)) d_Fz_pass_112 (j := 1) rfl (nI_add _ _) (by decide) rfl ?_
                  refine r_goto (tgt := 10) d_Fz_pass_115 (by decide) ?_
                  refine r_lv (lv' := [(2, .int (nI (i + 1))), (0, .ref a), (1, .int st)]) [0, 2, 3] rfl ?_
                  refine r_lvE (lv2 := [(2, .int (nI (i + 1))), (0, .ref a), (1, .int st)]) (rfl) ?_
                  refine r_cs (cs2 := [(a, .inr (2, [.ref a1, .ref a2, .ref a3, .ref a4, .ref a5, .ref a6, .int liq])), (a1, .inl (0, 108, .inl F1)), (a2, .inl (0, 108, .inl (gnS F1 F5 F6 (fa_fill (fun _ => 0) F2 108) (i + 1)))), (a3, .inl (0, 108, .inl F3)), (a4, .inl (0, 108, .inl F4)), (a5, .inl (0, 108, .inl F5)), (a6, .inl (0, 108, .inl F6))]) (by simp only [gnS, psA, psB, psC, psD, qa, qb, qc, qd, if_true, if_false]) ?_
                  exact ih (i + 1) (by omega) (by omega)
              · have q1 := z_nlt (b := 12) (by decide) (by omega) c_89
                refine r_iload_n d_Fz_pass_92 rfl 1 rfl ?_
                refine r_bipush d_Fz_pass_93 (v := 96) (by decide) ?_
                refine r_icmp_lt (tgt := 112) d_Fz_pass_95 (by decide) (fun c_95 => ?_) (fun c_95 => ?_)
                · have q2 := z_lt (b := 96) (by decide) (by omega) c_95
                  have qd : ¬ (i < 12 ∨ 96 ≤ i) := by omega
                  refine r_iinc (lv' := [(2, .int (nI (i + 1))), (3, .int (nI (i % 12))), (0, .ref a), (1, .int st)]) (v := nI (i + 1)) d_Fz_pass_112 (j := 1) rfl (nI_add _ _) (by decide) rfl ?_
                  refine r_goto (tgt := 10) d_Fz_pass_115 (by decide) ?_
                  refine r_lv (lv' := [(2, .int (nI (i + 1))), (0, .ref a), (1, .int st)]) [0, 2, 3] rfl ?_
                  refine r_lvE (lv2 := [(2, .int (nI (i + 1))), (0, .ref a), (1, .int st)]) (rfl) ?_
                  refine r_cs (cs2 := [(a, .inr (2, [.ref a1, .ref a2, .ref a3, .ref a4, .ref a5, .ref a6, .int liq])), (a1, .inl (0, 108, .inl F1)), (a2, .inl (0, 108, .inl (gnS F1 F5 F6 (fa_fill (fun _ => 0) F2 108) (i + 1)))), (a3, .inl (0, 108, .inl F3)), (a4, .inl (0, 108, .inl F4)), (a5, .inl (0, 108, .inl F5)), (a6, .inl (0, 108, .inl F6))]) (by simp only [gnS, psA, psB, psC, psD, qa, qb, qc, qd, if_true, if_false]) ?_
                  exact ih (i + 1) (by omega) (by omega)
                · have qd : i < 12 ∨ 96 ≤ i := Or.inr (z_nlt (b := 96) (by decide) (by omega) c_95)
                  refine r_aload_n d_Fz_pass_98 rfl 2 rfl ?_
                  refine r_get fs_Fz_15 d_Fz_pass_99 (q0 := 0) rfl rfl ?_
                  refine r_iload_n d_Fz_pass_102 rfl 1 rfl ?_
                  refine r_dup2_11 d_Fz_pass_103 rfl rfl ?_
                  refine r_iald d_Fz_pass_104 (q0 := 2) rfl (vp_in_nI (by omega) (by omega)) (v := (upd (gnS F1 F5 F6 (fa_fill (fun _ => 0) F2 108) i) i (((gnS F1 F5 F6 (fa_fill (fun _ => 0) F2 108) i) i) + (flS F1 i))) i) (by rw [nI_clamp (by omega)]) ?_
                  refine r_aload_n d_Fz_pass_105 rfl 2 rfl ?_
                  refine r_iload_n d_Fz_pass_106 rfl 1 rfl ?_
                  refine r_callV (As := [.int (nI i)]) (rest := [.int ((upd (gnS F1 F5 F6 (fa_fill (fun _ => 0) F2 108) i) i (((gnS F1 F5 F6 (fa_fill (fun _ => 0) F2 108) i) i) + (flS F1 i))) i), .int (nI i), .ref a2]) (csC := [(a, .inr (2, [.ref a1, .ref a2, .ref a3, .ref a4, .ref a5, .ref a6, .int liq])), (a1, .inl (0, 108, .inl F1)), (a2, .inl (0, 108, .inl (upd (gnS F1 F5 F6 (fa_fill (fun _ => 0) F2 108) i) i (((gnS F1 F5 F6 (fa_fill (fun _ => 0) F2 108) i) i) + (flS F1 i))))), (a3, .inl (0, 108, .inl F3)), (a4, .inl (0, 108, .inl F4)), (a5, .inl (0, 108, .inl F5)), (a6, .inl (0, 108, .inl F6))]) (is := [0, 1, 2, 3, 4, 5, 6]) (q0 := 0) rfl rfl ln_Fz_58 w_im_Fz_flowFromBeyond w_se_Fz_flowFromBeyond ok_Fz_pass_Fz_flowFromBeyond d_Fz_pass_107 (C_Fz_flow g a a1 a2 a3 a4 a5 a6 F1 (upd (gnS F1 F5 F6 (fa_fill (fun _ => 0) F2 108) i) i (((gnS F1 F5 F6 (fa_fill (fun _ => 0) F2 108) i) i) + (flS F1 i))) F3 F4 F5 F6 liq i (by omega)) rfl rfl (Nat.le_of_ble_eq_true rfl) rfl (by decide) (by omega) (by omega) (fun E cs1 hx => ?_) (fun v cs1 hx => ?_)
                  · exact absurd hx.1 (by simp)
                  · obtain ⟨e1, rfl⟩ := hx
                    cases e1
                    refine ⟨rfl, ?_⟩
                    refine r_st (st2 := [.int (flS F1 i), .int ((upd (gnS F1 F5 F6 (fa_fill (fun _ => 0) F2 108) i) i (((gnS F1 F5 F6 (fa_fill (fun _ => 0) F2 108) i) i) + (flS F1 i))) i), .int (nI i), .ref a2]) rfl ?_
                    refine r_cs (cs2 := [(a, .inr (2, [.ref a1, .ref a2, .ref a3, .ref a4, .ref a5, .ref a6, .int liq])), (a1, .inl (0, 108, .inl F1)), (a2, .inl (0, 108, .inl (upd (gnS F1 F5 F6 (fa_fill (fun _ => 0) F2 108) i) i (((gnS F1 F5 F6 (fa_fill (fun _ => 0) F2 108) i) i) + (flS F1 i))))), (a3, .inl (0, 108, .inl F3)), (a4, .inl (0, 108, .inl F4)), (a5, .inl (0, 108, .inl F5)), (a6, .inl (0, 108, .inl F6))]) rfl ?_
                    refine r_iadd d_Fz_pass_110 (v := ((upd (gnS F1 F5 F6 (fa_fill (fun _ => 0) F2 108) i) i (((gnS F1 F5 F6 (fa_fill (fun _ => 0) F2 108) i) i) + (flS F1 i))) i) + (flS F1 i)) rfl ?_
                    refine r_iast d_Fz_pass_111 (q0 := 2) rfl (vp_in_nI (by omega) (by omega)) (f' := upd (upd (gnS F1 F5 F6 (fa_fill (fun _ => 0) F2 108) i) i (((gnS F1 F5 F6 (fa_fill (fun _ => 0) F2 108) i) i) + (flS F1 i))) i (((upd (gnS F1 F5 F6 (fa_fill (fun _ => 0) F2 108) i) i (((gnS F1 F5 F6 (fa_fill (fun _ => 0) F2 108) i) i) + (flS F1 i))) i) + (flS F1 i))) (by rw [nI_clamp (by omega)]) (cs' := [(a, .inr (2, [.ref a1, .ref a2, .ref a3, .ref a4, .ref a5, .ref a6, .int liq])), (a1, .inl (0, 108, .inl F1)), (a2, .inl (0, 108, .inl (upd (upd (gnS F1 F5 F6 (fa_fill (fun _ => 0) F2 108) i) i (((gnS F1 F5 F6 (fa_fill (fun _ => 0) F2 108) i) i) + (flS F1 i))) i (((upd (gnS F1 F5 F6 (fa_fill (fun _ => 0) F2 108) i) i (((gnS F1 F5 F6 (fa_fill (fun _ => 0) F2 108) i) i) + (flS F1 i))) i) + (flS F1 i))))), (a3, .inl (0, 108, .inl F3)), (a4, .inl (0, 108, .inl F4)), (a5, .inl (0, 108, .inl F5)), (a6, .inl (0, 108, .inl F6))]) rfl ?_
                    refine r_iinc (lv' := [(2, .int (nI (i + 1))), (3, .int (nI (i % 12))), (0, .ref a), (1, .int st)]) (v := nI (i + 1)) d_Fz_pass_112 (j := 1) rfl (nI_add _ _) (by decide) rfl ?_
                    refine r_goto (tgt := 10) d_Fz_pass_115 (by decide) ?_
                    refine r_lv (lv' := [(2, .int (nI (i + 1))), (0, .ref a), (1, .int st)]) [0, 2, 3] rfl ?_
                    refine r_lvE (lv2 := [(2, .int (nI (i + 1))), (0, .ref a), (1, .int st)]) (rfl) ?_
                    refine r_cs (cs2 := [(a, .inr (2, [.ref a1, .ref a2, .ref a3, .ref a4, .ref a5, .ref a6, .int liq])), (a1, .inl (0, 108, .inl F1)), (a2, .inl (0, 108, .inl (gnS F1 F5 F6 (fa_fill (fun _ => 0) F2 108) (i + 1)))), (a3, .inl (0, 108, .inl F3)), (a4, .inl (0, 108, .inl F4)), (a5, .inl (0, 108, .inl F5)), (a6, .inl (0, 108, .inl F6))]) (by simp only [gnS, psA, psB, psC, psD, qa, qb, qc, qd, if_true, if_false]) ?_
                    exact ih (i + 1) (by omega) (by omega)
          · have q0 : ¬ i % 12 = 0 := z_nen (b := 0) (by omega) (by decide) c_63
            refine r_iload_n d_Fz_pass_66 rfl 0 rfl ?_
            refine r_bipush d_Fz_pass_67 (v := 11) (by decide) ?_
            refine r_icmp_ne (tgt := 86) d_Fz_pass_69 (by decide) (fun c_69 => ?_) (fun c_69 => ?_)
            · have qc : ¬ (i % 12 = 0 ∨ i % 12 = 11) := fun h => h.elim q0 (z_nen (b := 11) (by omega) (by decide) c_69)
              refine r_iload_n d_Fz_pass_86 rfl 1 rfl ?_
              refine r_bipush d_Fz_pass_87 (v := 12) (by decide) ?_
              refine r_icmp_lt (tgt := 98) d_Fz_pass_89 (by decide) (fun c_89 => ?_) (fun c_89 => ?_)
              · have qd : i < 12 ∨ 96 ≤ i := Or.inl (z_lt (b := 12) (by decide) (by omega) c_89)
                refine r_aload_n d_Fz_pass_98 rfl 2 rfl ?_
                refine r_get fs_Fz_15 d_Fz_pass_99 (q0 := 0) rfl rfl ?_
                refine r_iload_n d_Fz_pass_102 rfl 1 rfl ?_
                refine r_dup2_11 d_Fz_pass_103 rfl rfl ?_
                refine r_iald d_Fz_pass_104 (q0 := 2) rfl (vp_in_nI (by omega) (by omega)) (v := (gnS F1 F5 F6 (fa_fill (fun _ => 0) F2 108) i) i) (by rw [nI_clamp (by omega)]) ?_
                refine r_aload_n d_Fz_pass_105 rfl 2 rfl ?_
                refine r_iload_n d_Fz_pass_106 rfl 1 rfl ?_
                refine r_callV (As := [.int (nI i)]) (rest := [.int ((gnS F1 F5 F6 (fa_fill (fun _ => 0) F2 108) i) i), .int (nI i), .ref a2]) (csC := [(a, .inr (2, [.ref a1, .ref a2, .ref a3, .ref a4, .ref a5, .ref a6, .int liq])), (a1, .inl (0, 108, .inl F1)), (a2, .inl (0, 108, .inl (gnS F1 F5 F6 (fa_fill (fun _ => 0) F2 108) i))), (a3, .inl (0, 108, .inl F3)), (a4, .inl (0, 108, .inl F4)), (a5, .inl (0, 108, .inl F5)), (a6, .inl (0, 108, .inl F6))]) (is := [0, 1, 2, 3, 4, 5, 6]) (q0 := 0) rfl rfl ln_Fz_58 w_im_Fz_flowFromBeyond w_se_Fz_flowFromBeyond ok_Fz_pass_Fz_flowFromBeyond d_Fz_pass_107 (C_Fz_flow g a a1 a2 a3 a4 a5 a6 F1 (gnS F1 F5 F6 (fa_fill (fun _ => 0) F2 108) i) F3 F4 F5 F6 liq i (by omega)) rfl rfl (Nat.le_of_ble_eq_true rfl) rfl (by decide) (by omega) (by omega) (fun E cs1 hx => ?_) (fun v cs1 hx => ?_)
                · exact absurd hx.1 (by simp)
                · obtain ⟨e1, rfl⟩ := hx
                  cases e1
                  refine ⟨rfl, ?_⟩
                  refine r_st (st2 := [.int (flS F1 i), .int ((gnS F1 F5 F6 (fa_fill (fun _ => 0) F2 108) i) i), .int (nI i), .ref a2]) rfl ?_
                  refine r_cs (cs2 := [(a, .inr (2, [.ref a1, .ref a2, .ref a3, .ref a4, .ref a5, .ref a6, .int liq])), (a1, .inl (0, 108, .inl F1)), (a2, .inl (0, 108, .inl (gnS F1 F5 F6 (fa_fill (fun _ => 0) F2 108) i))), (a3, .inl (0, 108, .inl F3)), (a4, .inl (0, 108, .inl F4)), (a5, .inl (0, 108, .inl F5)), (a6, .inl (0, 108, .inl F6))]) rfl ?_
                  refine r_iadd d_Fz_pass_110 (v := ((gnS F1 F5 F6 (fa_fill (fun _ => 0) F2 108) i) i) + (flS F1 i)) rfl ?_
                  refine r_iast d_Fz_pass_111 (q0 := 2) rfl (vp_in_nI (by omega) (by omega)) (f' := upd (gnS F1 F5 F6 (fa_fill (fun _ => 0) F2 108) i) i (((gnS F1 F5 F6 (fa_fill (fun _ => 0) F2 108) i) i) + (flS F1 i))) (by rw [nI_clamp (by omega)]) (cs' := [(a, .inr (2, [.ref a1, .ref a2, .ref a3, .ref a4, .ref a5, .ref a6, .int liq])), (a1, .inl (0, 108, .inl F1)), (a2, .inl (0, 108, .inl (upd (gnS F1 F5 F6 (fa_fill (fun _ => 0) F2 108) i) i (((gnS F1 F5 F6 (fa_fill (fun _ => 0) F2 108) i) i) + (flS F1 i))))), (a3, .inl (0, 108, .inl F3)), (a4, .inl (0, 108, .inl F4)), (a5, .inl (0, 108, .inl F5)), (a6, .inl (0, 108, .inl F6))]) rfl ?_
                  refine r_iinc (lv' := [(2, .int (nI (i + 1))), (3, .int (nI (i % 12))), (0, .ref a), (1, .int st)]) (v := nI (i + 1)) d_Fz_pass_112 (j := 1) rfl (nI_add _ _) (by decide) rfl ?_
                  refine r_goto (tgt := 10) d_Fz_pass_115 (by decide) ?_
                  refine r_lv (lv' := [(2, .int (nI (i + 1))), (0, .ref a), (1, .int st)]) [0, 2, 3] rfl ?_
                  refine r_lvE (lv2 := [(2, .int (nI (i + 1))), (0, .ref a), (1, .int st)]) (rfl) ?_
                  refine r_cs (cs2 := [(a, .inr (2, [.ref a1, .ref a2, .ref a3, .ref a4, .ref a5, .ref a6, .int liq])), (a1, .inl (0, 108, .inl F1)), (a2, .inl (0, 108, .inl (gnS F1 F5 F6 (fa_fill (fun _ => 0) F2 108) (i + 1)))), (a3, .inl (0, 108, .inl F3)), (a4, .inl (0, 108, .inl F4)), (a5, .inl (0, 108, .inl F5)), (a6, .inl (0, 108, .inl F6))]) (by simp only [gnS, psA, psB, psC, psD, qa, qb, qc, qd, if_true, if_false]) ?_
                  exact ih (i + 1) (by omega) (by omega)
              · have q1 := z_nlt (b := 12) (by decide) (by omega) c_89
                refine r_iload_n d_Fz_pass_92 rfl 1 rfl ?_
                refine r_bipush d_Fz_pass_93 (v := 96) (by decide) ?_
                refine r_icmp_lt (tgt := 112) d_Fz_pass_95 (by decide) (fun c_95 => ?_) (fun c_95 => ?_)
                · have q2 := z_lt (b := 96) (by decide) (by omega) c_95
                  have qd : ¬ (i < 12 ∨ 96 ≤ i) := by omega
                  refine r_iinc (lv' := [(2, .int (nI (i + 1))), (3, .int (nI (i % 12))), (0, .ref a), (1, .int st)]) (v := nI (i + 1)) d_Fz_pass_112 (j := 1) rfl (nI_add _ _) (by decide) rfl ?_
                  refine r_goto (tgt := 10) d_Fz_pass_115 (by decide) ?_
                  refine r_lv (lv' := [(2, .int (nI (i + 1))), (0, .ref a), (1, .int st)]) [0, 2, 3] rfl ?_
                  refine r_lvE (lv2 := [(2, .int (nI (i + 1))), (0, .ref a), (1, .int st)]) (rfl) ?_
                  refine r_cs (cs2 := [(a, .inr (2, [.ref a1, .ref a2, .ref a3, .ref a4, .ref a5, .ref a6, .int liq])), (a1, .inl (0, 108, .inl F1)), (a2, .inl (0, 108, .inl (gnS F1 F5 F6 (fa_fill (fun _ => 0) F2 108) (i + 1)))), (a3, .inl (0, 108, .inl F3)), (a4, .inl (0, 108, .inl F4)), (a5, .inl (0, 108, .inl F5)), (a6, .inl (0, 108, .inl F6))]) (by simp only [gnS, psA, psB, psC, psD, qa, qb, qc, qd, if_true, if_false]) ?_
                  exact ih (i + 1) (by omega) (by omega)
                · have qd : i < 12 ∨ 96 ≤ i := Or.inr (z_nlt (b := 96) (by decide) (by omega) c_95)
                  refine r_aload_n d_Fz_pass_98 rfl 2 rfl ?_
                  refine r_get fs_Fz_15 d_Fz_pass_99 (q0 := 0) rfl rfl ?_
                  refine r_iload_n d_Fz_pass_102 rfl 1 rfl ?_
                  refine r_dup2_11 d_Fz_pass_103 rfl rfl ?_
                  refine r_iald d_Fz_pass_104 (q0 := 2) rfl (vp_in_nI (by omega) (by omega)) (v := (gnS F1 F5 F6 (fa_fill (fun _ => 0) F2 108) i) i) (by rw [nI_clamp (by omega)]) ?_
                  refine r_aload_n d_Fz_pass_105 rfl 2 rfl ?_
                  refine r_iload_n d_Fz_pass_106 rfl 1 rfl ?_
                  refine r_callV (As := [.int (nI i)]) (rest := [.int ((gnS F1 F5 F6 (fa_fill (fun _ => 0) F2 108) i) i), .int (nI i), .ref a2]) (csC := [(a, .inr (2, [.ref a1, .ref a2, .ref a3, .ref a4, .ref a5, .ref a6, .int liq])), (a1, .inl (0, 108, .inl F1)), (a2, .inl (0, 108, .inl (gnS F1 F5 F6 (fa_fill (fun _ => 0) F2 108) i))), (a3, .inl (0, 108, .inl F3)), (a4, .inl (0, 108, .inl F4)), (a5, .inl (0, 108, .inl F5)), (a6, .inl (0, 108, .inl F6))]) (is := [0, 1, 2, 3, 4, 5, 6]) (q0 := 0) rfl rfl ln_Fz_58 w_im_Fz_flowFromBeyond w_se_Fz_flowFromBeyond ok_Fz_pass_Fz_flowFromBeyond d_Fz_pass_107 (C_Fz_flow g a a1 a2 a3 a4 a5 a6 F1 (gnS F1 F5 F6 (fa_fill (fun _ => 0) F2 108) i) F3 F4 F5 F6 liq i (by omega)) rfl rfl (Nat.le_of_ble_eq_true rfl) rfl (by decide) (by omega) (by omega) (fun E cs1 hx => ?_) (fun v cs1 hx => ?_)
                  · exact absurd hx.1 (by simp)
                  · obtain ⟨e1, rfl⟩ := hx
                    cases e1
                    refine ⟨rfl, ?_⟩
                    refine r_st (st2 := [.int (flS F1 i), .int ((gnS F1 F5 F6 (fa_fill (fun _ => 0) F2 108) i) i), .int (nI i), .ref a2]) rfl ?_
                    refine r_cs (cs2 := [(a, .inr (2, [.ref a1, .ref a2, .ref a3, .ref a4, .ref a5, .ref a6, .int liq])), (a1, .inl (0, 108, .inl F1)), (a2, .inl (0, 108, .inl (gnS F1 F5 F6 (fa_fill (fun _ => 0) F2 108) i))), (a3, .inl (0, 108, .inl F3)), (a4, .inl (0, 108, .inl F4)), (a5, .inl (0, 108, .inl F5)), (a6, .inl (0, 108, .inl F6))]) rfl ?_
                    refine r_iadd d_Fz_pass_110 (v := ((gnS F1 F5 F6 (fa_fill (fun _ => 0) F2 108) i) i) + (flS F1 i)) rfl ?_
                    refine r_iast d_Fz_pass_111 (q0 := 2) rfl (vp_in_nI (by omega) (by omega)) (f' := upd (gnS F1 F5 F6 (fa_fill (fun _ => 0) F2 108) i) i (((gnS F1 F5 F6 (fa_fill (fun _ => 0) F2 108) i) i) + (flS F1 i))) (by rw [nI_clamp (by omega)]) (cs' := [(a, .inr (2, [.ref a1, .ref a2, .ref a3, .ref a4, .ref a5, .ref a6, .int liq])), (a1, .inl (0, 108, .inl F1)), (a2, .inl (0, 108, .inl (upd (gnS F1 F5 F6 (fa_fill (fun _ => 0) F2 108) i) i (((gnS F1 F5 F6 (fa_fill (fun _ => 0) F2 108) i) i) + (flS F1 i))))), (a3, .inl (0, 108, .inl F3)), (a4, .inl (0, 108, .inl F4)), (a5, .inl (0, 108, .inl F5)), (a6, .inl (0, 108, .inl F6))]) rfl ?_
                    refine r_iinc (lv' := [(2, .int (nI (i + 1))), (3, .int (nI (i % 12))), (0, .ref a), (1, .int st)]) (v := nI (i + 1)) d_Fz_pass_112 (j := 1) rfl (nI_add _ _) (by decide) rfl ?_
                    refine r_goto (tgt := 10) d_Fz_pass_115 (by decide) ?_
                    refine r_lv (lv' := [(2, .int (nI (i + 1))), (0, .ref a), (1, .int st)]) [0, 2, 3] rfl ?_
                    refine r_lvE (lv2 := [(2, .int (nI (i + 1))), (0, .ref a), (1, .int st)]) (rfl) ?_
                    refine r_cs (cs2 := [(a, .inr (2, [.ref a1, .ref a2, .ref a3, .ref a4, .ref a5, .ref a6, .int liq])), (a1, .inl (0, 108, .inl F1)), (a2, .inl (0, 108, .inl (gnS F1 F5 F6 (fa_fill (fun _ => 0) F2 108) (i + 1)))), (a3, .inl (0, 108, .inl F3)), (a4, .inl (0, 108, .inl F4)), (a5, .inl (0, 108, .inl F5)), (a6, .inl (0, 108, .inl F6))]) (by simp only [gnS, psA, psB, psC, psD, qa, qb, qc, qd, if_true, if_false]) ?_
                    exact ih (i + 1) (by omega) (by omega)
            · have qc : i % 12 = 0 ∨ i % 12 = 11 := Or.inr (z_eqn (b := 11) (by omega) (by decide) c_69)
              refine r_aload_n d_Fz_pass_72 rfl 2 rfl ?_
              refine r_get fs_Fz_15 d_Fz_pass_73 (q0 := 0) rfl rfl ?_
              refine r_iload_n d_Fz_pass_76 rfl 1 rfl ?_
              refine r_dup2_11 d_Fz_pass_77 rfl rfl ?_
              refine r_iald d_Fz_pass_78 (q0 := 2) rfl (vp_in_nI (by omega) (by omega)) (v := (gnS F1 F5 F6 (fa_fill (fun _ => 0) F2 108) i) i) (by rw [nI_clamp (by omega)]) ?_
              refine r_aload_n d_Fz_pass_79 rfl 2 rfl ?_
              refine r_iload_n d_Fz_pass_80 rfl 1 rfl ?_
              refine r_callV (As := [.int (nI i)]) (rest := [.int ((gnS F1 F5 F6 (fa_fill (fun _ => 0) F2 108) i) i), .int (nI i), .ref a2]) (csC := [(a, .inr (2, [.ref a1, .ref a2, .ref a3, .ref a4, .ref a5, .ref a6, .int liq])), (a1, .inl (0, 108, .inl F1)), (a2, .inl (0, 108, .inl (gnS F1 F5 F6 (fa_fill (fun _ => 0) F2 108) i))), (a3, .inl (0, 108, .inl F3)), (a4, .inl (0, 108, .inl F4)), (a5, .inl (0, 108, .inl F5)), (a6, .inl (0, 108, .inl F6))]) (is := [0, 1, 2, 3, 4, 5, 6]) (q0 := 0) rfl rfl ln_Fz_58 w_im_Fz_flowFromBeyond w_se_Fz_flowFromBeyond ok_Fz_pass_Fz_flowFromBeyond d_Fz_pass_81 (C_Fz_flow g a a1 a2 a3 a4 a5 a6 F1 (gnS F1 F5 F6 (fa_fill (fun _ => 0) F2 108) i) F3 F4 F5 F6 liq i (by omega)) rfl rfl (Nat.le_of_ble_eq_true rfl) rfl (by decide) (by omega) (by omega) (fun E cs1 hx => ?_) (fun v cs1 hx => ?_)
              · exact absurd hx.1 (by simp)
              · obtain ⟨e1, rfl⟩ := hx
                cases e1
                refine ⟨rfl, ?_⟩
                refine r_st (st2 := [.int (flS F1 i), .int ((gnS F1 F5 F6 (fa_fill (fun _ => 0) F2 108) i) i), .int (nI i), .ref a2]) rfl ?_
                refine r_cs (cs2 := [(a, .inr (2, [.ref a1, .ref a2, .ref a3, .ref a4, .ref a5, .ref a6, .int liq])), (a1, .inl (0, 108, .inl F1)), (a2, .inl (0, 108, .inl (gnS F1 F5 F6 (fa_fill (fun _ => 0) F2 108) i))), (a3, .inl (0, 108, .inl F3)), (a4, .inl (0, 108, .inl F4)), (a5, .inl (0, 108, .inl F5)), (a6, .inl (0, 108, .inl F6))]) rfl ?_
                refine r_iadd d_Fz_pass_84 (v := ((gnS F1 F5 F6 (fa_fill (fun _ => 0) F2 108) i) i) + (flS F1 i)) rfl ?_
                refine r_iast d_Fz_pass_85 (q0 := 2) rfl (vp_in_nI (by omega) (by omega)) (f' := upd (gnS F1 F5 F6 (fa_fill (fun _ => 0) F2 108) i) i (((gnS F1 F5 F6 (fa_fill (fun _ => 0) F2 108) i) i) + (flS F1 i))) (by rw [nI_clamp (by omega)]) (cs' := [(a, .inr (2, [.ref a1, .ref a2, .ref a3, .ref a4, .ref a5, .ref a6, .int liq])), (a1, .inl (0, 108, .inl F1)), (a2, .inl (0, 108, .inl (upd (gnS F1 F5 F6 (fa_fill (fun _ => 0) F2 108) i) i (((gnS F1 F5 F6 (fa_fill (fun _ => 0) F2 108) i) i) + (flS F1 i))))), (a3, .inl (0, 108, .inl F3)), (a4, .inl (0, 108, .inl F4)), (a5, .inl (0, 108, .inl F5)), (a6, .inl (0, 108, .inl F6))]) rfl ?_
                refine r_iload_n d_Fz_pass_86 rfl 1 rfl ?_
                refine r_bipush d_Fz_pass_87 (v := 12) (by decide) ?_
                refine r_icmp_lt (tgt := 98) d_Fz_pass_89 (by decide) (fun c_89 => ?_) (fun c_89 => ?_)
                · have qd : i < 12 ∨ 96 ≤ i := Or.inl (z_lt (b := 12) (by decide) (by omega) c_89)
                  refine r_aload_n d_Fz_pass_98 rfl 2 rfl ?_
                  refine r_get fs_Fz_15 d_Fz_pass_99 (q0 := 0) rfl rfl ?_
                  refine r_iload_n d_Fz_pass_102 rfl 1 rfl ?_
                  refine r_dup2_11 d_Fz_pass_103 rfl rfl ?_
                  refine r_iald d_Fz_pass_104 (q0 := 2) rfl (vp_in_nI (by omega) (by omega)) (v := (upd (gnS F1 F5 F6 (fa_fill (fun _ => 0) F2 108) i) i (((gnS F1 F5 F6 (fa_fill (fun _ => 0) F2 108) i) i) + (flS F1 i))) i) (by rw [nI_clamp (by omega)]) ?_
                  refine r_aload_n d_Fz_pass_105 rfl 2 rfl ?_
                  refine r_iload_n d_Fz_pass_106 rfl 1 rfl ?_
                  refine r_callV (As := [.int (nI i)]) (rest := [.int ((upd (gnS F1 F5 F6 (fa_fill (fun _ => 0) F2 108) i) i (((gnS F1 F5 F6 (fa_fill (fun _ => 0) F2 108) i) i) + (flS F1 i))) i), .int (nI i), .ref a2]) (csC := [(a, .inr (2, [.ref a1, .ref a2, .ref a3, .ref a4, .ref a5, .ref a6, .int liq])), (a1, .inl (0, 108, .inl F1)), (a2, .inl (0, 108, .inl (upd (gnS F1 F5 F6 (fa_fill (fun _ => 0) F2 108) i) i (((gnS F1 F5 F6 (fa_fill (fun _ => 0) F2 108) i) i) + (flS F1 i))))), (a3, .inl (0, 108, .inl F3)), (a4, .inl (0, 108, .inl F4)), (a5, .inl (0, 108, .inl F5)), (a6, .inl (0, 108, .inl F6))]) (is := [0, 1, 2, 3, 4, 5, 6]) (q0 := 0) rfl rfl ln_Fz_58 w_im_Fz_flowFromBeyond w_se_Fz_flowFromBeyond ok_Fz_pass_Fz_flowFromBeyond d_Fz_pass_107 (C_Fz_flow g a a1 a2 a3 a4 a5 a6 F1 (upd (gnS F1 F5 F6 (fa_fill (fun _ => 0) F2 108) i) i (((gnS F1 F5 F6 (fa_fill (fun _ => 0) F2 108) i) i) + (flS F1 i))) F3 F4 F5 F6 liq i (by omega)) rfl rfl (Nat.le_of_ble_eq_true rfl) rfl (by decide) (by omega) (by omega) (fun E cs1 hx => ?_) (fun v cs1 hx => ?_)
                  · exact absurd hx.1 (by simp)
                  · obtain ⟨e1, rfl⟩ := hx
                    cases e1
                    refine ⟨rfl, ?_⟩
                    refine r_st (st2 := [.int (flS F1 i), .int ((upd (gnS F1 F5 F6 (fa_fill (fun _ => 0) F2 108) i) i (((gnS F1 F5 F6 (fa_fill (fun _ => 0) F2 108) i) i) + (flS F1 i))) i), .int (nI i), .ref a2]) rfl ?_
                    refine r_cs (cs2 := [(a, .inr (2, [.ref a1, .ref a2, .ref a3, .ref a4, .ref a5, .ref a6, .int liq])), (a1, .inl (0, 108, .inl F1)), (a2, .inl (0, 108, .inl (upd (gnS F1 F5 F6 (fa_fill (fun _ => 0) F2 108) i) i (((gnS F1 F5 F6 (fa_fill (fun _ => 0) F2 108) i) i) + (flS F1 i))))), (a3, .inl (0, 108, .inl F3)), (a4, .inl (0, 108, .inl F4)), (a5, .inl (0, 108, .inl F5)), (a6, .inl (0, 108, .inl F6))]) rfl ?_
                    refine r_iadd d_Fz_pass_110 (v := ((upd (gnS F1 F5 F6 (fa_fill (fun _ => 0) F2 108) i) i (((gnS F1 F5 F6 (fa_fill (fun _ => 0) F2 108) i) i) + (flS F1 i))) i) + (flS F1 i)) rfl ?_
                    refine r_iast d_Fz_pass_111 (q0 := 2) rfl (vp_in_nI (by omega) (by omega)) (f' := upd (upd (gnS F1 F5 F6 (fa_fill (fun _ => 0) F2 108) i) i (((gnS F1 F5 F6 (fa_fill (fun _ => 0) F2 108) i) i) + (flS F1 i))) i (((upd (gnS F1 F5 F6 (fa_fill (fun _ => 0) F2 108) i) i (((gnS F1 F5 F6 (fa_fill (fun _ => 0) F2 108) i) i) + (flS F1 i))) i) + (flS F1 i))) (by rw [nI_clamp (by omega)]) (cs' := [(a, .inr (2, [.ref a1, .ref a2, .ref a3, .ref a4, .ref a5, .ref a6, .int liq])), (a1, .inl (0, 108, .inl F1)), (a2, .inl (0, 108, .inl (upd (upd (gnS F1 F5 F6 (fa_fill (fun _ => 0) F2 108) i) i (((gnS F1 F5 F6 (fa_fill (fun _ => 0) F2 108) i) i) + (flS F1 i))) i (((upd (gnS F1 F5 F6 (fa_fill (fun _ => 0) F2 108) i) i (((gnS F1 F5 F6 (fa_fill (fun _ => 0) F2 108) i) i) + (flS F1 i))) i) + (flS F1 i))))), (a3, .inl (0, 108, .inl F3)), (a4, .inl (0, 108, .inl F4)), (a5, .inl (0, 108, .inl F5)), (a6, .inl (0, 108, .inl F6))]) rfl ?_
                    refine r_iinc (lv' := [(2, .int (nI (i + 1))), (3, .int (nI (i % 12))), (0, .ref a), (1, .int st)]) (v := nI (i + 1)) d_Fz_pass_112 (j := 1) rfl (nI_add _ _) (by decide) rfl ?_
                    refine r_goto (tgt := 10) d_Fz_pass_115 (by decide) ?_
                    refine r_lv (lv' := [(2, .int (nI (i + 1))), (0, .ref a), (1, .int st)]) [0, 2, 3] rfl ?_
                    refine r_lvE (lv2 := [(2, .int (nI (i + 1))), (0, .ref a), (1, .int st)]) (rfl) ?_
                    refine r_cs (cs2 := [(a, .inr (2, [.ref a1, .ref a2, .ref a3, .ref a4, .ref a5, .ref a6, .int liq])), (a1, .inl (0, 108, .inl F1)), (a2, .inl (0, 108, .inl (gnS F1 F5 F6 (fa_fill (fun _ => 0) F2 108) (i + 1)))), (a3, .inl (0, 108, .inl F3)), (a4, .inl (0, 108, .inl F4)), (a5, .inl (0, 108, .inl F5)), (a6, .inl (0, 108, .inl F6))]) (by simp only [gnS, psA, psB, psC, psD, qa, qb, qc, qd, if_true, if_false]) ?_
                    exact ih (i + 1) (by omega) (by omega)
                · have q1 := z_nlt (b := 12) (by decide) (by omega) c_89
                  refine r_iload_n d_Fz_pass_92 rfl 1 rfl ?_
                  refine r_bipush d_Fz_pass_93 (v := 96) (by decide) ?_
                  refine r_icmp_lt (tgt := 112) d_Fz_pass_95 (by decide) (fun c_95 => ?_) (fun c_95 => ?_)
                  · have q2 := z_lt (b := 96) (by decide) (by omega) c_95
                    have qd : ¬ (i < 12 ∨ 96 ≤ i) := by omega
                    refine r_iinc (lv' := [(2, .int (nI (i + 1))), (3, .int (nI (i % 12))), (0, .ref a), (1, .int st)]) (v := nI (i + 1)) d_Fz_pass_112 (j := 1) rfl (nI_add _ _) (by decide) rfl ?_
                    refine r_goto (tgt := 10) d_Fz_pass_115 (by decide) ?_
                    refine r_lv (lv' := [(2, .int (nI (i + 1))), (0, .ref a), (1, .int st)]) [0, 2, 3] rfl ?_
                    refine r_lvE (lv2 := [(2, .int (nI (i + 1))), (0, .ref a), (1, .int st)]) (rfl) ?_
                    refine r_cs (cs2 := [(a, .inr (2, [.ref a1, .ref a2, .ref a3, .ref a4, .ref a5, .ref a6, .int liq])), (a1, .inl (0, 108, .inl F1)), (a2, .inl (0, 108, .inl (gnS F1 F5 F6 (fa_fill (fun _ => 0) F2 108) (i + 1)))), (a3, .inl (0, 108, .inl F3)), (a4, .inl (0, 108, .inl F4)), (a5, .inl (0, 108, .inl F5)), (a6, .inl (0, 108, .inl F6))]) (by simp only [gnS, psA, psB, psC, psD, qa, qb, qc, qd, if_true, if_false]) ?_
                    exact ih (i + 1) (by omega) (by omega)
                  · have qd : i < 12 ∨ 96 ≤ i := Or.inr (z_nlt (b := 96) (by decide) (by omega) c_95)
                    refine r_aload_n d_Fz_pass_98 rfl 2 rfl ?_
                    refine r_get fs_Fz_15 d_Fz_pass_99 (q0 := 0) rfl rfl ?_
                    refine r_iload_n d_Fz_pass_102 rfl 1 rfl ?_
                    refine r_dup2_11 d_Fz_pass_103 rfl rfl ?_
                    refine r_iald d_Fz_pass_104 (q0 := 2) rfl (vp_in_nI (by omega) (by omega)) (v := (upd (gnS F1 F5 F6 (fa_fill (fun _ => 0) F2 108) i) i (((gnS F1 F5 F6 (fa_fill (fun _ => 0) F2 108) i) i) + (flS F1 i))) i) (by rw [nI_clamp (by omega)]) ?_
                    refine r_aload_n d_Fz_pass_105 rfl 2 rfl ?_
                    refine r_iload_n d_Fz_pass_106 rfl 1 rfl ?_
                    refine r_callV (As := [.int (nI i)]) (rest := [.int ((upd (gnS F1 F5 F6 (fa_fill (fun _ => 0) F2 108) i) i (((gnS F1 F5 F6 (fa_fill (fun _ => 0) F2 108) i) i) + (flS F1 i))) i), .int (nI i), .ref a2]) (csC := [(a, .inr (2, [.ref a1, .ref a2, .ref a3, .ref a4, .ref a5, .ref a6, .int liq])), (a1, .inl (0, 108, .inl F1)), (a2, .inl (0, 108, .inl (upd (gnS F1 F5 F6 (fa_fill (fun _ => 0) F2 108) i) i (((gnS F1 F5 F6 (fa_fill (fun _ => 0) F2 108) i) i) + (flS F1 i))))), (a3, .inl (0, 108, .inl F3)), (a4, .inl (0, 108, .inl F4)), (a5, .inl (0, 108, .inl F5)), (a6, .inl (0, 108, .inl F6))]) (is := [0, 1, 2, 3, 4, 5, 6]) (q0 := 0) rfl rfl ln_Fz_58 w_im_Fz_flowFromBeyond w_se_Fz_flowFromBeyond ok_Fz_pass_Fz_flowFromBeyond d_Fz_pass_107 (C_Fz_flow g a a1 a2 a3 a4 a5 a6 F1 (upd (gnS F1 F5 F6 (fa_fill (fun _ => 0) F2 108) i) i (((gnS F1 F5 F6 (fa_fill (fun _ => 0) F2 108) i) i) + (flS F1 i))) F3 F4 F5 F6 liq i (by omega)) rfl rfl (Nat.le_of_ble_eq_true rfl) rfl (by decide) (by omega) (by omega) (fun E cs1 hx => ?_) (fun v cs1 hx => ?_)
                    · exact absurd hx.1 (by simp)
                    · obtain ⟨e1, rfl⟩ := hx
                      cases e1
                      refine ⟨rfl, ?_⟩
                      refine r_st (st2 := [.int (flS F1 i), .int ((upd (gnS F1 F5 F6 (fa_fill (fun _ => 0) F2 108) i) i (((gnS F1 F5 F6 (fa_fill (fun _ => 0) F2 108) i) i) + (flS F1 i))) i), .int (nI i), .ref a2]) rfl ?_
                      refine r_cs (cs2 := [(a, .inr (2, [.ref a1, .ref a2, .ref a3, .ref a4, .ref a5, .ref a6, .int liq])), (a1, .inl (0, 108, .inl F1)), (a2, .inl (0, 108, .inl (upd (gnS F1 F5 F6 (fa_fill (fun _ => 0) F2 108) i) i (((gnS F1 F5 F6 (fa_fill (fun _ => 0) F2 108) i) i) + (flS F1 i))))), (a3, .inl (0, 108, .inl F3)), (a4, .inl (0, 108, .inl F4)), (a5, .inl (0, 108, .inl F5)), (a6, .inl (0, 108, .inl F6))]) rfl ?_
                      refine r_iadd d_Fz_pass_110 (v := ((upd (gnS F1 F5 F6 (fa_fill (fun _ => 0) F2 108) i) i (((gnS F1 F5 F6 (fa_fill (fun _ => 0) F2 108) i) i) + (flS F1 i))) i) + (flS F1 i)) rfl ?_
                      refine r_iast d_Fz_pass_111 (q0 := 2) rfl (vp_in_nI (by omega) (by omega)) (f' := upd (upd (gnS F1 F5 F6 (fa_fill (fun _ => 0) F2 108) i) i (((gnS F1 F5 F6 (fa_fill (fun _ => 0) F2 108) i) i) + (flS F1 i))) i (((upd (gnS F1 F5 F6 (fa_fill (fun _ => 0) F2 108) i) i (((gnS F1 F5 F6 (fa_fill (fun _ => 0) F2 108) i) i) + (flS F1 i))) i) + (flS F1 i))) (by rw [nI_clamp (by omega)]) (cs' := [(a, .inr (2, [.ref a1, .ref a2, .ref a3, .ref a4, .ref a5, .ref a6, .int liq])), (a1, .inl (0, 108, .inl F1)), (a2, .inl (0, 108, .inl (upd (upd (gnS F1 F5 F6 (fa_fill (fun _ => 0) F2 108) i) i (((gnS F1 F5 F6 (fa_fill (fun _ => 0) F2 108) i) i) + (flS F1 i))) i (((upd (gnS F1 F5 F6 (fa_fill (fun _ => 0) F2 108) i) i (((gnS F1 F5 F6 (fa_fill (fun _ => 0) F2 108) i) i) + (flS F1 i))) i) + (flS F1 i))))), (a3, .inl (0, 108, .inl F3)), (a4, .inl (0, 108, .inl F4)), (a5, .inl (0, 108, .inl F5)), (a6, .inl (0, 108, .inl F6))]) rfl ?_
                      refine r_iinc (lv' := [(2, .int (nI (i + 1))), (3, .int (nI (i % 12))), (0, .ref a), (1, .int st)]) (v := nI (i + 1)) d_Fz_pass_112 (j := 1) rfl (nI_add _ _) (by decide) rfl ?_
                      refine r_goto (tgt := 10) d_Fz_pass_115 (by decide) ?_
                      refine r_lv (lv' := [(2, .int (nI (i + 1))), (0, .ref a), (1, .int st)]) [0, 2, 3] rfl ?_
                      refine r_lvE (lv2 := [(2, .int (nI (i + 1))), (0, .ref a), (1, .int st)]) (rfl) ?_
                      refine r_cs (cs2 := [(a, .inr (2, [.ref a1, .ref a2, .ref a3, .ref a4, .ref a5, .ref a6, .int liq])), (a1, .inl (0, 108, .inl F1)), (a2, .inl (0, 108, .inl (gnS F1 F5 F6 (fa_fill (fun _ => 0) F2 108) (i + 1)))), (a3, .inl (0, 108, .inl F3)), (a4, .inl (0, 108, .inl F4)), (a5, .inl (0, 108, .inl F5)), (a6, .inl (0, 108, .inl F6))]) (by simp only [gnS, psA, psB, psC, psD, qa, qb, qc, qd, if_true, if_false]) ?_
                      exact ih (i + 1) (by omega) (by omega)
        · have qb : i < 96 := z_nle (a := 96) (by omega) (by decide) c_44
          refine r_aload_n d_Fz_pass_47 rfl 2 rfl ?_
          refine r_iload_n d_Fz_pass_48 rfl 1 rfl ?_
          refine r_iload_n d_Fz_pass_49 rfl 1 rfl ?_
          refine r_bipush d_Fz_pass_50 (v := 12) (by decide) ?_
          refine r_iadd d_Fz_pass_52 (v := nI (i + 12)) (nI_add _ _) ?_
          refine r_aload_n d_Fz_pass_53 rfl 2 rfl ?_
          refine r_get fs_Fz_27 d_Fz_pass_54 (q0 := 0) rfl rfl ?_
          refine r_iload_n d_Fz_pass_57 rfl 1 rfl ?_
          refine r_iald d_Fz_pass_58 (q0 := 6) rfl (vp_in_nI (by omega) (by omega)) (v := F6 i) (by rw [nI_clamp (by omega)]) ?_
          refine r_callV (As := [.int (nI i), .int (nI (i + 12)), .int (F6 i)]) (rest := []) (csC := [(a, .inr (2, [.ref a1, .ref a2, .ref a3, .ref a4, .ref a5, .ref a6, .int liq])), (a1, .inl (0, 108, .inl F1)), (a2, .inl (0, 108, .inl (gnS F1 F5 F6 (fa_fill (fun _ => 0) F2 108) i))), (a3, .inl (0, 108, .inl F3)), (a4, .inl (0, 108, .inl F4)), (a5, .inl (0, 108, .inl F5)), (a6, .inl (0, 108, .inl F6))]) (is := [0, 1, 2, 3, 4, 5, 6]) (q0 := 0) rfl rfl ln_Fz_55 w_im_Fz_exchange w_se_Fz_exchange ok_Fz_pass_Fz_exchange d_Fz_pass_59 (C_Fz_exchange g a a1 a2 a3 a4 a5 a6 F1 (gnS F1 F5 F6 (fa_fill (fun _ => 0) F2 108) i) F3 F4 F5 F6 liq i (i + 12) (by omega) (by omega) (F6 i)) rfl rfl (Nat.le_of_ble_eq_true rfl) rfl (by decide) (by omega) (by omega) (fun E cs1 hx => ?_) (fun v cs1 hx => ?_)
          · exact absurd hx.1 (by simp)
          · obtain ⟨e1, rfl⟩ := hx
            cases e1
            refine ⟨rfl, ?_⟩
            refine r_st (st2 := []) rfl ?_
            refine r_cs (cs2 := [(a, .inr (2, [.ref a1, .ref a2, .ref a3, .ref a4, .ref a5, .ref a6, .int liq])), (a1, .inl (0, 108, .inl F1)), (a2, .inl (0, 108, .inl (exS F1 i (i + 12) (F6 i) (gnS F1 F5 F6 (fa_fill (fun _ => 0) F2 108) i)))), (a3, .inl (0, 108, .inl F3)), (a4, .inl (0, 108, .inl F4)), (a5, .inl (0, 108, .inl F5)), (a6, .inl (0, 108, .inl F6))]) rfl ?_
            refine r_iload_n d_Fz_pass_62 rfl 0 rfl ?_
            refine r_if_eq (tgt := 72) d_Fz_pass_63 (by decide) (fun c_63 => ?_) (fun c_63 => ?_)
            · have qc : i % 12 = 0 ∨ i % 12 = 11 := Or.inl (z_eqn (b := 0) (by omega) (by decide) c_63)
              refine r_aload_n d_Fz_pass_72 rfl 2 rfl ?_
              refine r_get fs_Fz_15 d_Fz_pass_73 (q0 := 0) rfl rfl ?_
              refine r_iload_n d_Fz_pass_76 rfl 1 rfl ?_
              refine r_dup2_11 d_Fz_pass_77 rfl rfl ?_
              refine r_iald d_Fz_pass_78 (q0 := 2) rfl (vp_in_nI (by omega) (by omega)) (v := (exS F1 i (i + 12) (F6 i) (gnS F1 F5 F6 (fa_fill (fun _ => 0) F2 108) i)) i) (by rw [nI_clamp (by omega)]) ?_
              refine r_aload_n d_Fz_pass_79 rfl 2 rfl ?_
              refine r_iload_n d_Fz_pass_80 rfl 1 rfl ?_
              refine r_callV (As := [.int (nI i)]) (rest := [.int ((exS F1 i (i + 12) (F6 i) (gnS F1 F5 F6 (fa_fill (fun _ => 0) F2 108) i)) i), .int (nI i), .ref a2]) (csC := [(a, .inr (2, [.ref a1, .ref a2, .ref a3, .ref a4, .ref a5, .ref a6, .int liq])), (a1, .inl (0, 108, .inl F1)), (a2, .inl (0, 108, .inl (exS F1 i (i + 12) (F6 i) (gnS F1 F5 F6 (fa_fill (fun _ => 0) F2 108) i)))), (a3, .inl (0, 108, .inl F3)), (a4, .inl (0, 108, .inl F4)), (a5, .inl (0, 108, .inl F5)), (a6, .inl (0, 108, .inl F6))]) (is := [0, 1, 2, 3, 4, 5, 6]) (q0 := 0) rfl rfl ln_Fz_58 w_im_Fz_flowFromBeyond w_se_Fz_flowFromBeyond ok_Fz_pass_Fz_flowFromBeyond d_Fz_pass_81 (C_Fz_flow g a a1 a2 a3 a4 a5 a6 F1 (exS F1 i (i + 12) (F6 i) (gnS F1 F5 F6 (fa_fill (fun _ => 0) F2 108) i)) F3 F4 F5 F6 liq i (by omega)) rfl rfl (Nat.le_of_ble_eq_true rfl) rfl (by decide) (by omega) (by omega) (fun E cs1 hx => ?_) (fun v cs1 hx => ?_)
              · exact absurd hx.1 (by simp)
              · obtain ⟨e1, rfl⟩ := hx
                cases e1
                refine ⟨rfl, ?_⟩
                refine r_st (st2 := [.int (flS F1 i), .int ((exS F1 i (i + 12) (F6 i) (gnS F1 F5 F6 (fa_fill (fun _ => 0) F2 108) i)) i), .int (nI i), .ref a2]) rfl ?_
                refine r_cs (cs2 := [(a, .inr (2, [.ref a1, .ref a2, .ref a3, .ref a4, .ref a5, .ref a6, .int liq])), (a1, .inl (0, 108, .inl F1)), (a2, .inl (0, 108, .inl (exS F1 i (i + 12) (F6 i) (gnS F1 F5 F6 (fa_fill (fun _ => 0) F2 108) i)))), (a3, .inl (0, 108, .inl F3)), (a4, .inl (0, 108, .inl F4)), (a5, .inl (0, 108, .inl F5)), (a6, .inl (0, 108, .inl F6))]) rfl ?_
                refine r_iadd d_Fz_pass_84 (v := ((exS F1 i (i + 12) (F6 i) (gnS F1 F5 F6 (fa_fill (fun _ => 0) F2 108) i)) i) + (flS F1 i)) rfl ?_
                refine r_iast d_Fz_pass_85 (q0 := 2) rfl (vp_in_nI (by omega) (by omega)) (f' := upd (exS F1 i (i + 12) (F6 i) (gnS F1 F5 F6 (fa_fill (fun _ => 0) F2 108) i)) i (((exS F1 i (i + 12) (F6 i) (gnS F1 F5 F6 (fa_fill (fun _ => 0) F2 108) i)) i) + (flS F1 i))) (by rw [nI_clamp (by omega)]) (cs' := [(a, .inr (2, [.ref a1, .ref a2, .ref a3, .ref a4, .ref a5, .ref a6, .int liq])), (a1, .inl (0, 108, .inl F1)), (a2, .inl (0, 108, .inl (upd (exS F1 i (i + 12) (F6 i) (gnS F1 F5 F6 (fa_fill (fun _ => 0) F2 108) i)) i (((exS F1 i (i + 12) (F6 i) (gnS F1 F5 F6 (fa_fill (fun _ => 0) F2 108) i)) i) + (flS F1 i))))), (a3, .inl (0, 108, .inl F3)), (a4, .inl (0, 108, .inl F4)), (a5, .inl (0, 108, .inl F5)), (a6, .inl (0, 108, .inl F6))]) rfl ?_
                refine r_iload_n d_Fz_pass_86 rfl 1 rfl ?_
                refine r_bipush d_Fz_pass_87 (v := 12) (by decide) ?_
                refine r_icmp_lt (tgt := 98) d_Fz_pass_89 (by decide) (fun c_89 => ?_) (fun c_89 => ?_)
                · have qd : i < 12 ∨ 96 ≤ i := Or.inl (z_lt (b := 12) (by decide) (by omega) c_89)
                  refine r_aload_n d_Fz_pass_98 rfl 2 rfl ?_
                  refine r_get fs_Fz_15 d_Fz_pass_99 (q0 := 0) rfl rfl ?_
                  refine r_iload_n d_Fz_pass_102 rfl 1 rfl ?_
                  refine r_dup2_11 d_Fz_pass_103 rfl rfl ?_
                  refine r_iald d_Fz_pass_104 (q0 := 2) rfl (vp_in_nI (by omega) (by omega)) (v := (upd (exS F1 i (i + 12) (F6 i) (gnS F1 F5 F6 (fa_fill (fun _ => 0) F2 108) i)) i (((exS F1 i (i + 12) (F6 i) (gnS F1 F5 F6 (fa_fill (fun _ => 0) F2 108) i)) i) + (flS F1 i))) i) (by rw [nI_clamp (by omega)]) ?_
                  refine r_aload_n d_Fz_pass_105 rfl 2 rfl ?_
                  refine r_iload_n d_Fz_pass_106 rfl 1 rfl ?_
                  refine r_callV (As := [.int (nI i)]) (rest := [.int ((upd (exS F1 i (i + 12) (F6 i) (gnS F1 F5 F6 (fa_fill (fun _ => 0) F2 108) i)) i (((exS F1 i (i + 12) (F6 i) (gnS F1 F5 F6 (fa_fill (fun _ => 0) F2 108) i)) i) + (flS F1 i))) i), .int (nI i), .ref a2]) (csC := [(a, .inr (2, [.ref a1, .ref a2, .ref a3, .ref a4, .ref a5, .ref a6, .int liq])), (a1, .inl (0, 108, .inl F1)), (a2, .inl (0, 108, .inl (upd (exS F1 i (i + 12) (F6 i) (gnS F1 F5 F6 (fa_fill (fun _ => 0) F2 108) i)) i (((exS F1 i (i + 12) (F6 i) (gnS F1 F5 F6 (fa_fill (fun _ => 0) F2 108) i)) i) + (flS F1 i))))), (a3, .inl (0, 108, .inl F3)), (a4, .inl (0, 108, .inl F4)), (a5, .inl (0, 108, .inl F5)), (a6, .inl (0, 108, .inl F6))]) (is := [0, 1, 2, 3, 4, 5, 6]) (q0 := 0) rfl rfl ln_Fz_58 w_im_Fz_flowFromBeyond w_se_Fz_flowFromBeyond ok_Fz_pass_Fz_flowFromBeyond d_Fz_pass_107 (C_Fz_flow g a a1 a2 a3 a4 a5 a6 F1 (upd (exS F1 i (i + 12) (F6 i) (gnS F1 F5 F6 (fa_fill (fun _ => 0) F2 108) i)) i (((exS F1 i (i + 12) (F6 i) (gnS F1 F5 F6 (fa_fill (fun _ => 0) F2 108) i)) i) + (flS F1 i))) F3 F4 F5 F6 liq i (by omega)) rfl rfl (Nat.le_of_ble_eq_true rfl) rfl (by decide) (by omega) (by omega) (fun E cs1 hx => ?_) (fun v cs1 hx => ?_)
                  · exact absurd hx.1 (by simp)
                  · obtain ⟨e1, rfl⟩ := hx
                    cases e1
                    refine ⟨rfl, ?_⟩
                    refine r_st (st2 := [.int (flS F1 i), .int ((upd (exS F1 i (i + 12) (F6 i) (gnS F1 F5 F6 (fa_fill (fun _ => 0) F2 108) i)) i (((exS F1 i (i + 12) (F6 i) (gnS F1 F5 F6 (fa_fill (fun _ => 0) F2 108) i)) i) + (flS F1 i))) i), .int (nI i), .ref a2]) rfl ?_
                    refine r_cs (cs2 := [(a, .inr (2, [.ref a1, .ref a2, .ref a3, .ref a4, .ref a5, .ref a6, .int liq])), (a1, .inl (0, 108, .inl F1)), (a2, .inl (0, 108, .inl (upd (exS F1 i (i + 12) (F6 i) (gnS F1 F5 F6 (fa_fill (fun _ => 0) F2 108) i)) i (((exS F1 i (i + 12) (F6 i) (gnS F1 F5 F6 (fa_fill (fun _ => 0) F2 108) i)) i) + (flS F1 i))))), (a3, .inl (0, 108, .inl F3)), (a4, .inl (0, 108, .inl F4)), (a5, .inl (0, 108, .inl F5)), (a6, .inl (0, 108, .inl F6))]) rfl ?_
                    refine r_iadd d_Fz_pass_110 (v := ((upd (exS F1 i (i + 12) (F6 i) (gnS F1 F5 F6 (fa_fill (fun _ => 0) F2 108) i)) i (((exS F1 i (i + 12) (F6 i) (gnS F1 F5 F6 (fa_fill (fun _ => 0) F2 108) i)) i) + (flS F1 i))) i) + (flS F1 i)) rfl ?_
                    refine r_iast d_Fz_pass_111 (q0 := 2) rfl (vp_in_nI (by omega) (by omega)) (f' := upd (upd (exS F1 i (i + 12) (F6 i) (gnS F1 F5 F6 (fa_fill (fun _ => 0) F2 108) i)) i (((exS F1 i (i + 12) (F6 i) (gnS F1 F5 F6 (fa_fill (fun _ => 0) F2 108) i)) i) + (flS F1 i))) i (((upd (exS F1 i (i + 12) (F6 i) (gnS F1 F5 F6 (fa_fill (fun _ => 0) F2 108) i)) i (((exS F1 i (i + 12) (F6 i) (gnS F1 F5 F6 (fa_fill (fun _ => 0) F2 108) i)) i) + (flS F1 i))) i) + (flS F1 i))) (by rw [nI_clamp (by omega)]) (cs' := [(a, .inr (2, [.ref a1, .ref a2, .ref a3, .ref a4, .ref a5, .ref a6, .int liq])), (a1, .inl (0, 108, .inl F1)), (a2, .inl (0, 108, .inl (upd (upd (exS F1 i (i + 12) (F6 i) (gnS F1 F5 F6 (fa_fill (fun _ => 0) F2 108) i)) i (((exS F1 i (i + 12) (F6 i) (gnS F1 F5 F6 (fa_fill (fun _ => 0) F2 108) i)) i) + (flS F1 i))) i (((upd (exS F1 i (i + 12) (F6 i) (gnS F1 F5 F6 (fa_fill (fun _ => 0) F2 108) i)) i (((exS F1 i (i + 12) (F6 i) (gnS F1 F5 F6 (fa_fill (fun _ => 0) F2 108) i)) i) + (flS F1 i))) i) + (flS F1 i))))), (a3, .inl (0, 108, .inl F3)), (a4, .inl (0, 108, .inl F4)), (a5, .inl (0, 108, .inl F5)), (a6, .inl (0, 108, .inl F6))]) rfl ?_
                    refine r_iinc (lv' := [(2, .int (nI (i + 1))), (3, .int (nI (i % 12))), (0, .ref a), (1, .int st)]) (v := nI (i + 1)) d_Fz_pass_112 (j := 1) rfl (nI_add _ _) (by decide) rfl ?_
                    refine r_goto (tgt := 10) d_Fz_pass_115 (by decide) ?_
                    refine r_lv (lv' := [(2, .int (nI (i + 1))), (0, .ref a), (1, .int st)]) [0, 2, 3] rfl ?_
                    refine r_lvE (lv2 := [(2, .int (nI (i + 1))), (0, .ref a), (1, .int st)]) (rfl) ?_
                    refine r_cs (cs2 := [(a, .inr (2, [.ref a1, .ref a2, .ref a3, .ref a4, .ref a5, .ref a6, .int liq])), (a1, .inl (0, 108, .inl F1)), (a2, .inl (0, 108, .inl (gnS F1 F5 F6 (fa_fill (fun _ => 0) F2 108) (i + 1)))), (a3, .inl (0, 108, .inl F3)), (a4, .inl (0, 108, .inl F4)), (a5, .inl (0, 108, .inl F5)), (a6, .inl (0, 108, .inl F6))]) (by simp only [gnS, psA, psB, psC, psD, qa, qb, qc, qd, if_true, if_false]) ?_
                    exact ih (i + 1) (by omega) (by omega)
                · have q1 := z_nlt (b := 12) (by decide) (by omega) c_89
                  refine r_iload_n d_Fz_pass_92 rfl 1 rfl ?_
                  refine r_bipush d_Fz_pass_93 (v := 96) (by decide) ?_
                  refine r_icmp_lt (tgt := 112) d_Fz_pass_95 (by decide) (fun c_95 => ?_) (fun c_95 => ?_)
                  · have q2 := z_lt (b := 96) (by decide) (by omega) c_95
                    have qd : ¬ (i < 12 ∨ 96 ≤ i) := by omega
                    refine r_iinc (lv' := [(2, .int (nI (i + 1))), (3, .int (nI (i % 12))), (0, .ref a), (1, .int st)]) (v := nI (i + 1)) d_Fz_pass_112 (j := 1) rfl (nI_add _ _) (by decide) rfl ?_
                    refine r_goto (tgt := 10) d_Fz_pass_115 (by decide) ?_
                    refine r_lv (lv' := [(2, .int (nI (i + 1))), (0, .ref a), (1, .int st)]) [0, 2, 3] rfl ?_
                    refine r_lvE (lv2 := [(2, .int (nI (i + 1))), (0, .ref a), (1, .int st)]) (rfl) ?_
                    refine r_cs (cs2 := [(a, .inr (2, [.ref a1, .ref a2, .ref a3, .ref a4, .ref a5, .ref a6, .int liq])), (a1, .inl (0, 108, .inl F1)), (a2, .inl (0, 108, .inl (gnS F1 F5 F6 (fa_fill (fun _ => 0) F2 108) (i + 1)))), (a3, .inl (0, 108, .inl F3)), (a4, .inl (0, 108, .inl F4)), (a5, .inl (0, 108, .inl F5)), (a6, .inl (0, 108, .inl F6))]) (by simp only [gnS, psA, psB, psC, psD, qa, qb, qc, qd, if_true, if_false]) ?_
                    exact ih (i + 1) (by omega) (by omega)
                  · have qd : i < 12 ∨ 96 ≤ i := Or.inr (z_nlt (b := 96) (by decide) (by omega) c_95)
                    refine r_aload_n d_Fz_pass_98 rfl 2 rfl ?_
                    refine r_get fs_Fz_15 d_Fz_pass_99 (q0 := 0) rfl rfl ?_
                    refine r_iload_n d_Fz_pass_102 rfl 1 rfl ?_
                    refine r_dup2_11 d_Fz_pass_103 rfl rfl ?_
                    refine r_iald d_Fz_pass_104 (q0 := 2) rfl (vp_in_nI (by omega) (by omega)) (v := (upd (exS F1 i (i + 12) (F6 i) (gnS F1 F5 F6 (fa_fill (fun _ => 0) F2 108) i)) i (((exS F1 i (i + 12) (F6 i) (gnS F1 F5 F6 (fa_fill (fun _ => 0) F2 108) i)) i) + (flS F1 i))) i) (by rw [nI_clamp (by omega)]) ?_
                    refine r_aload_n d_Fz_pass_105 rfl 2 rfl ?_
                    refine r_iload_n d_Fz_pass_106 rfl 1 rfl ?_
                    refine r_callV (As := [.int (nI i)]) (rest := [.int ((upd (exS F1 i (i + 12) (F6 i) (gnS F1 F5 F6 (fa_fill (fun _ => 0) F2 108) i)) i (((exS F1 i (i + 12) (F6 i) (gnS F1 F5 F6 (fa_fill (fun _ => 0) F2 108) i)) i) + (flS F1 i))) i), .int (nI i), .ref a2]) (csC := [(a, .inr (2, [.ref a1, .ref a2, .ref a3, .ref a4, .ref a5, .ref a6, .int liq])), (a1, .inl (0, 108, .inl F1)), (a2, .inl (0, 108, .inl (upd (exS F1 i (i + 12) (F6 i) (gnS F1 F5 F6 (fa_fill (fun _ => 0) F2 108) i)) i (((exS F1 i (i + 12) (F6 i) (gnS F1 F5 F6 (fa_fill (fun _ => 0) F2 108) i)) i) + (flS F1 i))))), (a3, .inl (0, 108, .inl F3)), (a4, .inl (0, 108, .inl F4)), (a5, .inl (0, 108, .inl F5)), (a6, .inl (0, 108, .inl F6))]) (is := [0, 1, 2, 3, 4, 5, 6]) (q0 := 0) rfl rfl ln_Fz_58 w_im_Fz_flowFromBeyond w_se_Fz_flowFromBeyond ok_Fz_pass_Fz_flowFromBeyond d_Fz_pass_107 (C_Fz_flow g a a1 a2 a3 a4 a5 a6 F1 (upd (exS F1 i (i + 12) (F6 i) (gnS F1 F5 F6 (fa_fill (fun _ => 0) F2 108) i)) i (((exS F1 i (i + 12) (F6 i) (gnS F1 F5 F6 (fa_fill (fun _ => 0) F2 108) i)) i) + (flS F1 i))) F3 F4 F5 F6 liq i (by omega)) rfl rfl (Nat.le_of_ble_eq_true rfl) rfl (by decide) (by omega) (by omega) (fun E cs1 hx => ?_) (fun v cs1 hx => ?_)
                    · exact absurd hx.1 (by simp)
                    · obtain ⟨e1, rfl⟩ := hx
                      cases e1
                      refine ⟨rfl, ?_⟩
                      refine r_st (st2 := [.int (flS F1 i), .int ((upd (exS F1 i (i + 12) (F6 i) (gnS F1 F5 F6 (fa_fill (fun _ => 0) F2 108) i)) i (((exS F1 i (i + 12) (F6 i) (gnS F1 F5 F6 (fa_fill (fun _ => 0) F2 108) i)) i) + (flS F1 i))) i), .int (nI i), .ref a2]) rfl ?_
                      refine r_cs (cs2 := [(a, .inr (2, [.ref a1, .ref a2, .ref a3, .ref a4, .ref a5, .ref a6, .int liq])), (a1, .inl (0, 108, .inl F1)), (a2, .inl (0, 108, .inl (upd (exS F1 i (i + 12) (F6 i) (gnS F1 F5 F6 (fa_fill (fun _ => 0) F2 108) i)) i (((exS F1 i (i + 12) (F6 i) (gnS F1 F5 F6 (fa_fill (fun _ => 0) F2 108) i)) i) + (flS F1 i))))), (a3, .inl (0, 108, .inl F3)), (a4, .inl (0, 108, .inl F4)), (a5, .inl (0, 108, .inl F5)), (a6, .inl (0, 108, .inl F6))]) rfl ?_
                      refine r_iadd d_Fz_pass_110 (v := ((upd (exS F1 i (i + 12) (F6 i) (gnS F1 F5 F6 (fa_fill (fun _ => 0) F2 108) i)) i (((exS F1 i (i + 12) (F6 i) (gnS F1 F5 F6 (fa_fill (fun _ => 0) F2 108) i)) i) + (flS F1 i))) i) + (flS F1 i)) rfl ?_
                      refine r_iast d_Fz_pass_111 (q0 := 2) rfl (vp_in_nI (by omega) (by omega)) (f' := upd (upd (exS F1 i (i + 12) (F6 i) (gnS F1 F5 F6 (fa_fill (fun _ => 0) F2 108) i)) i (((exS F1 i (i + 12) (F6 i) (gnS F1 F5 F6 (fa_fill (fun _ => 0) F2 108) i)) i) + (flS F1 i))) i (((upd (exS F1 i (i + 12) (F6 i) (gnS F1 F5 F6 (fa_fill (fun _ => 0) F2 108) i)) i (((exS F1 i (i + 12) (F6 i) (gnS F1 F5 F6 (fa_fill (fun _ => 0) F2 108) i)) i) + (flS F1 i))) i) + (flS F1 i))) (by rw [nI_clamp (by omega)]) (cs' := [(a, .inr (2, [.ref a1, .ref a2, .ref a3, .ref a4, .ref a5, .ref a6, .int liq])), (a1, .inl (0, 108, .inl F1)), (a2, .inl (0, 108, .inl (upd (upd (exS F1 i (i + 12) (F6 i) (gnS F1 F5 F6 (fa_fill (fun _ => 0) F2 108) i)) i (((exS F1 i (i + 12) (F6 i) (gnS F1 F5 F6 (fa_fill (fun _ => 0) F2 108) i)) i) + (flS F1 i))) i (((upd (exS F1 i (i + 12) (F6 i) (gnS F1 F5 F6 (fa_fill (fun _ => 0) F2 108) i)) i (((exS F1 i (i + 12) (F6 i) (gnS F1 F5 F6 (fa_fill (fun _ => 0) F2 108) i)) i) + (flS F1 i))) i) + (flS F1 i))))), (a3, .inl (0, 108, .inl F3)), (a4, .inl (0, 108, .inl F4)), (a5, .inl (0, 108, .inl F5)), (a6, .inl (0, 108, .inl F6))]) rfl ?_
                      refine r_iinc (lv' := [(2, .int (nI (i + 1))), (3, .int (nI (i % 12))), (0, .ref a), (1, .int st)]) (v := nI (i + 1)) d_Fz_pass_112 (j := 1) rfl (nI_add _ _) (by decide) rfl ?_
                      refine r_goto (tgt := 10) d_Fz_pass_115 (by decide) ?_
                      refine r_lv (lv' := [(2, .int (nI (i + 1))), (0, .ref a), (1, .int st)]) [0, 2, 3] rfl ?_
                      refine r_lvE (lv2 := [(2, .int (nI (i + 1))), (0, .ref a), (1, .int st)]) (rfl) ?_
                      refine r_cs (cs2 := [(a, .inr (2, [.ref a1, .ref a2, .ref a3, .ref a4, .ref a5, .ref a6, .int liq])), (a1, .inl (0, 108, .inl F1)), (a2, .inl (0, 108, .inl (gnS F1 F5 F6 (fa_fill (fun _ => 0) F2 108) (i + 1)))), (a3, .inl (0, 108, .inl F3)), (a4, .inl (0, 108, .inl F4)), (a5, .inl (0, 108, .inl F5)), (a6, .inl (0, 108, .inl F6))]) (by simp only [gnS, psA, psB, psC, psD, qa, qb, qc, qd, if_true, if_false]) ?_
                      exact ih (i + 1) (by omega) (by omega)
            · have q0 : ¬ i % 12 = 0 := z_nen (b := 0) (by omega) (by decide) c_63
              refine r_iload_n d_Fz_pass_66 rfl 0 rfl ?_
              refine r_bipush d_Fz_pass_67 (v := 11) (by decide) ?_
              refine r_icmp_ne (tgt := 86) d_Fz_pass_69 (by decide) (fun c_69 => ?_) (fun c_69 => ?_)
              · have qc : ¬ (i % 12 = 0 ∨ i % 12 = 11) := fun h => h.elim q0 (z_nen (b := 11) (by omega) (by decide) c_69)
                refine r_iload_n d_Fz_pass_86 rfl 1 rfl ?_
                refine r_bipush d_Fz_pass_87 (v := 12) (by decide) ?_
                refine r_icmp_lt (tgt := 98) d_Fz_pass_89 (by decide) (fun c_89 => ?_) (fun c_89 => ?_)
                · have qd : i < 12 ∨ 96 ≤ i := Or.inl (z_lt (b := 12) (by decide) (by omega) c_89)
                  refine r_aload_n d_Fz_pass_98 rfl 2 rfl ?_
                  refine r_get fs_Fz_15 d_Fz_pass_99 (q0 := 0) rfl rfl ?_
                  refine r_iload_n d_Fz_pass_102 rfl 1 rfl ?_
                  refine r_dup2_11 d_Fz_pass_103 rfl rfl ?_
                  refine r_iald d_Fz_pass_104 (q0 := 2) rfl (vp_in_nI (by omega) (by omega)) (v := (exS F1 i (i + 12) (F6 i) (gnS F1 F5 F6 (fa_fill (fun _ => 0) F2 108) i)) i) (by rw [nI_clamp (by omega)]) ?_
                  refine r_aload_n d_Fz_pass_105 rfl 2 rfl ?_
                  refine r_iload_n d_Fz_pass_106 rfl 1 rfl ?_
                  refine r_callV (As := [.int (nI i)]) (rest := [.int ((exS F1 i (i + 12) (F6 i) (gnS F1 F5 F6 (fa_fill (fun _ => 0) F2 108) i)) i), .int (nI i), .ref a2]) (csC := [(a, .inr (2, [.ref a1, .ref a2, .ref a3, .ref a4, .ref a5, .ref a6, .int liq])), (a1, .inl (0, 108, .inl F1)), (a2, .inl (0, 108, .inl (exS F1 i (i + 12) (F6 i) (gnS F1 F5 F6 (fa_fill (fun _ => 0) F2 108) i)))), (a3, .inl (0, 108, .inl F3)), (a4, .inl (0, 108, .inl F4)), (a5, .inl (0, 108, .inl F5)), (a6, .inl (0, 108, .inl F6))]) (is := [0, 1, 2, 3, 4, 5, 6]) (q0 := 0) rfl rfl ln_Fz_58 w_im_Fz_flowFromBeyond w_se_Fz_flowFromBeyond ok_Fz_pass_Fz_flowFromBeyond d_Fz_pass_107 (C_Fz_flow g a a1 a2 a3 a4 a5 a6 F1 (exS F1 i (i + 12) (F6 i) (gnS F1 F5 F6 (fa_fill (fun _ => 0) F2 108) i)) F3 F4 F5 F6 liq i (by omega)) rfl rfl (Nat.le_of_ble_eq_true rfl) rfl (by decide) (by omega) (by omega) (fun E cs1 hx => ?_) (fun v cs1 hx => ?_)
                  · exact absurd hx.1 (by simp)
                  · obtain ⟨e1, rfl⟩ := hx
                    cases e1
                    refine ⟨rfl, ?_⟩
                    refine r_st (st2 := [.int (flS F1 i), .int ((exS F1 i (i + 12) (F6 i) (gnS F1 F5 F6 (fa_fill (fun _ => 0) F2 108) i)) i), .int (nI i), .ref a2]) rfl ?_
                    refine r_cs (cs2 := [(a, .inr (2, [.ref a1, .ref a2, .ref a3, .ref a4, .ref a5, .ref a6, .int liq])), (a1, .inl (0, 108, .inl F1)), (a2, .inl (0, 108, .inl (exS F1 i (i + 12) (F6 i) (gnS F1 F5 F6 (fa_fill (fun _ => 0) F2 108) i)))), (a3, .inl (0, 108, .inl F3)), (a4, .inl (0, 108, .inl F4)), (a5, .inl (0, 108, .inl F5)), (a6, .inl (0, 108, .inl F6))]) rfl ?_
                    refine r_iadd d_Fz_pass_110 (v := ((exS F1 i (i + 12) (F6 i) (gnS F1 F5 F6 (fa_fill (fun _ => 0) F2 108) i)) i) + (flS F1 i)) rfl ?_
                    refine r_iast d_Fz_pass_111 (q0 := 2) rfl (vp_in_nI (by omega) (by omega)) (f' := upd (exS F1 i (i + 12) (F6 i) (gnS F1 F5 F6 (fa_fill (fun _ => 0) F2 108) i)) i (((exS F1 i (i + 12) (F6 i) (gnS F1 F5 F6 (fa_fill (fun _ => 0) F2 108) i)) i) + (flS F1 i))) (by rw [nI_clamp (by omega)]) (cs' := [(a, .inr (2, [.ref a1, .ref a2, .ref a3, .ref a4, .ref a5, .ref a6, .int liq])), (a1, .inl (0, 108, .inl F1)), (a2, .inl (0, 108, .inl (upd (exS F1 i (i + 12) (F6 i) (gnS F1 F5 F6 (fa_fill (fun _ => 0) F2 108) i)) i (((exS F1 i (i + 12) (F6 i) (gnS F1 F5 F6 (fa_fill (fun _ => 0) F2 108) i)) i) + (flS F1 i))))), (a3, .inl (0, 108, .inl F3)), (a4, .inl (0, 108, .inl F4)), (a5, .inl (0, 108, .inl F5)), (a6, .inl (0, 108, .inl F6))]) rfl ?_
                    refine r_iinc (lv' := [(2, .int (nI (i + 1))), (3, .int (nI (i % 12))), (0, .ref a), (1, .int st)]) (v := nI (i + 1)) d_Fz_pass_112 (j := 1) rfl (nI_add _ _) (by decide) rfl ?_
                    refine r_goto (tgt := 10) d_Fz_pass_115 (by decide) ?_
                    refine r_lv (lv' := [(2, .int (nI (i + 1))), (0, .ref a), (1, .int st)]) [0, 2, 3] rfl ?_
                    refine r_lvE (lv2 := [(2, .int (nI (i + 1))), (0, .ref a), (1, .int st)]) (rfl) ?_
                    refine r_cs (cs2 := [(a, .inr (2, [.ref a1, .ref a2, .ref a3, .ref a4, .ref a5, .ref a6, .int liq])), (a1, .inl (0, 108, .inl F1)), (a2, .inl (0, 108, .inl (gnS F1 F5 F6 (fa_fill (fun _ => 0) F2 108) (i + 1)))), (a3, .inl (0, 108, .inl F3)), (a4, .inl (0, 108, .inl F4)), (a5, .inl (0, 108, .inl F5)), (a6, .inl (0, 108, .inl F6))]) (by simp only [gnS, psA, psB, psC, psD, qa, qb, qc, qd, if_true, if_false]) ?_
                    exact ih (i + 1) (by omega) (by omega)
                · have q1 := z_nlt (b := 12) (by decide) (by omega) c_89
                  refine r_iload_n d_Fz_pass_92 rfl 1 rfl ?_
                  refine r_bipush d_Fz_pass_93 (v := 96) (by decide) ?_
                  refine r_icmp_lt (tgt := 112) d_Fz_pass_95 (by decide) (fun c_95 => ?_) (fun c_95 => ?_)
                  · have q2 := z_lt (b := 96) (by decide) (by omega) c_95
                    have qd : ¬ (i < 12 ∨ 96 ≤ i) := by omega
                    refine r_iinc (lv' := [(2, .int (nI (i + 1))), (3, .int (nI (i % 12))), (0, .ref a), (1, .int st)]) (v := nI (i + 1)) d_Fz_pass_112 (j := 1) rfl (nI_add _ _) (by decide) rfl ?_
                    refine r_goto (tgt := 10) d_Fz_pass_115 (by decide) ?_
                    refine r_lv (lv' := [(2, .int (nI (i + 1))), (0, .ref a), (1, .int st)]) [0, 2, 3] rfl ?_
                    refine r_lvE (lv2 := [(2, .int (nI (i + 1))), (0, .ref a), (1, .int st)]) (rfl) ?_
                    refine r_cs (cs2 := [(a, .inr (2, [.ref a1, .ref a2, .ref a3, .ref a4, .ref a5, .ref a6, .int liq])), (a1, .inl (0, 108, .inl F1)), (a2, .inl (0, 108, .inl (gnS F1 F5 F6 (fa_fill (fun _ => 0) F2 108) (i + 1)))), (a3, .inl (0, 108, .inl F3)), (a4, .inl (0, 108, .inl F4)), (a5, .inl (0, 108, .inl F5)), (a6, .inl (0, 108, .inl F6))]) (by simp only [gnS, psA, psB, psC, psD, qa, qb, qc, qd, if_true, if_false]) ?_
                    exact ih (i + 1) (by omega) (by omega)
                  · have qd : i < 12 ∨ 96 ≤ i := Or.inr (z_nlt (b := 96) (by decide) (by omega) c_95)
                    refine r_aload_n d_Fz_pass_98 rfl 2 rfl ?_
                    refine r_get fs_Fz_15 d_Fz_pass_99 (q0 := 0) rfl rfl ?_
                    refine r_iload_n d_Fz_pass_102 rfl 1 rfl ?_
                    refine r_dup2_11 d_Fz_pass_103 rfl rfl ?_
                    refine r_iald d_Fz_pass_104 (q0 := 2) rfl (vp_in_nI (by omega) (by omega)) (v := (exS F1 i (i + 12) (F6 i) (gnS F1 F5 F6 (fa_fill (fun _ => 0) F2 108) i)) i) (by rw [nI_clamp (by omega)]) ?_
                    refine r_aload_n d_Fz_pass_105 rfl 2 rfl ?_
                    refine r_iload_n d_Fz_pass_106 rfl 1 rfl ?_
                    refine r_callV (As := [.int (nI i)]) (rest := [.int ((exS F1 i (i + 12) (F6 i) (gnS F1 F5 F6 (fa_fill (fun _ => 0) F2 108) i)) i), .int (nI i), .ref a2]) (csC := [(a, .inr (2, [.ref a1, .ref a2, .ref a3, .ref a4, .ref a5, .ref a6, .int liq])), (a1, .inl (0, 108, .inl F1)), (a2, .inl (0, 108, .inl (exS F1 i (i + 12) (F6 i) (gnS F1 F5 F6 (fa_fill (fun _ => 0) F2 108) i)))), (a3, .inl (0, 108, .inl F3)), (a4, .inl (0, 108, .inl F4)), (a5, .inl (0, 108, .inl F5)), (a6, .inl (0, 108, .inl F6))]) (is := [0, 1, 2, 3, 4, 5, 6]) (q0 := 0) rfl rfl ln_Fz_58 w_im_Fz_flowFromBeyond w_se_Fz_flowFromBeyond ok_Fz_pass_Fz_flowFromBeyond d_Fz_pass_107 (C_Fz_flow g a a1 a2 a3 a4 a5 a6 F1 (exS F1 i (i + 12) (F6 i) (gnS F1 F5 F6 (fa_fill (fun _ => 0) F2 108) i)) F3 F4 F5 F6 liq i (by omega)) rfl rfl (Nat.le_of_ble_eq_true rfl) rfl (by decide) (by omega) (by omega) (fun E cs1 hx => ?_) (fun v cs1 hx => ?_)
                    · exact absurd hx.1 (by simp)
                    · obtain ⟨e1, rfl⟩ := hx
                      cases e1
                      refine ⟨rfl, ?_⟩
                      refine r_st (st2 := [.int (flS F1 i), .int ((exS F1 i (i + 12) (F6 i) (gnS F1 F5 F6 (fa_fill (fun _ => 0) F2 108) i)) i), .int (nI i), .ref a2]) rfl ?_
                      refine r_cs (cs2 := [(a, .inr (2, [.ref a1, .ref a2, .ref a3, .ref a4, .ref a5, .ref a6, .int liq])), (a1, .inl (0, 108, .inl F1)), (a2, .inl (0, 108, .inl (exS F1 i (i + 12) (F6 i) (gnS F1 F5 F6 (fa_fill (fun _ => 0) F2 108) i)))), (a3, .inl (0, 108, .inl F3)), (a4, .inl (0, 108, .inl F4)), (a5, .inl (0, 108, .inl F5)), (a6, .inl (0, 108, .inl F6))]) rfl ?_
                      refine r_iadd d_Fz_pass_110 (v := ((exS F1 i (i + 12) (F6 i) (gnS F1 F5 F6 (fa_fill (fun _ => 0) F2 108) i)) i) + (flS F1 i)) rfl ?_
                      refine r_iast d_Fz_pass_111 (q0 := 2) rfl (vp_in_nI (by omega) (by omega)) (f' := upd (exS F1 i (i + 12) (F6 i) (gnS F1 F5 F6 (fa_fill (fun _ => 0) F2 108) i)) i (((exS F1 i (i + 12) (F6 i) (gnS F1 F5 F6 (fa_fill (fun _ => 0) F2 108) i)) i) + (flS F1 i))) (by rw [nI_clamp (by omega)]) (cs' := [(a, .inr (2, [.ref a1, .ref a2, .ref a3, .ref a4, .ref a5, .ref a6, .int liq])), (a1, .inl (0, 108, .inl F1)), (a2, .inl (0, 108, .inl (upd (exS F1 i (i + 12) (F6 i) (gnS F1 F5 F6 (fa_fill (fun _ => 0) F2 108) i)) i (((exS F1 i (i + 12) (F6 i) (gnS F1 F5 F6 (fa_fill (fun _ => 0) F2 108) i)) i) + (flS F1 i))))), (a3, .inl (0, 108, .inl F3)), (a4, .inl (0, 108, .inl F4)), (a5, .inl (0, 108, .inl F5)), (a6, .inl (0, 108, .inl F6))]) rfl ?_
                      refine r_iinc (lv' := [(2, .int (nI (i + 1))), (3, .int (nI (i % 12))), (0, .ref a), (1, .int st)]) (v := nI (i + 1)) d_Fz_pass_112 (j := 1) rfl (nI_add _ _) (by decide) rfl ?_
                      refine r_goto (tgt := 10) d_Fz_pass_115 (by decide) ?_
                      refine r_lv (lv' := [(2, .int (nI (i + 1))), (0, .ref a), (1, .int st)]) [0, 2, 3] rfl ?_
                      refine r_lvE (lv2 := [(2, .int (nI (i + 1))), (0, .ref a), (1, .int st)]) (rfl) ?_
                      refine r_cs (cs2 := [(a, .inr (2, [.ref a1, .ref a2, .ref a3, .ref a4, .ref a5, .ref a6, .int liq])), (a1, .inl (0, 108, .inl F1)), (a2, .inl (0, 108, .inl (gnS F1 F5 F6 (fa_fill (fun _ => 0) F2 108) (i + 1)))), (a3, .inl (0, 108, .inl F3)), (a4, .inl (0, 108, .inl F4)), (a5, .inl (0, 108, .inl F5)), (a6, .inl (0, 108, .inl F6))]) (by simp only [gnS, psA, psB, psC, psD, qa, qb, qc, qd, if_true, if_false]) ?_
                      exact ih (i + 1) (by omega) (by omega)
              · have qc : i % 12 = 0 ∨ i % 12 = 11 := Or.inr (z_eqn (b := 11) (by omega) (by decide) c_69)
                refine r_aload_n d_Fz_pass_72 rfl 2 rfl ?_
                refine r_get fs_Fz_15 d_Fz_pass_73 (q0 := 0) rfl rfl ?_
                refine r_iload_n d_Fz_pass_76 rfl 1 rfl ?_
                refine r_dup2_11 d_Fz_pass_77 rfl rfl ?_
                refine r_iald d_Fz_pass_78 (q0 := 2) rfl (vp_in_nI (by omega) (by omega)) (v := (exS F1 i (i + 12) (F6 i) (gnS F1 F5 F6 (fa_fill (fun _ => 0) F2 108) i)) i) (by rw [nI_clamp (by omega)]) ?_
                refine r_aload_n d_Fz_pass_79 rfl 2 rfl ?_
                refine r_iload_n d_Fz_pass_80 rfl 1 rfl ?_
                refine r_callV (As := [.int (nI i)]) (rest := [.int ((exS F1 i (i + 12) (F6 i) (gnS F1 F5 F6 (fa_fill (fun _ => 0) F2 108) i)) i), .int (nI i), .ref a2]) (csC := [(a, .inr (2, [.ref a1, .ref a2, .ref a3, .ref a4, .ref a5, .ref a6, .int liq])), (a1, .inl (0, 108, .inl F1)), (a2, .inl (0, 108, .inl (exS F1 i (i + 12) (F6 i) (gnS F1 F5 F6 (fa_fill (fun _ => 0) F2 108) i)))), (a3, .inl (0, 108, .inl F3)), (a4, .inl (0, 108, .inl F4)), (a5, .inl (0, 108, .inl F5)), (a6, .inl (0, 108, .inl F6))]) (is := [0, 1, 2, 3, 4, 5, 6]) (q0 := 0) rfl rfl ln_Fz_58 w_im_Fz_flowFromBeyond w_se_Fz_flowFromBeyond ok_Fz_pass_Fz_flowFromBeyond d_Fz_pass_81 (C_Fz_flow g a a1 a2 a3 a4 a5 a6 F1 (exS F1 i (i + 12) (F6 i) (gnS F1 F5 F6 (fa_fill (fun _ => 0) F2 108) i)) F3 F4 F5 F6 liq i (by omega)) rfl rfl (Nat.le_of_ble_eq_true rfl) rfl (by decide) (by omega) (by omega) (fun E cs1 hx => ?_) (fun v cs1 hx => ?_)
                · exact absurd hx.1 (by simp)
                · obtain ⟨e1, rfl⟩ := hx
                  cases e1
                  refine ⟨rfl, ?_⟩
                  refine r_st (st2 := [.int (flS F1 i), .int ((exS F1 i (i + 12) (F6 i) (gnS F1 F5 F6 (fa_fill (fun _ => 0) F2 108) i)) i), .int (nI i), .ref a2]) rfl ?_
                  refine r_cs (cs2 := [(a, .inr (2, [.ref a1, .ref a2, .ref a3, .ref a4, .ref a5, .ref a6, .int liq])), (a1, .inl (0, 108, .inl F1)), (a2, .inl (0, 108, .inl (exS F1 i (i + 12) (F6 i) (gnS F1 F5 F6 (fa_fill (fun _ => 0) F2 108) i)))), (a3, .inl (0, 108, .inl F3)), (a4, .inl (0, 108, .inl F4)), (a5, .inl (0, 108, .inl F5)), (a6, .inl (0, 108, .inl F6))]) rfl ?_
                  refine r_iadd d_Fz_pass_84 (v := ((exS F1 i (i + 12) (F6 i) (gnS F1 F5 F6 (fa_fill (fun _ => 0) F2 108) i)) i) + (flS F1 i)) rfl ?_
                  refine r_iast d_Fz_pass_85 (q0 := 2) rfl (vp_in_nI (by omega) (by omega)) (f' := upd (exS F1 i (i + 12) (F6 i) (gnS F1 F5 F6 (fa_fill (fun _ => 0) F2 108) i)) i (((exS F1 i (i + 12) (F6 i) (gnS F1 F5 F6 (fa_fill (fun _ => 0) F2 108) i)) i) + (flS F1 i))) (by rw [nI_clamp (by omega)]) (cs' := [(a, .inr (2, [.ref a1, .ref a2, .ref a3, .ref a4, .ref a5, .ref a6, .int liq])), (a1, .inl (0, 108, .inl F1)), (a2, .inl (0, 108, .inl (upd (exS F1 i (i + 12) (F6 i) (gnS F1 F5 F6 (fa_fill (fun _ => 0) F2 108) i)) i (((exS F1 i (i + 12) (F6 i) (gnS F1 F5 F6 (fa_fill (fun _ => 0) F2 108) i)) i) + (flS F1 i))))), (a3, .inl (0, 108, .inl F3)), (a4, .inl (0, 108, .inl F4)), (a5, .inl (0, 108, .inl F5)), (a6, .inl (0, 108, .inl F6))]) rfl ?_
                  refine r_iload_n d_Fz_pass_86 rfl 1 rfl ?_
                  refine r_bipush d_Fz_pass_87 (v := 12) (by decide) ?_
                  refine r_icmp_lt (tgt := 98) d_Fz_pass_89 (by decide) (fun c_89 => ?_) (fun c_89 => ?_)
                  · have qd : i < 12 ∨ 96 ≤ i := Or.inl (z_lt (b := 12) (by decide) (by omega) c_89)
                    refine r_aload_n d_Fz_pass_98 rfl 2 rfl ?_
                    refine r_get fs_Fz_15 d_Fz_pass_99 (q0 := 0) rfl rfl ?_
                    refine r_iload_n d_Fz_pass_102 rfl 1 rfl ?_
                    refine r_dup2_11 d_Fz_pass_103 rfl rfl ?_
                    refine r_iald d_Fz_pass_104 (q0 := 2) rfl (vp_in_nI (by omega) (by omega)) (v := (upd (exS F1 i (i + 12) (F6 i) (gnS F1 F5 F6 (fa_fill (fun _ => 0) F2 108) i)) i (((exS F1 i (i + 12) (F6 i) (gnS F1 F5 F6 (fa_fill (fun _ => 0) F2 108) i)) i) + (flS F1 i))) i) (by rw [nI_clamp (by omega)]) ?_
                    refine r_aload_n d_Fz_pass_105 rfl 2 rfl ?_
                    refine r_iload_n d_Fz_pass_106 rfl 1 rfl ?_
                    refine r_callV (As := [.int (nI i)]) (rest := [.int ((upd (exS F1 i (i + 12) (F6 i) (gnS F1 F5 F6 (fa_fill (fun _ => 0) F2 108) i)) i (((exS F1 i (i + 12) (F6 i) (gnS F1 F5 F6 (fa_fill (fun _ => 0) F2 108) i)) i) + (flS F1 i))) i), .int (nI i), .ref a2]) (csC := [(a, .inr (2, [.ref a1, .ref a2, .ref a3, .ref a4, .ref a5, .ref a6, .int liq])), (a1, .inl (0, 108, .inl F1)), (a2, .inl (0, 108, .inl (upd (exS F1 i (i + 12) (F6 i) (gnS F1 F5 F6 (fa_fill (fun _ => 0) F2 108) i)) i (((exS F1 i (i + 12) (F6 i) (gnS F1 F5 F6 (fa_fill (fun _ => 0) F2 108) i)) i) + (flS F1 i))))), (a3, .inl (0, 108, .inl F3)), (a4, .inl (0, 108, .inl F4)), (a5, .inl (0, 108, .inl F5)), (a6, .inl (0, 108, .inl F6))]) (is := [0, 1, 2, 3, 4, 5, 6]) (q0 := 0) rfl rfl ln_Fz_58 w_im_Fz_flowFromBeyond w_se_Fz_flowFromBeyond ok_Fz_pass_Fz_flowFromBeyond d_Fz_pass_107 (C_Fz_flow g a a1 a2 a3 a4 a5 a6 F1 (upd (exS F1 i (i + 12) (F6 i) (gnS F1 F5 F6 (fa_fill (fun _ => 0) F2 108) i)) i (((exS F1 i (i + 12) (F6 i) (gnS F1 F5 F6 (fa_fill (fun _ => 0) F2 108) i)) i) + (flS F1 i))) F3 F4 F5 F6 liq i (by omega)) rfl rfl (Nat.le_of_ble_eq_true rfl) rfl (by decide) (by omega) (by omega) (fun E cs1 hx => ?_) (fun v cs1 hx => ?_)
                    · exact absurd hx.1 (by simp)
                    · obtain ⟨e1, rfl⟩ := hx
                      cases e1
                      refine ⟨rfl, ?_⟩
                      refine r_st (st2 := [.int (flS F1 i), .int ((upd (exS F1 i (i + 12) (F6 i) (gnS F1 F5 F6 (fa_fill (fun _ => 0) F2 108) i)) i (((exS F1 i (i + 12) (F6 i) (gnS F1 F5 F6 (fa_fill (fun _ => 0) F2 108) i)) i) + (flS F1 i))) i), .int (nI i), .ref a2]) rfl ?_
                      refine r_cs (cs2 := [(a, .inr (2, [.ref a1, .ref a2, .ref a3, .ref a4, .ref a5, .ref a6, .int liq])), (a1, .inl (0, 108, .inl F1)), (a2, .inl (0, 108, .inl (upd (exS F1 i (i + 12) (F6 i) (gnS F1 F5 F6 (fa_fill (fun _ => 0) F2 108) i)) i (((exS F1 i (i + 12) (F6 i) (gnS F1 F5 F6 (fa_fill (fun _ => 0) F2 108) i)) i) + (flS F1 i))))), (a3, .inl (0, 108, .inl F3)), (a4, .inl (0, 108, .inl F4)), (a5, .inl (0, 108, .inl F5)), (a6, .inl (0, 108, .inl F6))]) rfl ?_
                      refine r_iadd d_Fz_pass_110 (v := ((upd (exS F1 i (i + 12) (F6 i) (gnS F1 F5 F6 (fa_fill (fun _ => 0) F2 108) i)) i (((exS F1 i (i + 12) (F6 i) (gnS F1 F5 F6 (fa_fill (fun _ => 0) F2 108) i)) i) + (flS F1 i))) i) + (flS F1 i)) rfl ?_
                      refine r_iast d_Fz_pass_111 (q0 := 2) rfl (vp_in_nI (by omega) (by omega)) (f' := upd (upd (exS F1 i (i + 12) (F6 i) (gnS F1 F5 F6 (fa_fill (fun _ => 0) F2 108) i)) i (((exS F1 i (i + 12) (F6 i) (gnS F1 F5 F6 (fa_fill (fun _ => 0) F2 108) i)) i) + (flS F1 i))) i (((upd (exS F1 i (i + 12) (F6 i) (gnS F1 F5 F6 (fa_fill (fun _ => 0) F2 108) i)) i (((exS F1 i (i + 12) (F6 i) (gnS F1 F5 F6 (fa_fill (fun _ => 0) F2 108) i)) i) + (flS F1 i))) i) + (flS F1 i))) (by rw [nI_clamp (by omega)]) (cs' := [(a, .inr (2, [.ref a1, .ref a2, .ref a3, .ref a4, .ref a5, .ref a6, .int liq])), (a1, .inl (0, 108, .inl F1)), (a2, .inl (0, 108, .inl (upd (upd (exS F1 i (i + 12) (F6 i) (gnS F1 F5 F6 (fa_fill (fun _ => 0) F2 108) i)) i (((exS F1 i (i + 12) (F6 i) (gnS F1 F5 F6 (fa_fill (fun _ => 0) F2 108) i)) i) + (flS F1 i))) i (((upd (exS F1 i (i + 12) (F6 i) (gnS F1 F5 F6 (fa_fill (fun _ => 0) F2 108) i)) i (((exS F1 i (i + 12) (F6 i) (gnS F1 F5 F6 (fa_fill (fun _ => 0) F2 108) i)) i) + (flS F1 i))) i) + (flS F1 i))))), (a3, .inl (0, 108, .inl F3)), (a4, .inl (0, 108, .inl F4)), (a5, .inl (0, 108, .inl F5)), (a6, .inl (0, 108, .inl F6))]) rfl ?_
                      refine r_iinc (lv' := [(2, .int (nI (i + 1))), (3, .int (nI (i % 12))), (0, .ref a), (1, .int st)]) (v := nI (i + 1)) d_Fz_pass_112 (j := 1) rfl (nI_add _ _) (by decide) rfl ?_
                      refine r_goto (tgt := 10) d_Fz_pass_115 (by decide) ?_
                      refine r_lv (lv' := [(2, .int (nI (i + 1))), (0, .ref a), (1, .int st)]) [0, 2, 3] rfl ?_
                      refine r_lvE (lv2 := [(2, .int (nI (i + 1))), (0, .ref a), (1, .int st)]) (rfl) ?_
                      refine r_cs (cs2 := [(a, .inr (2, [.ref a1, .ref a2, .ref a3, .ref a4, .ref a5, .ref a6, .int liq])), (a1, .inl (0, 108, .inl F1)), (a2, .inl (0, 108, .inl (gnS F1 F5 F6 (fa_fill (fun _ => 0) F2 108) (i + 1)))), (a3, .inl (0, 108, .inl F3)), (a4, .inl (0, 108, .inl F4)), (a5, .inl (0, 108, .inl F5)), (a6, .inl (0, 108, .inl F6))]) (by simp only [gnS, psA, psB, psC, psD, qa, qb, qc, qd, if_true, if_false]) ?_
                      exact ih (i + 1) (by omega) (by omega)
                  · have q1 := z_nlt (b := 12) (by decide) (by omega) c_89
                    refine r_iload_n d_Fz_pass_92 rfl 1 rfl ?_
                    refine r_bipush d_Fz_pass_93 (v := 96) (by decide) ?_
                    refine r_icmp_lt (tgt := 112) d_Fz_pass_95 (by decide) (fun c_95 => ?_) (fun c_95 => ?_)
                    · have q2 := z_lt (b := 96) (by decide) (by omega) c_95
                      have qd : ¬ (i < 12 ∨ 96 ≤ i) := by omega
                      refine r_iinc (lv' := [(2, .int (nI (i + 1))), (3, .int (nI (i % 12))), (0, .ref a), (1, .int st)]) (v := nI (i + 1)) d_Fz_pass_112 (j := 1) rfl (nI_add _ _) (by decide) rfl ?_
                      refine r_goto (tgt := 10) d_Fz_pass_115 (by decide) ?_
                      refine r_lv (lv' := [(2, .int (nI (i + 1))), (0, .ref a), (1, .int st)]) [0, 2, 3] rfl ?_
                      refine r_lvE (lv2 := [(2, .int (nI (i + 1))), (0, .ref a), (1, .int st)]) (rfl) ?_
                      refine r_cs (cs2 := [(a, .inr (2, [.ref a1, .ref a2, .ref a3, .ref a4, .ref a5, .ref a6, .int liq])), (a1, .inl (0, 108, .inl F1)), (a2, .inl (0, 108, .inl (gnS F1 F5 F6 (fa_fill (fun _ => 0) F2 108) (i + 1)))), (a3, .inl (0, 108, .inl F3)), (a4, .inl (0, 108, .inl F4)), (a5, .inl (0, 108, .inl F5)), (a6, .inl (0, 108, .inl F6))]) (by simp only [gnS, psA, psB, psC, psD, qa, qb, qc, qd, if_true, if_false]) ?_
                      exact ih (i + 1) (by omega) (by omega)
                    · have qd : i < 12 ∨ 96 ≤ i := Or.inr (z_nlt (b := 96) (by decide) (by omega) c_95)
                      refine r_aload_n d_Fz_pass_98 rfl 2 rfl ?_
                      refine r_get fs_Fz_15 d_Fz_pass_99 (q0 := 0) rfl rfl ?_
                      refine r_iload_n d_Fz_pass_102 rfl 1 rfl ?_
                      refine r_dup2_11 d_Fz_pass_103 rfl rfl ?_
                      refine r_iald d_Fz_pass_104 (q0 := 2) rfl (vp_in_nI (by omega) (by omega)) (v := (upd (exS F1 i (i + 12) (F6 i) (gnS F1 F5 F6 (fa_fill (fun _ => 0) F2 108) i)) i (((exS F1 i (i + 12) (F6 i) (gnS F1 F5 F6 (fa_fill (fun _ => 0) F2 108) i)) i) + (flS F1 i))) i) (by rw [nI_clamp (by omega)]) ?_
                      refine r_aload_n d_Fz_pass_105 rfl 2 rfl ?_
                      refine r_iload_n d_Fz_pass_106 rfl 1 rfl ?_
                      refine r_callV (As := [.int (nI i)]) (rest := [.int ((upd (exS F1 i (i + 12) (F6 i) (gnS F1 F5 F6 (fa_fill (fun _ => 0) F2 108) i)) i (((exS F1 i (i + 12) (F6 i) (gnS F1 F5 F6 (fa_fill (fun _ => 0) F2 108) i)) i) + (flS F1 i))) i), .int (nI i), .ref a2]) (csC := [(a, .inr (2, [.ref a1, .ref a2, .ref a3, .ref a4, .ref a5, .ref a6, .int liq])), (a1, .inl (0, 108, .inl F1)), (a2, .inl (0, 108, .inl (upd (exS F1 i (i + 12) (F6 i) (gnS F1 F5 F6 (fa_fill (fun _ => 0) F2 108) i)) i (((exS F1 i (i + 12) (F6 i) (gnS F1 F5 F6 (fa_fill (fun _ => 0) F2 108) i)) i) + (flS F1 i))))), (a3, .inl (0, 108, .inl F3)), (a4, .inl (0, 108, .inl F4)), (a5, .inl (0, 108, .inl F5)), (a6, .inl (0, 108, .inl F6))]) (is := [0, 1, 2, 3, 4, 5, 6]) (q0 := 0) rfl rfl ln_Fz_58 w_im_Fz_flowFromBeyond w_se_Fz_flowFromBeyond ok_Fz_pass_Fz_flowFromBeyond d_Fz_pass_107 (C_Fz_flow g a a1 a2 a3 a4 a5 a6 F1 (upd (exS F1 i (i + 12) (F6 i) (gnS F1 F5 F6 (fa_fill (fun _ => 0) F2 108) i)) i (((exS F1 i (i + 12) (F6 i) (gnS F1 F5 F6 (fa_fill (fun _ => 0) F2 108) i)) i) + (flS F1 i))) F3 F4 F5 F6 liq i (by omega)) rfl rfl (Nat.le_of_ble_eq_true rfl) rfl (by decide) (by omega) (by omega) (fun E cs1 hx => ?_) (fun v cs1 hx => ?_)
                      · exact absurd hx.1 (by simp)
                      · obtain ⟨e1, rfl⟩ := hx
                        cases e1
                        refine ⟨rfl, ?_⟩
                        refine r_st (st2 := [.int (flS F1 i), .int ((upd (exS F1 i (i + 12) (F6 i) (gnS F1 F5 F6 (fa_fill (fun _ => 0) F2 108) i)) i (((exS F1 i (i + 12) (F6 i) (gnS F1 F5 F6 (fa_fill (fun _ => 0) F2 108) i)) i) + (flS F1 i))) i), .int (nI i), .ref a2]) rfl ?_
                        refine r_cs (cs2 := [(a, .inr (2, [.ref a1, .ref a2, .ref a3, .ref a4, .ref a5, .ref a6, .int liq])), (a1, .inl (0, 108, .inl F1)), (a2, .inl (0, 108, .inl (upd (exS F1 i (i + 12) (F6 i) (gnS F1 F5 F6 (fa_fill (fun _ => 0) F2 108) i)) i (((exS F1 i (i + 12) (F6 i) (gnS F1 F5 F6 (fa_fill (fun _ => 0) F2 108) i)) i) + (flS F1 i))))), (a3, .inl (0, 108, .inl F3)), (a4, .inl (0, 108, .inl F4)), (a5, .inl (0, 108, .inl F5)), (a6, .inl (0, 108, .inl F6))]) rfl ?_
                        refine r_iadd d_Fz_pass_110 (v := ((upd (exS F1 i (i + 12) (F6 i) (gnS F1 F5 F6 (fa_fill (fun _ => 0) F2 108) i)) i (((exS F1 i (i + 12) (F6 i) (gnS F1 F5 F6 (fa_fill (fun _ => 0) F2 108) i)) i) + (flS F1 i))) i) + (flS F1 i)) rfl ?_
                        refine r_iast d_Fz_pass_111 (q0 := 2) rfl (vp_in_nI (by omega) (by omega)) (f' := upd (upd (exS F1 i (i + 12) (F6 i) (gnS F1 F5 F6 (fa_fill (fun _ => 0) F2 108) i)) i (((exS F1 i (i + 12) (F6 i) (gnS F1 F5 F6 (fa_fill (fun _ => 0) F2 108) i)) i) + (flS F1 i))) i (((upd (exS F1 i (i + 12) (F6 i) (gnS F1 F5 F6 (fa_fill (fun _ => 0) F2 108) i)) i (((exS F1 i (i + 12) (F6 i) (gnS F1 F5 F6 (fa_fill (fun _ => 0) F2 108) i)) i) + (flS F1 i))) i) + (flS F1 i))) (by rw [nI_clamp (by omega)]) (cs' := [(a, .inr (2, [.ref a1, .ref a2, .ref a3, .ref a4, .ref a5, .ref a6, .int liq])), (a1, .inl (0, 108, .inl F1)), (a2, .inl (0, 108, .inl (upd (upd (exS F1 i (i + 12) (F6 i) (gnS F1 F5 F6 (fa_fill (fun _ => 0) F2 108) i)) i (((exS F1 i (i + 12) (F6 i) (gnS F1 F5 F6 (fa_fill (fun _ => 0) F2 108) i)) i) + (flS F1 i))) i (((upd (exS F1 i (i + 12) (F6 i) (gnS F1 F5 F6 (fa_fill (fun _ => 0) F2 108) i)) i (((exS F1 i (i + 12) (F6 i) (gnS F1 F5 F6 (fa_fill (fun _ => 0) F2 108) i)) i) + (flS F1 i))) i) + (flS F1 i))))), (a3, .inl (0, 108, .inl F3)), (a4, .inl (0, 108, .inl F4)), (a5, .inl (0, 108, .inl F5)), (a6, .inl (0, 108, .inl F6))]) rfl ?_
                        refine r_iinc (lv' := [(2, .int (nI (i + 1))), (3, .int (nI (i % 12))), (0, .ref a), (1, .int st)]) (v := nI (i + 1)) d_Fz_pass_112 (j := 1) rfl (nI_add _ _) (by decide) rfl ?_
                        refine r_goto (tgt := 10) d_Fz_pass_115 (by decide) ?_
                        refine r_lv (lv' := [(2, .int (nI (i + 1))), (0, .ref a), (1, .int st)]) [0, 2, 3] rfl ?_
                        refine r_lvE (lv2 := [(2, .int (nI (i + 1))), (0, .ref a), (1, .int st)]) (rfl) ?_
                        refine r_cs (cs2 := [(a, .inr (2, [.ref a1, .ref a2, .ref a3, .ref a4, .ref a5, .ref a6, .int liq])), (a1, .inl (0, 108, .inl F1)), (a2, .inl (0, 108, .inl (gnS F1 F5 F6 (fa_fill (fun _ => 0) F2 108) (i + 1)))), (a3, .inl (0, 108, .inl F3)), (a4, .inl (0, 108, .inl F4)), (a5, .inl (0, 108, .inl F5)), (a6, .inl (0, 108, .inl F6))]) (by simp only [gnS, psA, psB, psC, psD, qa, qb, qc, qd, if_true, if_false]) ?_
                        exact ih (i + 1) (by omega) (by omega)
      · have qa : i % 12 < 11 := z_nle (a := 11) (by omega) (by decide) c_24
        refine r_aload_n d_Fz_pass_27 rfl 2 rfl ?_
        refine r_iload_n d_Fz_pass_28 rfl 1 rfl ?_
        refine r_iload_n d_Fz_pass_29 rfl 1 rfl ?_
        refine r_iconst d_Fz_pass_30 (v := 1) (by decide) ?_
        refine r_iadd d_Fz_pass_31 (v := nI (i + 1)) (nI_add _ _) ?_
        refine r_aload_n d_Fz_pass_32 rfl 2 rfl ?_
        refine r_get fs_Fz_24 d_Fz_pass_33 (q0 := 0) rfl rfl ?_
        refine r_iload_n d_Fz_pass_36 rfl 1 rfl ?_
        refine r_iald d_Fz_pass_37 (q0 := 5) rfl (vp_in_nI (by omega) (by omega)) (v := F5 i) (by rw [nI_clamp (by omega)]) ?_
        refine r_callV (As := [.int (nI i), .int (nI (i + 1)), .int (F5 i)]) (rest := []) (csC := [(a, .inr (2, [.ref a1, .ref a2, .ref a3, .ref a4, .ref a5, .ref a6, .int liq])), (a1, .inl (0, 108, .inl F1)), (a2, .inl (0, 108, .inl (gnS F1 F5 F6 (fa_fill (fun _ => 0) F2 108) i))), (a3, .inl (0, 108, .inl F3)), (a4, .inl (0, 108, .inl F4)), (a5, .inl (0, 108, .inl F5)), (a6, .inl (0, 108, .inl F6))]) (is := [0, 1, 2, 3, 4, 5, 6]) (q0 := 0) rfl rfl ln_Fz_55 w_im_Fz_exchange w_se_Fz_exchange ok_Fz_pass_Fz_exchange d_Fz_pass_38 (C_Fz_exchange g a a1 a2 a3 a4 a5 a6 F1 (gnS F1 F5 F6 (fa_fill (fun _ => 0) F2 108) i) F3 F4 F5 F6 liq i (i + 1) (by omega) (by omega) (F5 i)) rfl rfl (Nat.le_of_ble_eq_true rfl) rfl (by decide) (by omega) (by omega) (fun E cs1 hx => ?_) (fun v cs1 hx => ?_)
        · exact absurd hx.1 (by simp)
        · obtain ⟨e1, rfl⟩ := hx
          cases e1
          refine ⟨rfl, ?_⟩
          refine r_st (st2 := []) rfl ?_
          refine r_cs (cs2 := [(a, .inr (2, [.ref a1, .ref a2, .ref a3, .ref a4, .ref a5, .ref a6, .int liq])), (a1, .inl (0, 108, .inl F1)), (a2, .inl (0, 108, .inl (exS F1 i (i + 1) (F5 i) (gnS F1 F5 F6 (fa_fill (fun _ => 0) F2 108) i)))), (a3, .inl (0, 108, .inl F3)), (a4, .inl (0, 108, .inl F4)), (a5, .inl (0, 108, .inl F5)), (a6, .inl (0, 108, .inl F6))]) rfl ?_
          refine r_iload_n d_Fz_pass_41 rfl 1 rfl ?_
          refine r_bipush d_Fz_pass_42 (v := 96) (by decide) ?_
          refine r_icmp_ge (tgt := 62) d_Fz_pass_44 (by decide) (fun c_44 => ?_) (fun c_44 => ?_)
          · have qb : ¬ i < 96 := Nat.not_lt.mpr (z_le (a := 96) (by omega) (by decide) c_44)
            refine r_iload_n d_Fz_pass_62 rfl 0 rfl ?_
            refine r_if_eq (tgt := 72) d_Fz_pass_63 (by decide) (fun c_63 => ?_) (fun c_63 => ?_)
            · have qc : i % 12 = 0 ∨ i % 12 = 11 := Or.inl (z_eqn (b := 0) (by omega) (by decide) c_63)
              refine r_aload_n d_Fz_pass_72 rfl 2 rfl ?_
              refine r_get fs_Fz_15 d_Fz_pass_73 (q0 := 0) rfl rfl ?_
              refine r_iload_n d_Fz_pass_76 rfl 1 rfl ?_
              refine r_dup2_11 d_Fz_pass_77 rfl rfl ?_
              refine r_iald d_Fz_pass_78 (q0 := 2) rfl (vp_in_nI (by omega) (by omega)) (v := (exS F1 i (i + 1) (F5 i) (gnS F1 F5 F6 (fa_fill (fun _ => 0) F2 108) i)) i) (by rw [nI_clamp (by omega)]) ?_
              refine r_aload_n d_Fz_pass_79 rfl 2 rfl ?_
              refine r_iload_n d_Fz_pass_80 rfl 1 rfl ?_
              refine r_callV (As := [.int (nI i)]) (rest := [.int ((exS F1 i (i + 1) (F5 i) (gnS F1 F5 F6 (fa_fill (fun _ => 0) F2 108) i)) i), .int (nI i), .ref a2]) (csC := [(a, .inr (2, [.ref a1, .ref a2, .ref a3, .ref a4, .ref a5, .ref a6, .int liq])), (a1, .inl (0, 108, .inl F1)), (a2, .inl (0, 108, .inl (exS F1 i (i + 1) (F5 i) (gnS F1 F5 F6 (fa_fill (fun _ => 0) F2 108) i)))), (a3, .inl (0, 108, .inl F3)), (a4, .inl (0, 108, .inl F4)), (a5, .inl (0, 108, .inl F5)), (a6, .inl (0, 108, .inl F6))]) (is := [0, 1, 2, 3, 4, 5, 6]) (q0 := 0) rfl rfl ln_Fz_58 w_im_Fz_flowFromBeyond w_se_Fz_flowFromBeyond ok_Fz_pass_Fz_flowFromBeyond d_Fz_pass_81 (C_Fz_flow g a a1 a2 a3 a4 a5 a6 F1 (exS F1 i (i + 1) (F5 i) (gnS F1 F5 F6 (fa_fill (fun _ => 0) F2 108) i)) F3 F4 F5 F6 liq i (by omega)) rfl rfl (Nat.le_of_ble_eq_true rfl) rfl (by decide) (by omega) (by omega) (fun E cs1 hx => ?_) (fun v cs1 hx => ?_)
              · exact absurd hx.1 (by simp)
              · obtain ⟨e1, rfl⟩ := hx
                cases e1
                refine ⟨rfl, ?_⟩
                refine r_st (st2 := [.int (flS F1 i), .int ((exS F1 i (i + 1) (F5 i) (gnS F1 F5 F6 (fa_fill (fun _ => 0) F2 108) i)) i), .int (nI i), .ref a2]) rfl ?_
                refine r_cs (cs2 := [(a, .inr (2, [.ref a1, .ref a2, .ref a3, .ref a4, .ref a5, .ref a6, .int liq])), (a1, .inl (0, 108, .inl F1)), (a2, .inl (0, 108, .inl (exS F1 i (i + 1) (F5 i) (gnS F1 F5 F6 (fa_fill (fun _ => 0) F2 108) i)))), (a3, .inl (0, 108, .inl F3)), (a4, .inl (0, 108, .inl F4)), (a5, .inl (0, 108, .inl F5)), (a6, .inl (0, 108, .inl F6))]) rfl ?_
                refine r_iadd d_Fz_pass_84 (v := ((exS F1 i (i + 1) (F5 i) (gnS F1 F5 F6 (fa_fill (fun _ => 0) F2 108) i)) i) + (flS F1 i)) rfl ?_
                refine r_iast d_Fz_pass_85 (q0 := 2) rfl (vp_in_nI (by omega) (by omega)) (f' := upd (exS F1 i (i + 1) (F5 i) (gnS F1 F5 F6 (fa_fill (fun _ => 0) F2 108) i)) i (((exS F1 i (i + 1) (F5 i) (gnS F1 F5 F6 (fa_fill (fun _ => 0) F2 108) i)) i) + (flS F1 i))) (by rw [nI_clamp (by omega)]) (cs' := [(a, .inr (2, [.ref a1, .ref a2, .ref a3, .ref a4, .ref a5, .ref a6, .int liq])), (a1, .inl (0, 108, .inl F1)), (a2, .inl (0, 108, .inl (upd (exS F1 i (i + 1) (F5 i) (gnS F1 F5 F6 (fa_fill (fun _ => 0) F2 108) i)) i (((exS F1 i (i + 1) (F5 i) (gnS F1 F5 F6 (fa_fill (fun _ => 0) F2 108) i)) i) + (flS F1 i))))), (a3, .inl (0, 108, .inl F3)), (a4, .inl (0, 108, .inl F4)), (a5, .inl (0, 108, .inl F5)), (a6, .inl (0, 108, .inl F6))]) rfl ?_
                refine r_iload_n d_Fz_pass_86 rfl 1 rfl ?_
                refine r_bipush d_Fz_pass_87 (v := 12) (by decide) ?_
                refine r_icmp_lt (tgt := 98) d_Fz_pass_89 (by decide) (fun c_89 => ?_) (fun c_89 => ?_)
                · have qd : i < 12 ∨ 96 ≤ i := Or.inl (z_lt (b := 12) (by decide) (by omega) c_89)
                  refine r_aload_n d_Fz_pass_98 rfl 2 rfl ?_
                  refine r_get fs_Fz_15 d_Fz_pass_99 (q0 := 0) rfl rfl ?_
                  refine r_iload_n d_Fz_pass_102 rfl 1 rfl ?_
                  refine r_dup2_11 d_Fz_pass_103 rfl rfl ?_
                  refine r_iald d_Fz_pass_104 (q0 := 2) rfl (vp_in_nI (by omega) (by omega)) (v := (upd (exS F1 i (i + 1) (F5 i) (gnS F1 F5 F6 (fa_fill (fun _ => 0) F2 108) i)) i (((exS F1 i (i + 1) (F5 i) (gnS F1 F5 F6 (fa_fill (fun _ => 0) F2 108) i)) i) + (flS F1 i))) i) (by rw [nI_clamp (by omega)]) ?_
                  refine r_aload_n d_Fz_pass_105 rfl 2 rfl ?_
                  refine r_iload_n d_Fz_pass_106 rfl 1 rfl ?_
                  refine r_callV (As := [.int (nI i)]) (rest := [.int ((upd (exS F1 i (i + 1) (F5 i) (gnS F1 F5 F6 (fa_fill (fun _ => 0) F2 108) i)) i (((exS F1 i (i + 1) (F5 i) (gnS F1 F5 F6 (fa_fill (fun _ => 0) F2 108) i)) i) + (flS F1 i))) i), .int (nI i), .ref a2]) (csC := [(a, .inr (2, [.ref a1, .ref a2, .ref a3, .ref a4, .ref a5, .ref a6, .int liq])), (a1, .inl (0, 108, .inl F1)), (a2, .inl (0, 108, .inl (upd (exS F1 i (i + 1) (F5 i) (gnS F1 F5 F6 (fa_fill (fun _ => 0) F2 108) i)) i (((exS F1 i (i + 1) (F5 i) (gnS F1 F5 F6 (fa_fill (fun _ => 0) F2 108) i)) i) + (flS F1 i))))), (a3, .inl (0, 108, .inl F3)), (a4, .inl (0, 108, .inl F4)), (a5, .inl (0, 108, .inl F5)), (a6, .inl (0, 108, .inl F6))]) (is := [0, 1, 2, 3, 4, 5, 6]) (q0 := 0) rfl rfl ln_Fz_58 w_im_Fz_flowFromBeyond w_se_Fz_flowFromBeyond ok_Fz_pass_Fz_flowFromBeyond d_Fz_pass_107 (C_Fz_flow g a a1 a2 a3 a4 a5 a6 F1 (upd (exS F1 i (i + 1) (F5 i) (gnS F1 F5 F6 (fa_fill (fun _ => 0) F2 108) i)) i (((exS F1 i (i + 1) (F5 i) (gnS F1 F5 F6 (fa_fill (fun _ => 0) F2 108) i)) i) + (flS F1 i))) F3 F4 F5 F6 liq i (by omega)) rfl rfl (Nat.le_of_ble_eq_true rfl) rfl (by decide) (by omega) (by omega) (fun E cs1 hx => ?_) (fun v cs1 hx => ?_)
                  · exact absurd hx.1 (by simp)
                  · obtain ⟨e1, rfl⟩ := hx
                    cases e1
                    refine ⟨rfl, ?_⟩
                    refine r_st (st2 := [.int (flS F1 i), .int ((upd (exS F1 i (i + 1) (F5 i) (gnS F1 F5 F6 (fa_fill (fun _ => 0) F2 108) i)) i (((exS F1 i (i + 1) (F5 i) (gnS F1 F5 F6 (fa_fill (fun _ => 0) F2 108) i)) i) + (flS F1 i))) i), .int (nI i), .ref a2]) rfl ?_
                    refine r_cs (cs2 := [(a, .inr (2, [.ref a1, .ref a2, .ref a3, .ref a4, .ref a5, .ref a6, .int liq])), (a1, .inl (0, 108, .inl F1)), (a2, .inl (0, 108, .inl (upd (exS F1 i (i + 1) (F5 i) (gnS F1 F5 F6 (fa_fill (fun _ => 0) F2 108) i)) i (((exS F1 i (i + 1) (F5 i) (gnS F1 F5 F6 (fa_fill (fun _ => 0) F2 108) i)) i) + (flS F1 i))))), (a3, .inl (0, 108, .inl F3)), (a4, .inl (0, 108, .inl F4)), (a5, .inl (0, 108, .inl F5)), (a6, .inl (0, 108, .inl F6))]) rfl ?_
                    refine r_iadd d_Fz_pass_110 (v := ((upd (exS F1 i (i + 1) (F5 i) (gnS F1 F5 F6 (fa_fill (fun _ => 0) F2 108) i)) i (((exS F1 i (i + 1) (F5 i) (gnS F1 F5 F6 (fa_fill (fun _ => 0) F2 108) i)) i) + (flS F1 i))) i) + (flS F1 i)) rfl ?_
                    refine r_iast d_Fz_pass_111 (q0 := 2) rfl (vp_in_nI (by omega) (by omega)) (f' := upd (upd (exS F1 i (i + 1) (F5 i) (gnS F1 F5 F6 (fa_fill (fun _ => 0) F2 108) i)) i (((exS F1 i (i + 1) (F5 i) (gnS F1 F5 F6 (fa_fill (fun _ => 0) F2 108) i)) i) + (flS F1 i))) i (((upd (exS F1 i (i + 1) (F5 i) (gnS F1 F5 F6 (fa_fill (fun _ => 0) F2 108) i)) i (((exS F1 i (i + 1) (F5 i) (gnS F1 F5 F6 (fa_fill (fun _ => 0) F2 108) i)) i) + (flS F1 i))) i) + (flS F1 i))) (by rw [nI_clamp (by omega)]) (cs' := [(a, .inr (2, [.ref a1, .ref a2, .ref a3, .ref a4, .ref a5, .ref a6, .int liq])), (a1, .inl (0, 108, .inl F1)), (a2, .inl (0, 108, .inl (upd (upd (exS F1 i (i + 1) (F5 i) (gnS F1 F5 F6 (fa_fill (fun _ => 0) F2 108) i)) i (((exS F1 i (i + 1) (F5 i) (gnS F1 F5 F6 (fa_fill (fun _ => 0) F2 108) i)) i) + (flS F1 i))) i (((upd (exS F1 i (i + 1) (F5 i) (gnS F1 F5 F6 (fa_fill (fun _ => 0) F2 108) i)) i (((exS F1 i (i + 1) (F5 i) (gnS F1 F5 F6 (fa_fill (fun _ => 0) F2 108) i)) i) + (flS F1 i))) i) + (flS F1 i))))), (a3, .inl (0, 108, .inl F3)), (a4, .inl (0, 108, .inl F4)), (a5, .inl (0, 108, .inl F5)), (a6, .inl (0, 108, .inl F6))]) rfl ?_
                    refine r_iinc (lv' := [(2, .int (nI (i + 1))), (3, .int (nI (i % 12))), (0, .ref a), (1, .int st)]) (v := nI (i + 1)) d_Fz_pass_112 (j := 1) rfl (nI_add _ _) (by decide) rfl ?_
                    refine r_goto (tgt := 10) d_Fz_pass_115 (by decide) ?_
                    refine r_lv (lv' := [(2, .int (nI (i + 1))), (0, .ref a), (1, .int st)]) [0, 2, 3] rfl ?_
                    refine r_lvE (lv2 := [(2, .int (nI (i + 1))), (0, .ref a), (1, .int st)]) (rfl) ?_
                    refine r_cs (cs2 := [(a, .inr (2, [.ref a1, .ref a2, .ref a3, .ref a4, .ref a5, .ref a6, .int liq])), (a1, .inl (0, 108, .inl F1)), (a2, .inl (0, 108, .inl (gnS F1 F5 F6 (fa_fill (fun _ => 0) F2 108) (i + 1)))), (a3, .inl (0, 108, .inl F3)), (a4, .inl (0, 108, .inl F4)), (a5, .inl (0, 108, .inl F5)), (a6, .inl (0, 108, .inl F6))]) (by simp only [gnS, psA, psB, psC, psD, qa, qb, qc, qd, if_true, if_false]) ?_
                    exact ih (i + 1) (by omega) (by omega)
                · have q1 := z_nlt (b := 12) (by decide) (by omega) c_89
                  refine r_iload_n d_Fz_pass_92 rfl 1 rfl ?_
                  refine r_bipush d_Fz_pass_93 (v := 96) (by decide) ?_
                  refine r_icmp_lt (tgt := 112) d_Fz_pass_95 (by decide) (fun c_95 => ?_) (fun c_95 => ?_)
                  · have q2 := z_lt (b := 96) (by decide) (by omega) c_95
                    have qd : ¬ (i < 12 ∨ 96 ≤ i) := by omega
                    refine r_iinc (lv' := [(2, .int (nI (i + 1))), (3, .int (nI (i % 12))), (0, .ref a), (1, .int st)]) (v := nI (i + 1)) d_Fz_pass_112 (j := 1) rfl (nI_add _ _) (by decide) rfl ?_
                    refine r_goto (tgt := 10) d_Fz_pass_115 (by decide) ?_
                    refine r_lv (lv' := [(2, .int (nI (i + 1))), (0, .ref a), (1, .int st)]) [0, 2, 3] rfl ?_
                    refine r_lvE (lv2 := [(2, .int (nI (i + 1))), (0, .ref a), (1, .int st)]) (rfl) ?_
                    refine r_cs (cs2 := [(a, .inr (2, [.ref a1, .ref a2, .ref a3, .ref a4, .ref a5, .ref a6, .int liq])), (a1, .inl (0, 108, .inl F1)), (a2, .inl (0, 108, .inl (gnS F1 F5 F6 (fa_fill (fun _ => 0) F2 108) (i + 1)))), (a3, .inl (0, 108, .inl F3)), (a4, .inl (0, 108, .inl F4)), (a5, .inl (0, 108, .inl F5)), (a6, .inl (0, 108, .inl F6))]) (by simp only [gnS, psA, psB, psC, psD, qa, qb, qc, qd, if_true, if_false]) ?_
                    exact ih (i + 1) (by omega) (by omega)
                  · have qd : i < 12 ∨ 96 ≤ i := Or.inr (z_nlt (b := 96) (by decide) (by omega) c_95)
                    refine r_aload_n d_Fz_pass_98 rfl 2 rfl ?_
                    refine r_get fs_Fz_15 d_Fz_pass_99 (q0 := 0) rfl rfl ?_
                    refine r_iload_n d_Fz_pass_102 rfl 1 rfl ?_
                    refine r_dup2_11 d_Fz_pass_103 rfl rfl ?_
                    refine r_iald d_Fz_pass_104 (q0 := 2) rfl (vp_in_nI (by omega) (by omega)) (v := (upd (exS F1 i (i + 1) (F5 i) (gnS F1 F5 F6 (fa_fill (fun _ => 0) F2 108) i)) i (((exS F1 i (i + 1) (F5 i) (gnS F1 F5 F6 (fa_fill (fun _ => 0) F2 108) i)) i) + (flS F1 i))) i) (by rw [nI_clamp (by omega)]) ?_
                    refine r_aload_n d_Fz_pass_105 rfl 2 rfl ?_
                    refine r_iload_n d_Fz_pass_106 rfl 1 rfl ?_
                    refine r_callV (As := [.int (nI i)]) (rest := [.int ((upd (exS F1 i (i + 1) (F5 i) (gnS F1 F5 F6 (fa_fill (fun _ => 0) F2 108) i)) i (((exS F1 i (i + 1) (F5 i) (gnS F1 F5 F6 (fa_fill (fun _ => 0) F2 108) i)) i) + (flS F1 i))) i), .int (nI i), .ref a2]) (csC := [(a, .inr (2, [.ref a1, .ref a2, .ref a3, .ref a4, .ref a5, .ref a6, .int liq])), (a1, .inl (0, 108, .inl F1)), (a2, .inl (0, 108, .inl (upd (exS F1 i (i + 1) (F5 i) (gnS F1 F5 F6 (fa_fill (fun _ => 0) F2 108) i)) i (((exS F1 i (i + 1) (F5 i) (gnS F1 F5 F6 (fa_fill (fun _ => 0) F2 108) i)) i) + (flS F1 i))))), (a3, .inl (0, 108, .inl F3)), (a4, .inl (0, 108, .inl F4)), (a5, .inl (0, 108, .inl F5)), (a6, .inl (0, 108, .inl F6))]) (is := [0, 1, 2, 3, 4, 5, 6]) (q0 := 0) rfl rfl ln_Fz_58 w_im_Fz_flowFromBeyond w_se_Fz_flowFromBeyond ok_Fz_pass_Fz_flowFromBeyond d_Fz_pass_107 (C_Fz_flow g a a1 a2 a3 a4 a5 a6 F1 (upd (exS F1 i (i + 1) (F5 i) (gnS F1 F5 F6 (fa_fill (fun _ => 0) F2 108) i)) i (((exS F1 i (i + 1) (F5 i) (gnS F1 F5 F6 (fa_fill (fun _ => 0) F2 108) i)) i) + (flS F1 i))) F3 F4 F5 F6 liq i (by omega)) rfl rfl (Nat.le_of_ble_eq_true rfl) rfl (by decide) (by omega) (by omega) (fun E cs1 hx => ?_) (fun v cs1 hx => ?_)
                    · exact absurd hx.1 (by simp)
                    · obtain ⟨e1, rfl⟩ := hx
                      cases e1
                      refine ⟨rfl, ?_⟩
                      refine r_st (st2 := [.int (flS F1 i), .int ((upd (exS F1 i (i + 1) (F5 i) (gnS F1 F5 F6 (fa_fill (fun _ => 0) F2 108) i)) i (((exS F1 i (i + 1) (F5 i) (gnS F1 F5 F6 (fa_fill (fun _ => 0) F2 108) i)) i) + (flS F1 i))) i), .int (nI i), .ref a2]) rfl ?_
                      refine r_cs (cs2 := [(a, .inr (2, [.ref a1, .ref a2, .ref a3, .ref a4, .ref a5, .ref a6, .int liq])), (a1, .inl (0, 108, .inl F1)), (a2, .inl (0, 108, .inl (upd (exS F1 i (i + 1) (F5 i) (gnS F1 F5 F6 (fa_fill (fun _ => 0) F2 108) i)) i (((exS F1 i (i + 1) (F5 i) (gnS F1 F5 F6 (fa_fill (fun _ => 0) F2 108) i)) i) + (flS F1 i))))), (a3, .inl (0, 108, .inl F3)), (a4, .inl (0, 108, .inl F4)), (a5, .inl (0, 108, .inl F5)), (a6, .inl (0, 108, .inl F6))]) rfl ?_
                      refine r_iadd d_Fz_pass_110 (v := ((upd (exS F1 i (i + 1) (F5 i) (gnS F1 F5 F6 (fa_fill (fun _ => 0) F2 108) i)) i (((exS F1 i (i + 1) (F5 i) (gnS F1 F5 F6 (fa_fill (fun _ => 0) F2 108) i)) i) + (flS F1 i))) i) + (flS F1 i)) rfl ?_
                      refine r_iast d_Fz_pass_111 (q0 := 2) rfl (vp_in_nI (by omega) (by omega)) (f' := upd (upd (exS F1 i (i + 1) (F5 i) (gnS F1 F5 F6 (fa_fill (fun _ => 0) F2 108) i)) i (((exS F1 i (i + 1) (F5 i) (gnS F1 F5 F6 (fa_fill (fun _ => 0) F2 108) i)) i) + (flS F1 i))) i (((upd (exS F1 i (i + 1) (F5 i) (gnS F1 F5 F6 (fa_fill (fun _ => 0) F2 108) i)) i (((exS F1 i (i + 1) (F5 i) (gnS F1 F5 F6 (fa_fill (fun _ => 0) F2 108) i)) i) + (flS F1 i))) i) + (flS F1 i))) (by rw [nI_clamp (by omega)]) (cs' := [(a, .inr (2, [.ref a1, .ref a2, .ref a3, .ref a4, .ref a5, .ref a6, .int liq])), (a1, .inl (0, 108, .inl F1)), (a2, .inl (0, 108, .inl (upd (upd (exS F1 i (i + 1) (F5 i) (gnS F1 F5 F6 (fa_fill (fun _ => 0) F2 108) i)) i (((exS F1 i (i + 1) (F5 i) (gnS F1 F5 F6 (fa_fill (fun _ => 0) F2 108) i)) i) + (flS F1 i))) i (((upd (exS F1 i (i + 1) (F5 i) (gnS F1 F5 F6 (fa_fill (fun _ => 0) F2 108) i)) i (((exS F1 i (i + 1) (F5 i) (gnS F1 F5 F6 (fa_fill (fun _ => 0) F2 108) i)) i) + (flS F1 i))) i) + (flS F1 i))))), (a3, .inl (0, 108, .inl F3)), (a4, .inl (0, 108, .inl F4)), (a5, .inl (0, 108, .inl F5)), (a6, .inl (0, 108, .inl F6))]) rfl ?_
                      refine r_iinc (lv' := [(2, .int (nI (i + 1))), (3, .int (nI (i % 12))), (0, .ref a), (1, .int st)]) (v := nI (i + 1)) d_Fz_pass_112 (j := 1) rfl (nI_add _ _) (by decide) rfl ?_
                      refine r_goto (tgt := 10) d_Fz_pass_115 (by decide) ?_
                      refine r_lv (lv' := [(2, .int (nI (i + 1))), (0, .ref a), (1, .int st)]) [0, 2, 3] rfl ?_
                      refine r_lvE (lv2 := [(2, .int (nI (i + 1))), (0, .ref a), (1, .int st)]) (rfl) ?_
                      refine r_cs (cs2 := [(a, .inr (2, [.ref a1, .ref a2, .ref a3, .ref a4, .ref a5, .ref a6, .int liq])), (a1, .inl (0, 108, .inl F1)), (a2, .inl (0, 108, .inl (gnS F1 F5 F6 (fa_fill (fun _ => 0) F2 108) (i + 1)))), (a3, .inl (0, 108, .inl F3)), (a4, .inl (0, 108, .inl F4)), (a5, .inl (0, 108, .inl F5)), (a6, .inl (0, 108, .inl F6))]) (by simp only [gnS, psA, psB, psC, psD, qa, qb, qc, qd, if_true, if_false]) ?_
                      exact ih (i + 1) (by omega) (by omega)
            · have q0 : ¬ i % 12 = 0 := z_nen (b := 0) (by omega) (by decide) c_63
              refine r_iload_n d_Fz_pass_66 rfl 0 rfl ?_
              refine r_bipush d_Fz_pass_67 (v := 11) (by decide) ?_
              refine r_icmp_ne (tgt := 86) d_Fz_pass_69 (by decide) (fun c_69 => ?_) (fun c_69 => ?_)
              · have qc : ¬ (i % 12 = 0 ∨ i % 12 = 11) := fun h => h.elim q0 (z_nen (b := 11) (by omega) (by decide) c_69)
                refine r_iload_n d_Fz_pass_86 rfl 1 rfl ?_
                refine r_bipush d_Fz_pass_87 (v := 12) (by decide) ?_
                refine r_icmp_lt (tgt := 98) d_Fz_pass_89 (by decide) (fun c_89 => ?_) (fun c_89 => ?_)
                · have qd : i < 12 ∨ 96 ≤ i := Or.inl (z_lt (b := 12) (by decide) (by omega) c_89)
                  refine r_aload_n d_Fz_pass_98 rfl 2 rfl ?_
                  refine r_get fs_Fz_15 d_Fz_pass_99 (q0 := 0) rfl rfl ?_
                  refine r_iload_n d_Fz_pass_102 rfl 1 rfl ?_
                  refine r_dup2_11 d_Fz_pass_103 rfl rfl ?_
                  refine r_iald d_Fz_pass_104 (q0 := 2) rfl (vp_in_nI (by omega) (by omega)) (v := (exS F1 i (i + 1) (F5 i) (gnS F1 F5 F6 (fa_fill (fun _ => 0) F2 108) i)) i) (by rw [nI_clamp (by omega)]) ?_
                  refine r_aload_n d_Fz_pass_105 rfl 2 rfl ?_
                  refine r_iload_n d_Fz_pass_106 rfl 1 rfl ?_
                  refine r_callV (As := [.int (nI i)]) (rest := [.int ((exS F1 i (i + 1) (F5 i) (gnS F1 F5 F6 (fa_fill (fun _ => 0) F2 108) i)) i), .int (nI i), .ref a2]) (csC := [(a, .inr (2, [.ref a1, .ref a2, .ref a3, .ref a4, .ref a5, .ref a6, .int liq])), (a1, .inl (0, 108, .inl F1)), (a2, .inl (0, 108, .inl (exS F1 i (i + 1) (F5 i) (gnS F1 F5 F6 (fa_fill (fun _ => 0) F2 108) i)))), (a3, .inl (0, 108, .inl F3)), (a4, .inl (0, 108, .inl F4)), (a5, .inl (0, 108, .inl F5)), (a6, .inl (0, 108, .inl F6))]) (is := [0, 1, 2, 3, 4, 5, 6]) (q0 := 0) rfl rfl ln_Fz_58 w_im_Fz_flowFromBeyond w_se_Fz_flowFromBeyond ok_Fz_pass_Fz_flowFromBeyond d_Fz_pass_107 (C_Fz_flow g a a1 a2 a3 a4 a5 a6 F1 (exS F1 i (i + 1) (F5 i) (gnS F1 F5 F6 (fa_fill (fun _ => 0) F2 108) i)) F3 F4 F5 F6 liq i (by omega)) rfl rfl (Nat.le_of_ble_eq_true rfl) rfl (by decide) (by omega) (by omega) (fun E cs1 hx => ?_) (fun v cs1 hx => ?_)
                  · exact absurd hx.1 (by simp)
                  · obtain ⟨e1, rfl⟩ := hx
                    cases e1
                    refine ⟨rfl, ?_⟩
                    refine r_st (st2 := [.int (flS F1 i), .int ((exS F1 i (i + 1) (F5 i) (gnS F1 F5 F6 (fa_fill (fun _ => 0) F2 108) i)) i), .int (nI i), .ref a2]) rfl ?_
                    refine r_cs (cs2 := [(a, .inr (2, [.ref a1, .ref a2, .ref a3, .ref a4, .ref a5, .ref a6, .int liq])), (a1, .inl (0, 108, .inl F1)), (a2, .inl (0, 108, .inl (exS F1 i (i + 1) (F5 i) (gnS F1 F5 F6 (fa_fill (fun _ => 0) F2 108) i)))), (a3, .inl (0, 108, .inl F3)), (a4, .inl (0, 108, .inl F4)), (a5, .inl (0, 108, .inl F5)), (a6, .inl (0, 108, .inl F6))]) rfl ?_
                    refine r_iadd d_Fz_pass_110 (v := ((exS F1 i (i + 1) (F5 i) (gnS F1 F5 F6 (fa_fill (fun _ => 0) F2 108) i)) i) + (flS F1 i)) rfl ?_
                    refine r_iast d_Fz_pass_111 (q0 := 2) rfl (vp_in_nI (by omega) (by omega)) (f' := upd (exS F1 i (i + 1) (F5 i) (gnS F1 F5 F6 (fa_fill (fun _ => 0) F2 108) i)) i (((exS F1 i (i + 1) (F5 i) (gnS F1 F5 F6 (fa_fill (fun _ => 0) F2 108) i)) i) + (flS F1 i))) (by rw [nI_clamp (by omega)]) (cs' := [(a, .inr (2, [.ref a1, .ref a2, .ref a3, .ref a4, .ref a5, .ref a6, .int liq])), (a1, .inl (0, 108, .inl F1)), (a2, .inl (0, 108, .inl (upd (exS F1 i (i + 1) (F5 i) (gnS F1 F5 F6 (fa_fill (fun _ => 0) F2 108) i)) i (((exS F1 i (i + 1) (F5 i) (gnS F1 F5 F6 (fa_fill (fun _ => 0) F2 108) i)) i) + (flS F1 i))))), (a3, .inl (0, 108, .inl F3)), (a4, .inl (0, 108, .inl F4)), (a5, .inl (0, 108, .inl F5)), (a6, .inl (0, 108, .inl F6))]) rfl ?_
                    refine r_iinc (lv' := [(2, .int (nI (i + 1))), (3, .int (nI (i % 12))), (0, .ref a), (1, .int st)]) (v := nI (i + 1)) d_Fz_pass_112 (j := 1) rfl (nI_add _ _) (by decide) rfl ?_
                    refine r_goto (tgt := 10) d_Fz_pass_115 (by decide) ?_
                    refine r_lv (lv' := [(2, .int (nI (i + 1))), (0, .ref a), (1, .int st)]) [0, 2, 3] rfl ?_
                    refine r_lvE (lv2 := [(2, .int (nI (i + 1))), (0, .ref a), (1, .int st)]) (rfl) ?_
                    refine r_cs (cs2 := [(a, .inr (2, [.ref a1, .ref a2, .ref a3, .ref a4, .ref a5, .ref a6, .int liq])), (a1, .inl (0, 108, .inl F1)), (a2, .inl (0, 108, .inl (gnS F1 F5 F6 (fa_fill (fun _ => 0) F2 108) (i + 1)))), (a3, .inl (0, 108, .inl F3)), (a4, .inl (0, 108, .inl F4)), (a5, .inl (0, 108, .inl F5)), (a6, .inl (0, 108, .inl F6))]) (by simp only [gnS, psA, psB, psC, psD, qa, qb, qc, qd, if_true, if_false]) ?_
                    exact ih (i + 1) (by omega) (by omega)
                · have q1 := z_nlt (b := 12) (by decide) (by omega) c_89
                  refine r_iload_n d_Fz_pass_92 rfl 1 rfl ?_
                  refine r_bipush d_Fz_pass_93 (v := 96) (by decide) ?_
                  refine r_icmp_lt (tgt := 112) d_Fz_pass_95 (by decide) (fun c_95 => ?_) (fun c_95 => ?_)
                  · have q2 := z_lt (b := 96) (by decide) (by omega) c_95
                    have qd : ¬ (i < 12 ∨ 96 ≤ i) := by omega
                    refine r_iinc (lv' := [(2, .int (nI (i + 1))), (3, .int (nI (i % 12))), (0, .ref a), (1, .int st)]) (v := nI (i + 1)) d_Fz_pass_112 (j := 1) rfl (nI_add _ _) (by decide) rfl ?_
                    refine r_goto (tgt := 10) d_Fz_pass_115 (by decide) ?_
                    refine r_lv (lv' := [(2, .int (nI (i + 1))), (0, .ref a), (1, .int st)]) [0, 2, 3] rfl ?_
                    refine r_lvE (lv2 := [(2, .int (nI (i + 1))), (0, .ref a), (1, .int st)]) (rfl) ?_
                    refine r_cs (cs2 := [(a, .inr (2, [.ref a1, .ref a2, .ref a3, .ref a4, .ref a5, .ref a6, .int liq])), (a1, .inl (0, 108, .inl F1)), (a2, .inl (0, 108, .inl (gnS F1 F5 F6 (fa_fill (fun _ => 0) F2 108) (i + 1)))), (a3, .inl (0, 108, .inl F3)), (a4, .inl (0, 108, .inl F4)), (a5, .inl (0, 108, .inl F5)), (a6, .inl (0, 108, .inl F6))]) (by simp only [gnS, psA, psB, psC, psD, qa, qb, qc, qd, if_true, if_false]) ?_
                    exact ih (i + 1) (by omega) (by omega)
                  · have qd : i < 12 ∨ 96 ≤ i := Or.inr (z_nlt (b := 96) (by decide) (by omega) c_95)
                    refine r_aload_n d_Fz_pass_98 rfl 2 rfl ?_
                    refine r_get fs_Fz_15 d_Fz_pass_99 (q0 := 0) rfl rfl ?_
                    refine r_iload_n d_Fz_pass_102 rfl 1 rfl ?_
                    refine r_dup2_11 d_Fz_pass_103 rfl rfl ?_
                    refine r_iald d_Fz_pass_104 (q0 := 2) rfl (vp_in_nI (by omega) (by omega)) (v := (exS F1 i (i + 1) (F5 i) (gnS F1 F5 F6 (fa_fill (fun _ => 0) F2 108) i)) i) (by rw [nI_clamp (by omega)]) ?_
                    refine r_aload_n d_Fz_pass_105 rfl 2 rfl ?_
                    refine r_iload_n d_Fz_pass_106 rfl 1 rfl ?_
                    refine r_callV (As := [.int (nI i)]) (rest := [.int ((exS F1 i (i + 1) (F5 i) (gnS F1 F5 F6 (fa_fill (fun _ => 0) F2 108) i)) i), .int (nI i), .ref a2]) (csC := [(a, .inr (2, [.ref a1, .ref a2, .ref a3, .ref a4, .ref a5, .ref a6, .int liq])), (a1, .inl (0, 108, .inl F1)), (a2, .inl (0, 108, .inl (exS F1 i (i + 1) (F5 i) (gnS F1 F5 F6 (fa_fill (fun _ => 0) F2 108) i)))), (a3, .inl (0, 108, .inl F3)), (a4, .inl (0, 108, .inl F4)), (a5, .inl (0, 108, .inl F5)), (a6, .inl (0, 108, .inl F6))]) (is := [0, 1, 2, 3, 4, 5, 6]) (q0 := 0) rfl rfl ln_Fz_58 w_im_Fz_flowFromBeyond w_se_Fz_flowFromBeyond ok_Fz_pass_Fz_flowFromBeyond d_Fz_pass_107 (C_Fz_flow g a a1 a2 a3 a4 a5 a6 F1 (exS F1 i (i + 1) (F5 i) (gnS F1 F5 F6 (fa_fill (fun _ => 0) F2 108) i)) F3 F4 F5 F6 liq i (by omega)) rfl rfl (Nat.le_of_ble_eq_true rfl) rfl (by decide) (by omega) (by omega) (fun E cs1 hx => ?_) (fun v cs1 hx => ?_)
                    · exact absurd hx.1 (by simp)
                    · obtain ⟨e1, rfl⟩ := hx
                      cases e1
                      refine ⟨rfl, ?_⟩
                      refine r_st (st2 := [.int (flS F1 i), .int ((exS F1 i (i + 1) (F5 i) (gnS F1 F5 F6 (fa_fill (fun _ => 0) F2 108) i)) i), .int (nI i), .ref a2]) rfl ?_
                      refine r_cs (cs2 := [(a, .inr (2, [.ref a1, .ref a2, .ref a3, .ref a4, .ref a5, .ref a6, .int liq])), (a1, .inl (0, 108, .inl F1)), (a2, .inl (0, 108, .inl (exS F1 i (i + 1) (F5 i) (gnS F1 F5 F6 (fa_fill (fun _ => 0) F2 108) i)))), (a3, .inl (0, 108, .inl F3)), (a4, .inl (0, 108, .inl F4)), (a5, .inl (0, 108, .inl F5)), (a6, .inl (0, 108, .inl F6))]) rfl ?_
                      refine r_iadd d_Fz_pass_110 (v := ((exS F1 i (i + 1) (F5 i) (gnS F1 F5 F6 (fa_fill (fun _ => 0) F2 108) i)) i) + (flS F1 i)) rfl ?_
                      refine r_iast d_Fz_pass_111 (q0 := 2) rfl (vp_in_nI (by omega) (by omega)) (f' := upd (exS F1 i (i + 1) (F5 i) (gnS F1 F5 F6 (fa_fill (fun _ => 0) F2 108) i)) i (((exS F1 i (i + 1) (F5 i) (gnS F1 F5 F6 (fa_fill (fun _ => 0) F2 108) i)) i) + (flS F1 i))) (by rw [nI_clamp (by omega)]) (cs' := [(a, .inr (2, [.ref a1, .ref a2, .ref a3, .ref a4, .ref a5, .ref a6, .int liq])), (a1, .inl (0, 108, .inl F1)), (a2, .inl (0, 108, .inl (upd (exS F1 i (i + 1) (F5 i) (gnS F1 F5 F6 (fa_fill (fun _ => 0) F2 108) i)) i (((exS F1 i (i + 1) (F5 i) (gnS F1 F5 F6 (fa_fill (fun _ => 0) F2 108) i)) i) + (flS F1 i))))), (a3, .inl (0, 108, .inl F3)), (a4, .inl (0, 108, .inl F4)), (a5, .inl (0, 108, .inl F5)), (a6, .inl (0, 108, .inl F6))]) rfl ?_
                      refine r_iinc (lv' := [(2, .int (nI (i + 1))), (3, .int (nI (i % 12))), (0, .ref a), (1, .int st)]) (v := nI (i + 1)) d_Fz_pass_112 (j := 1) rfl (nI_add _ _) (by decide) rfl ?_
                      refine r_goto (tgt := 10) d_Fz_pass_115 (by decide) ?_
                      refine r_lv (lv' := [(2, .int (nI (i + 1))), (0, .ref a), (1, .int st)]) [0, 2, 3] rfl ?_
                      refine r_lvE (lv2 := [(2, .int (nI (i + 1))), (0, .ref a), (1, .int st)]) (rfl) ?_
                      refine r_cs (cs2 := [(a, .inr (2, [.ref a1, .ref a2, .ref a3, .ref a4, .ref a5, .ref a6, .int liq])), (a1, .inl (0, 108, .inl F1)), (a2, .inl (0, 108, .inl (gnS F1 F5 F6 (fa_fill (fun _ => 0) F2 108) (i + 1)))), (a3, .inl (0, 108, .inl F3)), (a4, .inl (0, 108, .inl F4)), (a5, .inl (0, 108, .inl F5)), (a6, .inl (0, 108, .inl F6))]) (by simp only [gnS, psA, psB, psC, psD, qa, qb, qc, qd, if_true, if_false]) ?_
                      exact ih (i + 1) (by omega) (by omega)
              · have qc : i % 12 = 0 ∨ i % 12 = 11 := Or.inr (z_eqn (b := 11) (by omega) (by decide) c_69)
                refine r_aload_n d_Fz_pass_72 rfl 2 rfl ?_
                refine r_get fs_Fz_15 d_Fz_pass_73 (q0 := 0) rfl rfl ?_
                refine r_iload_n d_Fz_pass_76 rfl 1 rfl ?_
                refine r_dup2_11 d_Fz_pass_77 rfl rfl ?_
                refine r_iald d_Fz_pass_78 (q0 := 2) rfl (vp_in_nI (by omega) (by omega)) (v := (exS F1 i (i + 1) (F5 i) (gnS F1 F5 F6 (fa_fill (fun _ => 0) F2 108) i)) i) (by rw [nI_clamp (by omega)]) ?_
                refine r_aload_n d_Fz_pass_79 rfl 2 rfl ?_
                refine r_iload_n d_Fz_pass_80 rfl 1 rfl ?_
                refine r_callV (As := [.int (nI i)]) (rest := [.int ((exS F1 i (i + 1) (F5 i) (gnS F1 F5 F6 (fa_fill (fun _ => 0) F2 108) i)) i), .int (nI i), .ref a2]) (csC := [(a, .inr (2, [.ref a1, .ref a2, .ref a3, .ref a4, .ref a5, .ref a6, .int liq])), (a1, .inl (0, 108, .inl F1)), (a2, .inl (0, 108, .inl (exS F1 i (i + 1) (F5 i) (gnS F1 F5 F6 (fa_fill (fun _ => 0) F2 108) i)))), (a3, .inl (0, 108, .inl F3)), (a4, .inl (0, 108, .inl F4)), (a5, .inl (0, 108, .inl F5)), (a6, .inl (0, 108, .inl F6))]) (is := [0, 1, 2, 3, 4, 5, 6]) (q0 := 0) rfl rfl ln_Fz_58 w_im_Fz_flowFromBeyond w_se_Fz_flowFromBeyond ok_Fz_pass_Fz_flowFromBeyond d_Fz_pass_81 (C_Fz_flow g a a1 a2 a3 a4 a5 a6 F1 (exS F1 i (i + 1) (F5 i) (gnS F1 F5 F6 (fa_fill (fun _ => 0) F2 108) i)) F3 F4 F5 F6 liq i (by omega)) rfl rfl (Nat.le_of_ble_eq_true rfl) rfl (by decide) (by omega) (by omega) (fun E cs1 hx => ?_) (fun v cs1 hx => ?_)
                · exact absurd hx.1 (by simp)
                · obtain ⟨e1, rfl⟩ := hx
                  cases e1
                  refine ⟨rfl, ?_⟩
                  refine r_st (st2 := [.int (flS F1 i), .int ((exS F1 i (i + 1) (F5 i) (gnS F1 F5 F6 (fa_fill (fun _ => 0) F2 108) i)) i), .int (nI i), .ref a2]) rfl ?_
                  refine r_cs (cs2 := [(a, .inr (2, [.ref a1, .ref a2, .ref a3, .ref a4, .ref a5, .ref a6, .int liq])), (a1, .inl (0, 108, .inl F1)), (a2, .inl (0, 108, .inl (exS F1 i (i + 1) (F5 i) (gnS F1 F5 F6 (fa_fill (fun _ => 0) F2 108) i)))), (a3, .inl (0, 108, .inl F3)), (a4, .inl (0, 108, .inl F4)), (a5, .inl (0, 108, .inl F5)), (a6, .inl (0, 108, .inl F6))]) rfl ?_
                  refine r_iadd d_Fz_pass_84 (v := ((exS F1 i (i + 1) (F5 i) (gnS F1 F5 F6 (fa_fill (fun _ => 0) F2 108) i)) i) + (flS F1 i)) rfl ?_
                  refine r_iast d_Fz_pass_85 (q0 := 2) rfl (vp_in_nI (by omega) (by omega)) (f' := upd (exS F1 i (i + 1) (F5 i) (gnS F1 F5 F6 (fa_fill (fun _ => 0) F2 108) i)) i (((exS F1 i (i + 1) (F5 i) (gnS F1 F5 F6 (fa_fill (fun _ => 0) F2 108) i)) i) + (flS F1 i))) (by rw [nI_clamp (by omega)]) (cs' := [(a, .inr (2, [.ref a1, .ref a2, .ref a3, .ref a4, .ref a5, .ref a6, .int liq])), (a1, .inl (0, 108, .inl F1)), (a2, .inl (0, 108, .inl (upd (exS F1 i (i + 1) (F5 i) (gnS F1 F5 F6 (fa_fill (fun _ => 0) F2 108) i)) i (((exS F1 i (i + 1) (F5 i) (gnS F1 F5 F6 (fa_fill (fun _ => 0) F2 108) i)) i) + (flS F1 i))))), (a3, .inl (0, 108, .inl F3)), (a4, .inl (0, 108, .inl F4)), (a5, .inl (0, 108, .inl F5)), (a6, .inl (0, 108, .inl F6))]) rfl ?_
                  refine r_iload_n d_Fz_pass_86 rfl 1 rfl ?_
                  refine r_bipush d_Fz_pass_87 (v := 12) (by decide) ?_
                  refine r_icmp_lt (tgt := 98) d_Fz_pass_89 (by decide) (fun c_89 => ?_) (fun c_89 => ?_)
                  · have qd : i < 12 ∨ 96 ≤ i := Or.inl (z_lt (b := 12) (by decide) (by omega) c_89)
                    refine r_aload_n d_Fz_pass_98 rfl 2 rfl ?_
                    refine r_get fs_Fz_15 d_Fz_pass_99 (q0 := 0) rfl rfl ?_
                    refine r_iload_n d_Fz_pass_102 rfl 1 rfl ?_
                    refine r_dup2_11 d_Fz_pass_103 rfl rfl ?_
                    refine r_iald d_Fz_pass_104 (q0 := 2) rfl (vp_in_nI (by omega) (by omega)) (v := (upd (exS F1 i (i + 1) (F5 i) (gnS F1 F5 F6 (fa_fill (fun _ => 0) F2 108) i)) i (((exS F1 i (i + 1) (F5 i) (gnS F1 F5 F6 (fa_fill (fun _ => 0) F2 108) i)) i) + (flS F1 i))) i) (by rw [nI_clamp (by omega)]) ?_
                    refine r_aload_n d_Fz_pass_105 rfl 2 rfl ?_
                    refine r_iload_n d_Fz_pass_106 rfl 1 rfl ?_
                    refine r_callV (As := [.int (nI i)]) (rest := [.int ((upd (exS F1 i (i + 1) (F5 i) (gnS F1 F5 F6 (fa_fill (fun _ => 0) F2 108) i)) i (((exS F1 i (i + 1) (F5 i) (gnS F1 F5 F6 (fa_fill (fun _ => 0) F2 108) i)) i) + (flS F1 i))) i), .int (nI i), .ref a2]) (csC := [(a, .inr (2, [.ref a1, .ref a2, .ref a3, .ref a4, .ref a5, .ref a6, .int liq])), (a1, .inl (0, 108, .inl F1)), (a2, .inl (0, 108, .inl (upd (exS F1 i (i + 1) (F5 i) (gnS F1 F5 F6 (fa_fill (fun _ => 0) F2 108) i)) i (((exS F1 i (i + 1) (F5 i) (gnS F1 F5 F6 (fa_fill (fun _ => 0) F2 108) i)) i) + (flS F1 i))))), (a3, .inl (0, 108, .inl F3)), (a4, .inl (0, 108, .inl F4)), (a5, .inl (0, 108, .inl F5)), (a6, .inl (0, 108, .inl F6))]) (is := [0, 1, 2, 3, 4, 5, 6]) (q0 := 0) rfl rfl ln_Fz_58 w_im_Fz_flowFromBeyond w_se_Fz_flowFromBeyond ok_Fz_pass_Fz_flowFromBeyond d_Fz_pass_107 (C_Fz_flow g a a1 a2 a3 a4 a5 a6 F1 (upd (exS F1 i (i + 1) (F5 i) (gnS F1 F5 F6 (fa_fill (fun _ => 0) F2 108) i)) i (((exS F1 i (i + 1) (F5 i) (gnS F1 F5 F6 (fa_fill (fun _ => 0) F2 108) i)) i) + (flS F1 i))) F3 F4 F5 F6 liq i (by omega)) rfl rfl (Nat.le_of_ble_eq_true rfl) rfl (by decide) (by omega) (by omega) (fun E cs1 hx => ?_) (fun v cs1 hx => ?_)
                    · exact absurd hx.1 (by simp)
                    · obtain ⟨e1, rfl⟩ := hx
                      cases e1
                      refine ⟨rfl, ?_⟩
                      refine r_st (st2 := [.int (flS F1 i), .int ((upd (exS F1 i (i + 1) (F5 i) (gnS F1 F5 F6 (fa_fill (fun _ => 0) F2 108) i)) i (((exS F1 i (i + 1) (F5 i) (gnS F1 F5 F6 (fa_fill (fun _ => 0) F2 108) i)) i) + (flS F1 i))) i), .int (nI i), .ref a2]) rfl ?_
                      refine r_cs (cs2 := [(a, .inr (2, [.ref a1, .ref a2, .ref a3, .ref a4, .ref a5, .ref a6, .int liq])), (a1, .inl (0, 108, .inl F1)), (a2, .inl (0, 108, .inl (upd (exS F1 i (i + 1) (F5 i) (gnS F1 F5 F6 (fa_fill (fun _ => 0) F2 108) i)) i (((exS F1 i (i + 1) (F5 i) (gnS F1 F5 F6 (fa_fill (fun _ => 0) F2 108) i)) i) + (flS F1 i))))), (a3, .inl (0, 108, .inl F3)), (a4, .inl (0, 108, .inl F4)), (a5, .inl (0, 108, .inl F5)), (a6, .inl (0, 108, .inl F6))]) rfl ?_
                      refine r_iadd d_Fz_pass_110 (v := ((upd (exS F1 i (i + 1) (F5 i) (gnS F1 F5 F6 (fa_fill (fun _ => 0) F2 108) i)) i (((exS F1 i (i + 1) (F5 i) (gnS F1 F5 F6 (fa_fill (fun _ => 0) F2 108) i)) i) + (flS F1 i))) i) + (flS F1 i)) rfl ?_
                      refine r_iast d_Fz_pass_111 (q0 := 2) rfl (vp_in_nI (by omega) (by omega)) (f' := upd (upd (exS F1 i (i + 1) (F5 i) (gnS F1 F5 F6 (fa_fill (fun _ => 0) F2 108) i)) i (((exS F1 i (i + 1) (F5 i) (gnS F1 F5 F6 (fa_fill (fun _ => 0) F2 108) i)) i) + (flS F1 i))) i (((upd (exS F1 i (i + 1) (F5 i) (gnS F1 F5 F6 (fa_fill (fun _ => 0) F2 108) i)) i (((exS F1 i (i + 1) (F5 i) (gnS F1 F5 F6 (fa_fill (fun _ => 0) F2 108) i)) i) + (flS F1 i))) i) + (flS F1 i))) (by rw [nI_clamp (by omega)]) (cs' := [(a, .inr (2, [.ref a1, .ref a2, .ref a3, .ref a4, .ref a5, .ref a6, .int liq])), (a1, .inl (0, 108, .inl F1)), (a2, .inl (0, 108, .inl (upd (upd (exS F1 i (i + 1) (F5 i) (gnS F1 F5 F6 (fa_fill (fun _ => 0) F2 108) i)) i (((exS F1 i (i + 1) (F5 i) (gnS F1 F5 F6 (fa_fill (fun _ => 0) F2 108) i)) i) + (flS F1 i))) i (((upd (exS F1 i (i + 1) (F5 i) (gnS F1 F5 F6 (fa_fill (fun _ => 0) F2 108) i)) i (((exS F1 i (i + 1) (F5 i) (gnS F1 F5 F6 (fa_fill (fun _ => 0) F2 108) i)) i) + (flS F1 i))) i) + (flS F1 i))))), (a3, .inl (0, 108, .inl F3)), (a4, .inl (0, 108, .inl F4)), (a5, .inl (0, 108, .inl F5)), (a6, .inl (0, 108, .inl F6))]) rfl ?_
                      refine r_iinc (lv' := [(2, .int (nI (i + 1))), (3, .int (nI (i % 12))), (0, .ref a), (1, .int st)]) (v := nI (i + 1)) d_Fz_pass_112 (j := 1) rfl (nI_add _ _) (by decide) rfl ?_
                      refine r_goto (tgt := 10) d_Fz_pass_115 (by decide) ?_
                      refine r_lv (lv' := [(2, .int (nI (i + 1))), (0, .ref a), (1, .int st)]) [0, 2, 3] rfl ?_
                      refine r_lvE (lv2 := [(2, .int (nI (i + 1))), (0, .ref a), (1, .int st)]) (rfl) ?_
                      refine r_cs (cs2 := [(a, .inr (2, [.ref a1, .ref a2, .ref a3, .ref a4, .ref a5, .ref a6, .int liq])), (a1, .inl (0, 108, .inl F1)), (a2, .inl (0, 108, .inl (gnS F1 F5 F6 (fa_fill (fun _ => 0) F2 108) (i + 1)))), (a3, .inl (0, 108, .inl F3)), (a4, .inl (0, 108, .inl F4)), (a5, .inl (0, 108, .inl F5)), (a6, .inl (0, 108, .inl F6))]) (by simp only [gnS, psA, psB, psC, psD, qa, qb, qc, qd, if_true, if_false]) ?_
                      exact ih (i + 1) (by omega) (by omega)
                  · have q1 := z_nlt (b := 12) (by decide) (by omega) c_89
                    refine r_iload_n d_Fz_pass_92 rfl 1 rfl ?_
                    refine r_bipush d_Fz_pass_93 (v := 96) (by decide) ?_
                    refine r_icmp_lt (tgt := 112) d_Fz_pass_95 (by decide) (fun c_95 => ?_) (fun c_95 => ?_)
                    · have q2 := z_lt (b := 96) (by decide) (by omega) c_95
                      have qd : ¬ (i < 12 ∨ 96 ≤ i) := by omega
                      refine r_iinc (lv' := [(2, .int (nI (i + 1))), (3, .int (nI (i % 12))), (0, .ref a), (1, .int st)]) (v := nI (i + 1)) d_Fz_pass_112 (j := 1) rfl (nI_add _ _) (by decide) rfl ?_
                      refine r_goto (tgt := 10) d_Fz_pass_115 (by decide) ?_
                      refine r_lv (lv' := [(2, .int (nI (i + 1))), (0, .ref a), (1, .int st)]) [0, 2, 3] rfl ?_
                      refine r_lvE (lv2 := [(2, .int (nI (i + 1))), (0, .ref a), (1, .int st)]) (rfl) ?_
                      refine r_cs (cs2 := [(a, .inr (2, [.ref a1, .ref a2, .ref a3, .ref a4, .ref a5, .ref a6, .int liq])), (a1, .inl (0, 108, .inl F1)), (a2, .inl (0, 108, .inl (gnS F1 F5 F6 (fa_fill (fun _ => 0) F2 108) (i + 1)))), (a3, .inl (0, 108, .inl F3)), (a4, .inl (0, 108, .inl F4)), (a5, .inl (0, 108, .inl F5)), (a6, .inl (0, 108, .inl F6))]) (by simp only [gnS, psA, psB, psC, psD, qa, qb, qc, qd, if_true, if_false]) ?_
                      exact ih (i + 1) (by omega) (by omega)
                    · have qd : i < 12 ∨ 96 ≤ i := Or.inr (z_nlt (b := 96) (by decide) (by omega) c_95)
                      refine r_aload_n d_Fz_pass_98 rfl 2 rfl ?_
                      refine r_get fs_Fz_15 d_Fz_pass_99 (q0 := 0) rfl rfl ?_
                      refine r_iload_n d_Fz_pass_102 rfl 1 rfl ?_
                      refine r_dup2_11 d_Fz_pass_103 rfl rfl ?_
                      refine r_iald d_Fz_pass_104 (q0 := 2) rfl (vp_in_nI (by omega) (by omega)) (v := (upd (exS F1 i (i + 1) (F5 i) (gnS F1 F5 F6 (fa_fill (fun _ => 0) F2 108) i)) i (((exS F1 i (i + 1) (F5 i) (gnS F1 F5 F6 (fa_fill (fun _ => 0) F2 108) i)) i) + (flS F1 i))) i) (by rw [nI_clamp (by omega)]) ?_
                      refine r_aload_n d_Fz_pass_105 rfl 2 rfl ?_
                      refine r_iload_n d_Fz_pass_106 rfl 1 rfl ?_
                      refine r_callV (As := [.int (nI i)]) (rest := [.int ((upd (exS F1 i (i + 1) (F5 i) (gnS F1 F5 F6 (fa_fill (fun _ => 0) F2 108) i)) i (((exS F1 i (i + 1) (F5 i) (gnS F1 F5 F6 (fa_fill (fun _ => 0) F2 108) i)) i) + (flS F1 i))) i), .int (nI i), .ref a2]) (csC := [(a, .inr (2, [.ref a1, .ref a2, .ref a3, .ref a4, .ref a5, .ref a6, .int liq])), (a1, .inl (0, 108, .inl F1)), (a2, .inl (0, 108, .inl (upd (exS F1 i (i + 1) (F5 i) (gnS F1 F5 F6 (fa_fill (fun _ => 0) F2 108) i)) i (((exS F1 i (i + 1) (F5 i) (gnS F1 F5 F6 (fa_fill (fun _ => 0) F2 108) i)) i) + (flS F1 i))))), (a3, .inl (0, 108, .inl F3)), (a4, .inl (0, 108, .inl F4)), (a5, .inl (0, 108, .inl F5)), (a6, .inl (0, 108, .inl F6))]) (is := [0, 1, 2, 3, 4, 5, 6]) (q0 := 0) rfl rfl ln_Fz_58 w_im_Fz_flowFromBeyond w_se_Fz_flowFromBeyond ok_Fz_pass_Fz_flowFromBeyond d_Fz_pass_107 (C_Fz_flow g a a1 a2 a3 a4 a5 a6 F1 (upd (exS F1 i (i + 1) (F5 i) (gnS F1 F5 F6 (fa_fill (fun _ => 0) F2 108) i)) i (((exS F1 i (i + 1) (F5 i) (gnS F1 F5 F6 (fa_fill (fun _ => 0) F2 108) i)) i) + (flS F1 i))) F3 F4 F5 F6 liq i (by omega)) rfl rfl (Nat.le_of_ble_eq_true rfl) rfl (by decide) (by omega) (by omega) (fun E cs1 hx => ?_) (fun v cs1 hx => ?_)
                      · exact absurd hx.1 (by simp)
                      · obtain ⟨e1, rfl⟩ := hx
                        cases e1
                        refine ⟨rfl, ?_⟩
                        refine r_st (st2 := [.int (flS F1 i), .int ((upd (exS F1 i (i + 1) (F5 i) (gnS F1 F5 F6 (fa_fill (fun _ => 0) F2 108) i)) i (((exS F1 i (i + 1) (F5 i) (gnS F1 F5 F6 (fa_fill (fun _ => 0) F2 108) i)) i) + (flS F1 i))) i), .int (nI i), .ref a2]) rfl ?_
                        refine r_cs (cs2 := [(a, .inr (2, [.ref a1, .ref a2, .ref a3, .ref a4, .ref a5, .ref a6, .int liq])), (a1, .inl (0, 108, .inl F1)), (a2, .inl (0, 108, .inl (upd (exS F1 i (i + 1) (F5 i) (gnS F1 F5 F6 (fa_fill (fun _ => 0) F2 108) i)) i (((exS F1 i (i + 1) (F5 i) (gnS F1 F5 F6 (fa_fill (fun _ => 0) F2 108) i)) i) + (flS F1 i))))), (a3, .inl (0, 108, .inl F3)), (a4, .inl (0, 108, .inl F4)), (a5, .inl (0, 108, .inl F5)), (a6, .inl (0, 108, .inl F6))]) rfl ?_
                        refine r_iadd d_Fz_pass_110 (v := ((upd (exS F1 i (i + 1) (F5 i) (gnS F1 F5 F6 (fa_fill (fun _ => 0) F2 108) i)) i (((exS F1 i (i + 1) (F5 i) (gnS F1 F5 F6 (fa_fill (fun _ => 0) F2 108) i)) i) + (flS F1 i))) i) + (flS F1 i)) rfl ?_
                        refine r_iast d_Fz_pass_111 (q0 := 2) rfl (vp_in_nI (by omega) (by omega)) (f' := upd (upd (exS F1 i (i + 1) (F5 i) (gnS F1 F5 F6 (fa_fill (fun _ => 0) F2 108) i)) i (((exS F1 i (i + 1) (F5 i) (gnS F1 F5 F6 (fa_fill (fun _ => 0) F2 108) i)) i) + (flS F1 i))) i (((upd (exS F1 i (i + 1) (F5 i) (gnS F1 F5 F6 (fa_fill (fun _ => 0) F2 108) i)) i (((exS F1 i (i + 1) (F5 i) (gnS F1 F5 F6 (fa_fill (fun _ => 0) F2 108) i)) i) + (flS F1 i))) i) + (flS F1 i))) (by rw [nI_clamp (by omega)]) (cs' := [(a, .inr (2, [.ref a1, .ref a2, .ref a3, .ref a4, .ref a5, .ref a6, .int liq])), (a1, .inl (0, 108, .inl F1)), (a2, .inl (0, 108, .inl (upd (upd (exS F1 i (i + 1) (F5 i) (gnS F1 F5 F6 (fa_fill (fun _ => 0) F2 108) i)) i (((exS F1 i (i + 1) (F5 i) (gnS F1 F5 F6 (fa_fill (fun _ => 0) F2 108) i)) i) + (flS F1 i))) i (((upd (exS F1 i (i + 1) (F5 i) (gnS F1 F5 F6 (fa_fill (fun _ => 0) F2 108) i)) i (((exS F1 i (i + 1) (F5 i) (gnS F1 F5 F6 (fa_fill (fun _ => 0) F2 108) i)) i) + (flS F1 i))) i) + (flS F1 i))))), (a3, .inl (0, 108, .inl F3)), (a4, .inl (0, 108, .inl F4)), (a5, .inl (0, 108, .inl F5)), (a6, .inl (0, 108, .inl F6))]) rfl ?_
                        refine r_iinc (lv' := [(2, .int (nI (i + 1))), (3, .int (nI (i % 12))), (0, .ref a), (1, .int st)]) (v := nI (i + 1)) d_Fz_pass_112 (j := 1) rfl (nI_add _ _) (by decide) rfl ?_
                        refine r_goto (tgt := 10) d_Fz_pass_115 (by decide) ?_
                        refine r_lv (lv' := [(2, .int (nI (i + 1))), (0, .ref a), (1, .int st)]) [0, 2, 3] rfl ?_
                        refine r_lvE (lv2 := [(2, .int (nI (i + 1))), (0, .ref a), (1, .int st)]) (rfl) ?_
                        refine r_cs (cs2 := [(a, .inr (2, [.ref a1, .ref a2, .ref a3, .ref a4, .ref a5, .ref a6, .int liq])), (a1, .inl (0, 108, .inl F1)), (a2, .inl (0, 108, .inl (gnS F1 F5 F6 (fa_fill (fun _ => 0) F2 108) (i + 1)))), (a3, .inl (0, 108, .inl F3)), (a4, .inl (0, 108, .inl F4)), (a5, .inl (0, 108, .inl F5)), (a6, .inl (0, 108, .inl F6))]) (by simp only [gnS, psA, psB, psC, psD, qa, qb, qc, qd, if_true, if_false]) ?_
                        exact ih (i + 1) (by omega) (by omega)
          · have qb : i < 96 := z_nle (a := 96) (by omega) (by decide) c_44
            refine r_aload_n d_Fz_pass_47 rfl 2 rfl ?_
            refine r_iload_n d_Fz_pass_48 rfl 1 rfl ?_
            refine r_iload_n d_Fz_pass_49 rfl 1 rfl ?_
            refine r_bipush d_Fz_pass_50 (v := 12) (by decide) ?_
            refine r_iadd d_Fz_pass_52 (v := nI (i + 12)) (nI_add _ _) ?_
            refine r_aload_n d_Fz_pass_53 rfl 2 rfl ?_
            refine r_get fs_Fz_27 d_Fz_pass_54 (q0 := 0) rfl rfl ?_
            refine r_iload_n d_Fz_pass_57 rfl 1 rfl ?_
            refine r_iald d_Fz_pass_58 (q0 := 6) rfl (vp_in_nI (by omega) (by omega)) (v := F6 i) (by rw [nI_clamp (by omega)]) ?_
            refine r_callV (As := [.int (nI i), .int (nI (i + 12)), .int (F6 i)]) (rest := []) (csC := [(a, .inr (2, [.ref a1, .ref a2, .ref a3, .ref a4, .ref a5, .ref a6, .int liq])), (a1, .inl (0, 108, .inl F1)), (a2, .inl (0, 108, .inl (exS F1 i (i + 1) (F5 i) (gnS F1 F5 F6 (fa_fill (fun _ => 0) F2 108) i)))), (a3, .inl (0, 108, .inl F3)), (a4, .inl (0, 108, .inl F4)), (a5, .inl (0, 108, .inl F5)), (a6, .inl (0, 108, .inl F6))]) (is := [0, 1, 2, 3, 4, 5, 6]) (q0 := 0) rfl rfl ln_Fz_55 w_im_Fz_exchange w_se_Fz_exchange ok_Fz_pass_Fz_exchange d_Fz_pass_59 (C_Fz_exchange g a a1 a2 a3 a4 a5 a6 F1 (exS F1 i (i + 1) (F5 i) (gnS F1 F5 F6 (fa_fill (fun _ => 0) F2 108) i)) F3 F4 F5 F6 liq i (i + 12) (by omega) (by omega) (F6 i)) rfl rfl (Nat.le_of_ble_eq_true rfl) rfl (by decide) (by omega) (by omega) (fun E cs1 hx => ?_) (fun v cs1 hx => ?_)
            · exact absurd hx.1 (by simp)
            · obtain ⟨e1, rfl⟩ := hx
              cases e1
              refine ⟨rfl, ?_⟩
              refine r_st (st2 := []) rfl ?_
              refine r_cs (cs2 := [(a, .inr (2, [.ref a1, .ref a2, .ref a3, .ref a4, .ref a5, .ref a6, .int liq])), (a1, .inl (0, 108, .inl F1)), (a2, .inl (0, 108, .inl (exS F1 i (i + 12) (F6 i) (exS F1 i (i + 1) (F5 i) (gnS F1 F5 F6 (fa_fill (fun _ => 0) F2 108) i))))), (a3, .inl (0, 108, .inl F3)), (a4, .inl (0, 108, .inl F4)), (a5, .inl (0, 108, .inl F5)), (a6, .inl (0, 108, .inl F6))]) rfl ?_
              refine r_iload_n d_Fz_pass_62 rfl 0 rfl ?_
              refine r_if_eq (tgt := 72) d_Fz_pass_63 (by decide) (fun c_63 => ?_) (fun c_63 => ?_)
              · have qc : i % 12 = 0 ∨ i % 12 = 11 := Or.inl (z_eqn (b := 0) (by omega) (by decide) c_63)
                refine r_aload_n d_Fz_pass_72 rfl 2 rfl ?_
                refine r_get fs_Fz_15 d_Fz_pass_73 (q0 := 0) rfl rfl ?_
                refine r_iload_n d_Fz_pass_76 rfl 1 rfl ?_
                refine r_dup2_11 d_Fz_pass_77 rfl rfl ?_
                refine r_iald d_Fz_pass_78 (q0 := 2) rfl (vp_in_nI (by omega) (by omega)) (v := (exS F1 i (i + 12) (F6 i) (exS F1 i (i + 1) (F5 i) (gnS F1 F5 F6 (fa_fill (fun _ => 0) F2 108) i))) i) (by rw [nI_clamp (by omega)]) ?_
                refine r_aload_n d_Fz_pass_79 rfl 2 rfl ?_
                refine r_iload_n d_Fz_pass_80 rfl 1 rfl ?_
                refine r_callV (As := [.int (nI i)]) (rest := [.int ((exS F1 i (i + 12) (F6 i) (exS F1 i (i + 1) (F5 i) (gnS F1 F5 F6 (fa_fill (fun _ => 0) F2 108) i))) i), .int (nI i), .ref a2]) (csC := [(a, .inr (2, [.ref a1, .ref a2, .ref a3, .ref a4, .ref a5, .ref a6, .int liq])), (a1, .inl (0, 108, .inl F1)), (a2, .inl (0, 108, .inl (exS F1 i (i + 12) (F6 i) (exS F1 i (i + 1) (F5 i) (gnS F1 F5 F6 (fa_fill (fun _ => 0) F2 108) i))))), (a3, .inl (0, 108, .inl F3)), (a4, .inl (0, 108, .inl F4)), (a5, .inl (0, 108, .inl F5)), (a6, .inl (0, 108, .inl F6))]) (is := [0, 1, 2, 3, 4, 5, 6]) (q0 := 0) rfl rfl ln_Fz_58 w_im_Fz_flowFromBeyond w_se_Fz_flowFromBeyond ok_Fz_pass_Fz_flowFromBeyond d_Fz_pass_81 (C_Fz_flow g a a1 a2 a3 a4 a5 a6 F1 (exS F1 i (i + 12) (F6 i) (exS F1 i (i + 1) (F5 i) (gnS F1 F5 F6 (fa_fill (fun _ => 0) F2 108) i))) F3 F4 F5 F6 liq i (by omega)) rfl rfl (Nat.le_of_ble_eq_true rfl) rfl (by decide) (by omega) (by omega) (fun E cs1 hx => ?_) (fun v cs1 hx => ?_)
                · exact absurd hx.1 (by simp)
                · obtain ⟨e1, rfl⟩ := hx
                  cases e1
                  refine ⟨rfl, ?_⟩
                  refine r_st (st2 := [.int (flS F1 i), .int ((exS F1 i (i + 12) (F6 i) (exS F1 i (i + 1) (F5 i) (gnS F1 F5 F6 (fa_fill (fun _ => 0) F2 108) i))) i), .int (nI i), .ref a2]) rfl ?_
                  refine r_cs (cs2 := [(a, .inr (2, [.ref a1, .ref a2, .ref a3, .ref a4, .ref a5, .ref a6, .int liq])), (a1, .inl (0, 108, .inl F1)), (a2, .inl (0, 108, .inl (exS F1 i (i + 12) (F6 i) (exS F1 i (i + 1) (F5 i) (gnS F1 F5 F6 (fa_fill (fun _ => 0) F2 108) i))))), (a3, .inl (0, 108, .inl F3)), (a4, .inl (0, 108, .inl F4)), (a5, .inl (0, 108, .inl F5)), (a6, .inl (0, 108, .inl F6))]) rfl ?_
                  refine r_iadd d_Fz_pass_84 (v := ((exS F1 i (i + 12) (F6 i) (exS F1 i (i + 1) (F5 i) (gnS F1 F5 F6 (fa_fill (fun _ => 0) F2 108) i))) i) + (flS F1 i)) rfl ?_
                  refine r_iast d_Fz_pass_85 (q0 := 2) rfl (vp_in_nI (by omega) (by omega)) (f' := upd (exS F1 i (i + 12) (F6 i) (exS F1 i (i + 1) (F5 i) (gnS F1 F5 F6 (fa_fill (fun _ => 0) F2 108) i))) i (((exS F1 i (i + 12) (F6 i) (exS F1 i (i + 1) (F5 i) (gnS F1 F5 F6 (fa_fill (fun _ => 0) F2 108) i))) i) + (flS F1 i))) (by rw [nI_clamp (by omega)]) (cs' := [(a, .inr (2, [.ref a1, .ref a2, .ref a3, .ref a4, .ref a5, .ref a6, .int liq])), (a1, .inl (0, 108, .inl F1)), (a2, .inl (0, 108, .inl (upd (exS F1 i (i + 12) (F6 i) (exS F1 i (i + 1) (F5 i) (gnS F1 F5 F6 (fa_fill (fun _ => 0) F2 108) i))) i (((exS F1 i (i + 12) (F6 i) (exS F1 i (i + 1) (F5 i) (gnS F1 F5 F6 (fa_fill (fun _ => 0) F2 108) i))) i) + (flS F1 i))))), (a3, .inl (0, 108, .inl F3)), (a4, .inl (0, 108, .inl F4)), (a5, .inl (0, 108, .inl F5)), (a6, .inl (0, 108, .inl F6))]) rfl ?_
                  refine r_iload_n d_Fz_pass_86 rfl 1 rfl ?_
                  refine r_bipush d_Fz_pass_87 (v := 12) (by decide) ?_
                  refine r_icmp_lt (tgt := 98) d_Fz_pass_89 (by decide) (fun c_89 => ?_) (fun c_89 => ?_)
                  · have qd : i < 12 ∨ 96 ≤ i := Or.inl (z_lt (b := 12) (by decide) (by omega) c_89)
                    refine r_aload_n d_Fz_pass_98 rfl 2 rfl ?_
                    refine r_get fs_Fz_15 d_Fz_pass_99 (q0 := 0) rfl rfl ?_
                    refine r_iload_n d_Fz_pass_102 rfl 1 rfl ?_
                    refine r_dup2_11 d_Fz_pass_103 rfl rfl ?_
                    refine r_iald d_Fz_pass_104 (q0 := 2) rfl (vp_in_nI (by omega) (by omega)) (v := (upd (exS F1 i (i + 12) (F6 i) (exS F1 i (i + 1) (F5 i) (gnS F1 F5 F6 (fa_fill (fun _ => 0) F2 108) i))) i (((exS F1 i (i + 12) (F6 i) (exS F1 i (i + 1) (F5 i) (gnS F1 F5 F6 (fa_fill (fun _ => 0) F2 108) i))) i) + (flS F1 i))) i) (by rw [nI_clamp (by omega)]) ?_
                    refine r_aload_n d_Fz_pass_105 rfl 2 rfl ?_
                    refine r_iload_n d_Fz_pass_106 rfl 1 rfl ?_
                    refine r_callV (As := [.int (nI i)]) (rest := [.int ((upd (exS F1 i (i + 12) (F6 i) (exS F1 i (i + 1) (F5 i) (gnS F1 F5 F6 (fa_fill (fun _ => 0) F2 108) i))) i (((exS F1 i (i + 12) (F6 i) (exS F1 i (i + 1) (F5 i) (gnS F1 F5 F6 (fa_fill (fun _ => 0) F2 108) i))) i) + (flS F1 i))) i), .int (nI i), .ref a2]) (csC := [(a, .inr (2, [.ref a1, .ref a2, .ref a3, .ref a4, .ref a5, .ref a6, .int liq])), (a1, .inl (0, 108, .inl F1)), (a2, .inl (0, 108, .inl (upd (exS F1 i (i + 12) (F6 i) (exS F1 i (i + 1) (F5 i) (gnS F1 F5 F6 (fa_fill (fun _ => 0) F2 108) i))) i (((exS F1 i (i + 12) (F6 i) (exS F1 i (i + 1) (F5 i) (gnS F1 F5 F6 (fa_fill (fun _ => 0) F2 108) i))) i) + (flS F1 i))))), (a3, .inl (0, 108, .inl F3)), (a4, .inl (0, 108, .inl F4)), (a5, .inl (0, 108, .inl F5)), (a6, .inl (0, 108, .inl F6))]) (is := [0, 1, 2, 3, 4, 5, 6]) (q0 := 0) rfl rfl ln_Fz_58 w_im_Fz_flowFromBeyond w_se_Fz_flowFromBeyond ok_Fz_pass_Fz_flowFromBeyond d_Fz_pass_107 (C_Fz_flow g a a1 a2 a3 a4 a5 a6 F1 (upd (exS F1 i (i + 12) (F6 i) (exS F1 i (i + 1) (F5 i) (gnS F1 F5 F6 (fa_fill (fun _ => 0) F2 108) i))) i (((exS F1 i (i + 12) (F6 i) (exS F1 i (i + 1) (F5 i) (gnS F1 F5 F6 (fa_fill (fun _ => 0) F2 108) i))) i) + (flS F1 i))) F3 F4 F5 F6 liq i (by omega)) rfl rfl (Nat.le_of_ble_eq_true rfl) rfl (by decide) (by omega) (by omega) (fun E cs1 hx => ?_) (fun v cs1 hx => ?_)
                    · exact absurd hx.1 (by simp)
                    · obtain ⟨e1, rfl⟩ := hx
                      cases e1
                      refine ⟨rfl, ?_⟩
                      refine r_st (st2 := [.int (flS F1 i), .int ((upd (exS F1 i (i + 12) (F6 i) (exS F1 i (i + 1) (F5 i) (gnS F1 F5 F6 (fa_fill (fun _ => 0) F2 108) i))) i (((exS F1 i (i + 12) (F6 i) (exS F1 i (i + 1) (F5 i) (gnS F1 F5 F6 (fa_fill (fun _ => 0) F2 108) i))) i) + (flS F1 i))) i), .int (nI i), .ref a2]) rfl ?_
                      refine r_cs (cs2 := [(a, .inr (2, [.ref a1, .ref a2, .ref a3, .ref a4, .ref a5, .ref a6, .int liq])), (a1, .inl (0, 108, .inl F1)), (a2, .inl (0, 108, .inl (upd (exS F1 i (i + 12) (F6 i) (exS F1 i (i + 1) (F5 i) (gnS F1 F5 F6 (fa_fill (fun _ => 0) F2 108) i))) i (((exS F1 i (i + 12) (F6 i) (exS F1 i (i + 1) (F5 i) (gnS F1 F5 F6 (fa_fill (fun _ => 0) F2 108) i))) i) + (flS F1 i))))), (a3, .inl (0, 108, .inl F3)), (a4, .inl (0, 108, .inl F4)), (a5, .inl (0, 108, .inl F5)), (a6, .inl (0, 108, .inl F6))]) rfl ?_
                      refine r_iadd d_Fz_pass_110 (v := ((upd (exS F1 i (i + 12) (F6 i) (exS F1 i (i + 1) (F5 i) (gnS F1 F5 F6 (fa_fill (fun _ => 0) F2 108) i))) i (((exS F1 i (i + 12) (F6 i) (exS F1 i (i + 1) (F5 i) (gnS F1 F5 F6 (fa_fill (fun _ => 0) F2 108) i))) i) + (flS F1 i))) i) + (flS F1 i)) rfl ?_
                      refine r_iast d_Fz_pass_111 (q0 := 2) rfl (vp_in_nI (by omega) (by omega)) (f' := upd (upd (exS F1 i (i + 12) (F6 i) (exS F1 i (i + 1) (F5 i) (gnS F1 F5 F6 (fa_fill (fun _ => 0) F2 108) i))) i (((exS F1 i (i + 12) (F6 i) (exS F1 i (i + 1) (F5 i) (gnS F1 F5 F6 (fa_fill (fun _ => 0) F2 108) i))) i) + (flS F1 i))) i (((upd (exS F1 i (i + 12) (F6 i) (exS F1 i (i + 1) (F5 i) (gnS F1 F5 F6 (fa_fill (fun _ => 0) F2 108) i))) i (((exS F1 i (i + 12) (F6 i) (exS F1 i (i + 1) (F5 i) (gnS F1 F5 F6 (fa_fill (fun _ => 0) F2 108) i))) i) + (flS F1 i))) i) + (flS F1 i))) (by rw [nI_clamp (by omega)]) (cs' := [(a, .inr (2, [.ref a1, .ref a2, .ref a3, .ref a4, .ref a5, .ref a6, .int liq])), (a1, .inl (0, 108, .inl F1)), (a2, .inl (0, 108, .inl (upd (upd (exS F1 i (i + 12) (F6 i) (exS F1 i (i + 1) (F5 i) (gnS F1 F5 F6 (fa_fill (fun _ => 0) F2 108) i))) i (((exS F1 i (i + 12) (F6 i) (exS F1 i (i + 1) (F5 i) (gnS F1 F5 F6 (fa_fill (fun _ => 0) F2 108) i))) i) + (flS F1 i))) i (((upd (exS F1 i (i + 12) (F6 i) (exS F1 i (i + 1) (F5 i) (gnS F1 F5 F6 (fa_fill (fun _ => 0) F2 108) i))) i (((exS F1 i (i + 12) (F6 i) (exS F1 i (i + 1) (F5 i) (gnS F1 F5 F6 (fa_fill (fun _ => 0) F2 108) i))) i) + (flS F1 i))) i) + (flS F1 i))))), (a3, .inl (0, 108, .inl F3)), (a4, .inl (0, 108, .inl F4)), (a5, .inl (0, 108, .inl F5)), (a6, .inl (0, 108, .inl F6))]) rfl ?_
                      refine r_iinc (lv' := [(2, .int (nI (i + 1))), (3, .int (nI (i % 12))), (0, .ref a), (1, .int st)]) (v := nI (i + 1)) d_Fz_pass_112 (j := 1) rfl (nI_add _ _) (by decide) rfl ?_
                      refine r_goto (tgt := 10) d_Fz_pass_115 (by decide) ?_
                      refine r_lv (lv' := [(2, .int (nI (i + 1))), (0, .ref a), (1, .int st)]) [0, 2, 3] rfl ?_
                      refine r_lvE (lv2 := [(2, .int (nI (i + 1))), (0, .ref a), (1, .int st)]) (rfl) ?_
                      refine r_cs (cs2 := [(a, .inr (2, [.ref a1, .ref a2, .ref a3, .ref a4, .ref a5, .ref a6, .int liq])), (a1, .inl (0, 108, .inl F1)), (a2, .inl (0, 108, .inl (gnS F1 F5 F6 (fa_fill (fun _ => 0) F2 108) (i + 1)))), (a3, .inl (0, 108, .inl F3)), (a4, .inl (0, 108, .inl F4)), (a5, .inl (0, 108, .inl F5)), (a6, .inl (0, 108, .inl F6))]) (by simp only [gnS, psA, psB, psC, psD, qa, qb, qc, qd, if_true, if_false]) ?_
                      exact ih (i + 1) (by omega) (by omega)
                  · have q1 := z_nlt (b := 12) (by decide) (by omega) c_89
                    refine r_iload_n d_Fz_pass_92 rfl 1 rfl ?_
                    refine r_bipush d_Fz_pass_93 (v := 96) (by decide) ?_
                    refine r_icmp_lt (tgt := 112) d_Fz_pass_95 (by decide) (fun c_95 => ?_) (fun c_95 => ?_)
                    · have q2 := z_lt (b := 96) (by decide) (by omega) c_95
                      have qd : ¬ (i < 12 ∨ 96 ≤ i) := by omega
                      refine r_iinc (lv' := [(2, .int (nI (i + 1))), (3, .int (nI (i % 12))), (0, .ref a), (1, .int st)]) (v := nI (i + 1)) d_Fz_pass_112 (j := 1) rfl (nI_add _ _) (by decide) rfl ?_
                      refine r_goto (tgt := 10) d_Fz_pass_115 (by decide) ?_
                      refine r_lv (lv' := [(2, .int (nI (i + 1))), (0, .ref a), (1, .int st)]) [0, 2, 3] rfl ?_
                      refine r_lvE (lv2 := [(2, .int (nI (i + 1))), (0, .ref a), (1, .int st)]) (rfl) ?_
                      refine r_cs (cs2 := [(a, .inr (2, [.ref a1, .ref a2, .ref a3, .ref a4, .ref a5, .ref a6, .int liq])), (a1, .inl (0, 108, .inl F1)), (a2, .inl (0, 108, .inl (gnS F1 F5 F6 (fa_fill (fun _ => 0) F2 108) (i + 1)))), (a3, .inl (0, 108, .inl F3)), (a4, .inl (0, 108, .inl F4)), (a5, .inl (0, 108, .inl F5)), (a6, .inl (0, 108, .inl F6))]) (by simp only [gnS, psA, psB, psC, psD, qa, qb, qc, qd, if_true, if_false]) ?_
                      exact ih (i + 1) (by omega) (by omega)
                    · have qd : i < 12 ∨ 96 ≤ i := Or.inr (z_nlt (b := 96) (by decide) (by omega) c_95)
                      refine r_aload_n d_Fz_pass_98 rfl 2 rfl ?_
                      refine r_get fs_Fz_15 d_Fz_pass_99 (q0 := 0) rfl rfl ?_
                      refine r_iload_n d_Fz_pass_102 rfl 1 rfl ?_
                      refine r_dup2_11 d_Fz_pass_103 rfl rfl ?_
                      refine r_iald d_Fz_pass_104 (q0 := 2) rfl (vp_in_nI (by omega) (by omega)) (v := (upd (exS F1 i (i + 12) (F6 i) (exS F1 i (i + 1) (F5 i) (gnS F1 F5 F6 (fa_fill (fun _ => 0) F2 108) i))) i (((exS F1 i (i + 12) (F6 i) (exS F1 i (i + 1) (F5 i) (gnS F1 F5 F6 (fa_fill (fun _ => 0) F2 108) i))) i) + (flS F1 i))) i) (by rw [nI_clamp (by omega)]) ?_
                      refine r_aload_n d_Fz_pass_105 rfl 2 rfl ?_
                      refine r_iload_n d_Fz_pass_106 rfl 1 rfl ?_
                      refine r_callV (As := [.int (nI i)]) (rest := [.int ((upd (exS F1 i (i + 12) (F6 i) (exS F1 i (i + 1) (F5 i) (gnS F1 F5 F6 (fa_fill (fun _ => 0) F2 108) i))) i (((exS F1 i (i + 12) (F6 i) (exS F1 i (i + 1) (F5 i) (gnS F1 F5 F6 (fa_fill (fun _ => 0) F2 108) i))) i) + (flS F1 i))) i), .int (nI i), .ref a2]) (csC := [(a, .inr (2, [.ref a1, .ref a2, .ref a3, .ref a4, .ref a5, .ref a6, .int liq])), (a1, .inl (0, 108, .inl F1)), (a2, .inl (0, 108, .inl (upd (exS F1 i (i + 12) (F6 i) (exS F1 i (i + 1) (F5 i) (gnS F1 F5 F6 (fa_fill (fun _ => 0) F2 108) i))) i (((exS F1 i (i + 12) (F6 i) (exS F1 i (i + 1) (F5 i) (gnS F1 F5 F6 (fa_fill (fun _ => 0) F2 108) i))) i) + (flS F1 i))))), (a3, .inl (0, 108, .inl F3)), (a4, .inl (0, 108, .inl F4)), (a5, .inl (0, 108, .inl F5)), (a6, .inl (0, 108, .inl F6))]) (is := [0, 1, 2, 3, 4, 5, 6]) (q0 := 0) rfl rfl ln_Fz_58 w_im_Fz_flowFromBeyond w_se_Fz_flowFromBeyond ok_Fz_pass_Fz_flowFromBeyond d_Fz_pass_107 (C_Fz_flow g a a1 a2 a3 a4 a5 a6 F1 (upd (exS F1 i (i + 12) (F6 i) (exS F1 i (i + 1) (F5 i) (gnS F1 F5 F6 (fa_fill (fun _ => 0) F2 108) i))) i (((exS F1 i (i + 12) (F6 i) (exS F1 i (i + 1) (F5 i) (gnS F1 F5 F6 (fa_fill (fun _ => 0) F2 108) i))) i) + (flS F1 i))) F3 F4 F5 F6 liq i (by omega)) rfl rfl (Nat.le_of_ble_eq_true rfl) rfl (by decide) (by omega) (by omega) (fun E cs1 hx => ?_) (fun v cs1 hx => ?_)
                      · exact absurd hx.1 (by simp)
                      · obtain ⟨e1, rfl⟩ := hx
                        cases e1
                        refine ⟨rfl, ?_⟩
                        refine r_st (st2 := [.int (flS F1 i), .int ((upd (exS F1 i (i + 12) (F6 i) (exS F1 i (i + 1) (F5 i) (gnS F1 F5 F6 (fa_fill (fun _ => 0) F2 108) i))) i (((exS F1 i (i + 12) (F6 i) (exS F1 i (i + 1) (F5 i) (gnS F1 F5 F6 (fa_fill (fun _ => 0) F2 108) i))) i) + (flS F1 i))) i), .int (nI i), .ref a2]) rfl ?_
                        refine r_cs (cs2 := [(a, .inr (2, [.ref a1, .ref a2, .ref a3, .ref a4, .ref a5, .ref a6, .int liq])), (a1, .inl (0, 108, .inl F1)), (a2, .inl (0, 108, .inl (upd (exS F1 i (i + 12) (F6 i) (exS F1 i (i + 1) (F5 i) (gnS F1 F5 F6 (fa_fill (fun _ => 0) F2 108) i))) i (((exS F1 i (i + 12) (F6 i) (exS F1 i (i + 1) (F5 i) (gnS F1 F5 F6 (fa_fill (fun _ => 0) F2 108) i))) i) + (flS F1 i))))), (a3, .inl (0, 108, .inl F3)), (a4, .inl (0, 108, .inl F4)), (a5, .inl (0, 108, .inl F5)), (a6, .inl (0, 108, .inl F6))]) rfl ?_
                        refine r_iadd d_Fz_pass_110 (v := ((upd (exS F1 i (i + 12) (F6 i) (exS F1 i (i + 1) (F5 i) (gnS F1 F5 F6 (fa_fill (fun _ => 0) F2 108) i))) i (((exS F1 i (i + 12) (F6 i) (exS F1 i (i + 1) (F5 i) (gnS F1 F5 F6 (fa_fill (fun _ => 0) F2 108) i))) i) + (flS F1 i))) i) + (flS F1 i)) rfl ?_
                        refine r_iast d_Fz_pass_111 (q0 := 2) rfl (vp_in_nI (by omega) (by omega)) (f' := upd (upd (exS F1 i (i + 12) (F6 i) (exS F1 i (i + 1) (F5 i) (gnS F1 F5 F6 (fa_fill (fun _ => 0) F2 108) i))) i (((exS F1 i (i + 12) (F6 i) (exS F1 i (i + 1) (F5 i) (gnS F1 F5 F6 (fa_fill (fun _ => 0) F2 108) i))) i) + (flS F1 i))) i (((upd (exS F1 i (i + 12) (F6 i) (exS F1 i (i + 1) (F5 i) (gnS F1 F5 F6 (fa_fill (fun _ => 0) F2 108) i))) i (((exS F1 i (i + 12) (F6 i) (exS F1 i (i + 1) (F5 i) (gnS F1 F5 F6 (fa_fill (fun _ => 0) F2 108) i))) i) + (flS F1 i))) i) + (flS F1 i))) (by rw [nI_clamp (by omega)]) (cs' := [(a, .inr (2, [.ref a1, .ref a2, .ref a3, .ref a4, .ref a5, .ref a6, .int liq])), (a1, .inl (0, 108, .inl F1)), (a2, .inl (0, 108, .inl (upd (upd (exS F1 i (i + 12) (F6 i) (exS F1 i (i + 1) (F5 i) (gnS F1 F5 F6 (fa_fill (fun _ => 0) F2 108) i))) i (((exS F1 i (i + 12) (F6 i) (exS F1 i (i + 1) (F5 i) (gnS F1 F5 F6 (fa_fill (fun _ => 0) F2 108) i))) i) + (flS F1 i))) i (((upd (exS F1 i (i + 12) (F6 i) (exS F1 i (i + 1) (F5 i) (gnS F1 F5 F6 (fa_fill (fun _ => 0) F2 108) i))) i (((exS F1 i (i + 12) (F6 i) (exS F1 i (i + 1) (F5 i) (gnS F1 F5 F6 (fa_fill (fun _ => 0) F2 108) i))) i) + (flS F1 i))) i) + (flS F1 i))))), (a3, .inl (0, 108, .inl F3)), (a4, .inl (0, 108, .inl F4)), (a5, .inl (0, 108, .inl F5)), (a6, .inl (0, 108, .inl F6))]) rfl ?_
                        refine r_iinc (lv' := [(2, .int (nI (i + 1))), (3, .int (nI (i % 12))), (0, .ref a), (1, .int st)]) (v := nI (i + 1)) d_Fz_pass_112 (j := 1) rfl (nI_add _ _) (by decide) rfl ?_
                        refine r_goto (tgt := 10) d_Fz_pass_115 (by decide) ?_
                        refine r_lv (lv' := [(2, .int (nI (i + 1))), (0, .ref a), (1, .int st)]) [0, 2, 3] rfl ?_
                        refine r_lvE (lv2 := [(2, .int (nI (i + 1))), (0, .ref a), (1, .int st)]) (rfl) ?_
                        refine r_cs (cs2 := [(a, .inr (2, [.ref a1, .ref a2, .ref a3, .ref a4, .ref a5, .ref a6, .int liq])), (a1, .inl (0, 108, .inl F1)), (a2, .inl (0, 108, .inl (gnS F1 F5 F6 (fa_fill (fun _ => 0) F2 108) (i + 1)))), (a3, .inl (0, 108, .inl F3)), (a4, .inl (0, 108, .inl F4)), (a5, .inl (0, 108, .inl F5)), (a6, .inl (0, 108, .inl F6))]) (by simp only [gnS, psA, psB, psC, psD, qa, qb, qc, qd, if_true, if_false]) ?_
                        exact ih (i + 1) (by omega) (by omega)
              · have q0 : ¬ i % 12 = 0 := z_nen (b := 0) (by omega) (by decide) c_63
                refine r_iload_n d_Fz_pass_66 rfl 0 rfl ?_
                refine r_bipush d_Fz_pass_67 (v := 11) (by decide) ?_
                refine r_icmp_ne (tgt := 86) d_Fz_pass_69 (by decide) (fun c_69 => ?_) (fun c_69 => ?_)
                · have qc : ¬ (i % 12 = 0 ∨ i % 12 = 11) := fun h => h.elim q0 (z_nen (b := 11) (by omega) (by decide) c_69)
                  refine r_iload_n d_Fz_pass_86 rfl 1 rfl ?_
                  refine r_bipush d_Fz_pass_87 (v := 12) (by decide) ?_
                  refine r_icmp_lt (tgt := 98) d_Fz_pass_89 (by decide) (fun c_89 => ?_) (fun c_89 => ?_)
                  · have qd : i < 12 ∨ 96 ≤ i := Or.inl (z_lt (b := 12) (by decide) (by omega) c_89)
                    refine r_aload_n d_Fz_pass_98 rfl 2 rfl ?_
                    refine r_get fs_Fz_15 d_Fz_pass_99 (q0 := 0) rfl rfl ?_
                    refine r_iload_n d_Fz_pass_102 rfl 1 rfl ?_
                    refine r_dup2_11 d_Fz_pass_103 rfl rfl ?_
                    refine r_iald d_Fz_pass_104 (q0 := 2) rfl (vp_in_nI (by omega) (by omega)) (v := (exS F1 i (i + 12) (F6 i) (exS F1 i (i + 1) (F5 i) (gnS F1 F5 F6 (fa_fill (fun _ => 0) F2 108) i))) i) (by rw [nI_clamp (by omega)]) ?_
                    refine r_aload_n d_Fz_pass_105 rfl 2 rfl ?_
                    refine r_iload_n d_Fz_pass_106 rfl 1 rfl ?_
                    refine r_callV (As := [.int (nI i)]) (rest := [.int ((exS F1 i (i + 12) (F6 i) (exS F1 i (i + 1) (F5 i) (gnS F1 F5 F6 (fa_fill (fun _ => 0) F2 108) i))) i), .int (nI i), .ref a2]) (csC := [(a, .inr (2, [.ref a1, .ref a2, .ref a3, .ref a4, .ref a5, .ref a6, .int liq])), (a1, .inl (0, 108, .inl F1)), (a2, .inl (0, 108, .inl (exS F1 i (i + 12) (F6 i) (exS F1 i (i + 1) (F5 i) (gnS F1 F5 F6 (fa_fill (fun _ => 0) F2 108) i))))), (a3, .inl (0, 108, .inl F3)), (a4, .inl (0, 108, .inl F4)), (a5, .inl (0, 108, .inl F5)), (a6, .inl (0, 108, .inl F6))]) (is := [0, 1, 2, 3, 4, 5, 6]) (q0 := 0) rfl rfl ln_Fz_58 w_im_Fz_flowFromBeyond w_se_Fz_flowFromBeyond ok_Fz_pass_Fz_flowFromBeyond d_Fz_pass_107 (C_Fz_flow g a a1 a2 a3 a4 a5 a6 F1 (exS F1 i (i + 12) (F6 i) (exS F1 i (i + 1) (F5 i) (gnS F1 F5 F6 (fa_fill (fun _ => 0) F2 108) i))) F3 F4 F5 F6 liq i (by omega)) rfl rfl (Nat.le_of_ble_eq_true rfl) rfl (by decide) (by omega) (by omega) (fun E cs1 hx => ?_) (fun v cs1 hx => ?_)
                    · exact absurd hx.1 (by simp)
                    · obtain ⟨e1, rfl⟩ := hx
                      cases e1
                      refine ⟨rfl, ?_⟩
                      refine r_st (st2 := [.int (flS F1 i), .int ((exS F1 i (i + 12) (F6 i) (exS F1 i (i + 1) (F5 i) (gnS F1 F5 F6 (fa_fill (fun _ => 0) F2 108) i))) i), .int (nI i), .ref a2]) rfl ?_
                      refine r_cs (cs2 := [(a, .inr (2, [.ref a1, .ref a2, .ref a3, .ref a4, .ref a5, .ref a6, .int liq])), (a1, .inl (0, 108, .inl F1)), (a2, .inl (0, 108, .inl (exS F1 i (i + 12) (F6 i) (exS F1 i (i + 1) (F5 i) (gnS F1 F5 F6 (fa_fill (fun _ => 0) F2 108) i))))), (a3, .inl (0, 108, .inl F3)), (a4, .inl (0, 108, .inl F4)), (a5, .inl (0, 108, .inl F5)), (a6, .inl (0, 108, .inl F6))]) rfl ?_
                      refine r_iadd d_Fz_pass_110 (v := ((exS F1 i (i + 12) (F6 i) (exS F1 i (i + 1) (F5 i) (gnS F1 F5 F6 (fa_fill (fun _ => 0) F2 108) i))) i) + (flS F1 i)) rfl ?_
                      refine r_iast d_Fz_pass_111 (q0 := 2) rfl (vp_in_nI (by omega) (by omega)) (f' := upd (exS F1 i (i + 12) (F6 i) (exS F1 i (i + 1) (F5 i) (gnS F1 F5 F6 (fa_fill (fun _ => 0) F2 108) i))) i (((exS F1 i (i + 12) (F6 i) (exS F1 i (i + 1) (F5 i) (gnS F1 F5 F6 (fa_fill (fun _ => 0) F2 108) i))) i) + (flS F1 i))) (by rw [nI_clamp (by omega)]) (cs' := [(a, .inr (2, [.ref a1, .ref a2, .ref a3, .ref a4, .ref a5, .ref a6, .int liq])), (a1, .inl (0, 108, .inl F1)), (a2, .inl (0, 108, .inl (upd (exS F1 i (i + 12) (F6 i) (exS F1 i (i + 1) (F5 i) (gnS F1 F5 F6 (fa_fill (fun _ => 0) F2 108) i))) i (((exS F1 i (i + 12) (F6 i) (exS F1 i (i + 1) (F5 i) (gnS F1 F5 F6 (fa_fill (fun _ => 0) F2 108) i))) i) + (flS F1 i))))), (a3, .inl (0, 108, .inl F3)), (a4, .inl (0, 108, .inl F4)), (a5, .inl (0, 108, .inl F5)), (a6, .inl (0, 108, .inl F6))]) rfl ?_
                      refine r_iinc (lv' := [(2, .int (nI (i + 1))), (3, .int (nI (i % 12))), (0, .ref a), (1, .int st)]) (v := nI (i + 1)) d_Fz_pass_112 (j := 1) rfl (nI_add _ _) (by decide) rfl ?_
                      refine r_goto (tgt := 10) d_Fz_pass_115 (by decide) ?_
                      refine r_lv (lv' := [(2, .int (nI (i + 1))), (0, .ref a), (1, .int st)]) [0, 2, 3] rfl ?_
                      refine r_lvE (lv2 := [(2, .int (nI (i + 1))), (0, .ref a), (1, .int st)]) (rfl) ?_
                      refine r_cs (cs2 := [(a, .inr (2, [.ref a1, .ref a2, .ref a3, .ref a4, .ref a5, .ref a6, .int liq])), (a1, .inl (0, 108, .inl F1)), (a2, .inl (0, 108, .inl (gnS F1 F5 F6 (fa_fill (fun _ => 0) F2 108) (i + 1)))), (a3, .inl (0, 108, .inl F3)), (a4, .inl (0, 108, .inl F4)), (a5, .inl (0, 108, .inl F5)), (a6, .inl (0, 108, .inl F6))]) (by simp only [gnS, psA, psB, psC, psD, qa, qb, qc, qd, if_true, if_false]) ?_
                      exact ih (i + 1) (by omega) (by omega)
                  · have q1 := z_nlt (b := 12) (by decide) (by omega) c_89
                    refine r_iload_n d_Fz_pass_92 rfl 1 rfl ?_
                    refine r_bipush d_Fz_pass_93 (v := 96) (by decide) ?_
                    refine r_icmp_lt (tgt := 112) d_Fz_pass_95 (by decide) (fun c_95 => ?_) (fun c_95 => ?_)
                    · have q2 := z_lt (b := 96) (by decide) (by omega) c_95
                      have qd : ¬ (i < 12 ∨ 96 ≤ i) := by omega
                      refine r_iinc (lv' := [(2, .int (nI (i + 1))), (3, .int (nI (i % 12))), (0, .ref a), (1, .int st)]) (v := nI (i + 1)) d_Fz_pass_112 (j := 1) rfl (nI_add _ _) (by decide) rfl ?_
                      refine r_goto (tgt := 10) d_Fz_pass_115 (by decide) ?_
                      refine r_lv (lv' := [(2, .int (nI (i + 1))), (0, .ref a), (1, .int st)]) [0, 2, 3] rfl ?_
                      refine r_lvE (lv2 := [(2, .int (nI (i + 1))), (0, .ref a), (1, .int st)]) (rfl) ?_
                      refine r_cs (cs2 := [(a, .inr (2, [.ref a1, .ref a2, .ref a3, .ref a4, .ref a5, .ref a6, .int liq])), (a1, .inl (0, 108, .inl F1)), (a2, .inl (0, 108, .inl (gnS F1 F5 F6 (fa_fill (fun _ => 0) F2 108) (i + 1)))), (a3, .inl (0, 108, .inl F3)), (a4, .inl (0, 108, .inl F4)), (a5, .inl (0, 108, .inl F5)), (a6, .inl (0, 108, .inl F6))]) (by simp only [gnS, psA, psB, psC, psD, qa, qb, qc, qd, if_true, if_false]) ?_
                      exact ih (i + 1) (by omega) (by omega)
                    · have qd : i < 12 ∨ 96 ≤ i := Or.inr (z_nlt (b := 96) (by decide) (by omega) c_95)
                      refine r_aload_n d_Fz_pass_98 rfl 2 rfl ?_
                      refine r_get fs_Fz_15 d_Fz_pass_99 (q0 := 0) rfl rfl ?_
                      refine r_iload_n d_Fz_pass_102 rfl 1 rfl ?_
                      refine r_dup2_11 d_Fz_pass_103 rfl rfl ?_
                      refine r_iald d_Fz_pass_104 (q0 := 2) rfl (vp_in_nI (by omega) (by omega)) (v := (exS F1 i (i + 12) (F6 i) (exS F1 i (i + 1) (F5 i) (gnS F1 F5 F6 (fa_fill (fun _ => 0) F2 108) i))) i) (by rw [nI_clamp (by omega)]) ?_
                      refine r_aload_n d_Fz_pass_105 rfl 2 rfl ?_
                      refine r_iload_n d_Fz_pass_106 rfl 1 rfl ?_
                      refine r_callV (As := [.int (nI i)]) (rest := [.int ((exS F1 i (i + 12) (F6 i) (exS F1 i (i + 1) (F5 i) (gnS F1 F5 F6 (fa_fill (fun _ => 0) F2 108) i))) i), .int (nI i), .ref a2]) (csC := [(a, .inr (2, [.ref a1, .ref a2, .ref a3, .ref a4, .ref a5, .ref a6, .int liq])), (a1, .inl (0, 108, .inl F1)), (a2, .inl (0, 108, .inl (exS F1 i (i + 12) (F6 i) (exS F1 i (i + 1) (F5 i) (gnS F1 F5 F6 (fa_fill (fun _ => 0) F2 108) i))))), (a3, .inl (0, 108, .inl F3)), (a4, .inl (0, 108, .inl F4)), (a5, .inl (0, 108, .inl F5)), (a6, .inl (0, 108, .inl F6))]) (is := [0, 1, 2, 3, 4, 5, 6]) (q0 := 0) rfl rfl ln_Fz_58 w_im_Fz_flowFromBeyond w_se_Fz_flowFromBeyond ok_Fz_pass_Fz_flowFromBeyond d_Fz_pass_107 (C_Fz_flow g a a1 a2 a3 a4 a5 a6 F1 (exS F1 i (i + 12) (F6 i) (exS F1 i (i + 1) (F5 i) (gnS F1 F5 F6 (fa_fill (fun _ => 0) F2 108) i))) F3 F4 F5 F6 liq i (by omega)) rfl rfl (Nat.le_of_ble_eq_true rfl) rfl (by decide) (by omega) (by omega) (fun E cs1 hx => ?_) (fun v cs1 hx => ?_)
                      · exact absurd hx.1 (by simp)
                      · obtain ⟨e1, rfl⟩ := hx
                        cases e1
                        refine ⟨rfl, ?_⟩
                        refine r_st (st2 := [.int (flS F1 i), .int ((exS F1 i (i + 12) (F6 i) (exS F1 i (i + 1) (F5 i) (gnS F1 F5 F6 (fa_fill (fun _ => 0) F2 108) i))) i), .int (nI i), .ref a2]) rfl ?_
                        refine r_cs (cs2 := [(a, .inr (2, [.ref a1, .ref a2, .ref a3, .ref a4, .ref a5, .ref a6, .int liq])), (a1, .inl (0, 108, .inl F1)), (a2, .inl (0, 108, .inl (exS F1 i (i + 12) (F6 i) (exS F1 i (i + 1) (F5 i) (gnS F1 F5 F6 (fa_fill (fun _ => 0) F2 108) i))))), (a3, .inl (0, 108, .inl F3)), (a4, .inl (0, 108, .inl F4)), (a5, .inl (0, 108, .inl F5)), (a6, .inl (0, 108, .inl F6))]) rfl ?_
                        refine r_iadd d_Fz_pass_110 (v := ((exS F1 i (i + 12) (F6 i) (exS F1 i (i + 1) (F5 i) (gnS F1 F5 F6 (fa_fill (fun _ => 0) F2 108) i))) i) + (flS F1 i)) rfl ?_
                        refine r_iast d_Fz_pass_111 (q0 := 2) rfl (vp_in_nI (by omega) (by omega)) (f' := upd (exS F1 i (i + 12) (F6 i) (exS F1 i (i + 1) (F5 i) (gnS F1 F5 F6 (fa_fill (fun _ => 0) F2 108) i))) i (((exS F1 i (i + 12) (F6 i) (exS F1 i (i + 1) (F5 i) (gnS F1 F5 F6 (fa_fill (fun _ => 0) F2 108) i))) i) + (flS F1 i))) (by rw [nI_clamp (by omega)]) (cs' := [(a, .inr (2, [.ref a1, .ref a2, .ref a3, .ref a4, .ref a5, .ref a6, .int liq])), (a1, .inl (0, 108, .inl F1)), (a2, .inl (0, 108, .inl (upd (exS F1 i (i + 12) (F6 i) (exS F1 i (i + 1) (F5 i) (gnS F1 F5 F6 (fa_fill (fun _ => 0) F2 108) i))) i (((exS F1 i (i + 12) (F6 i) (exS F1 i (i + 1) (F5 i) (gnS F1 F5 F6 (fa_fill (fun _ => 0) F2 108) i))) i) + (flS F1 i))))), (a3, .inl (0, 108, .inl F3)), (a4, .inl (0, 108, .inl F4)), (a5, .inl (0, 108, .inl F5)), (a6, .inl (0, 108, .inl F6))]) rfl ?_
                        refine r_iinc (lv' := [(2, .int (nI (i + 1))), (3, .int (nI (i % 12))), (0, .ref a), (1, .int st)]) (v := nI (i + 1)) d_Fz_pass_112 (j := 1) rfl (nI_add _ _) (by decide) rfl ?_
                        refine r_goto (tgt := 10) d_Fz_pass_115 (by decide) ?_
                        refine r_lv (lv' := [(2, .int (nI (i + 1))), (0, .ref a), (1, .int st)]) [0, 2, 3] rfl ?_
                        refine r_lvE (lv2 := [(2, .int (nI (i + 1))), (0, .ref a), (1, .int st)]) (rfl) ?_
                        refine r_cs (cs2 := [(a, .inr (2, [.ref a1, .ref a2, .ref a3, .ref a4, .ref a5, .ref a6, .int liq])), (a1, .inl (0, 108, .inl F1)), (a2, .inl (0, 108, .inl (gnS F1 F5 F6 (fa_fill (fun _ => 0) F2 108) (i + 1)))), (a3, .inl (0, 108, .inl F3)), (a4, .inl (0, 108, .inl F4)), (a5, .inl (0, 108, .inl F5)), (a6, .inl (0, 108, .inl F6))]) (by simp only [gnS, psA, psB, psC, psD, qa, qb, qc, qd, if_true, if_false]) ?_
                        exact ih (i + 1) (by omega) (by omega)
                · have qc : i % 12 = 0 ∨ i % 12 = 11 := Or.inr (z_eqn (b := 11) (by omega) (by decide) c_69)
                  refine r_aload_n d_Fz_pass_72 rfl 2 rfl ?_
                  refine r_get fs_Fz_15 d_Fz_pass_73 (q0 := 0) rfl rfl ?_
                  refine r_iload_n d_Fz_pass_76 rfl 1 rfl ?_
                  refine r_dup2_11 d_Fz_pass_77 rfl rfl ?_
                  refine r_iald d_Fz_pass_78 (q0 := 2) rfl (vp_in_nI (by omega) (by omega)) (v := (exS F1 i (i + 12) (F6 i) (exS F1 i (i + 1) (F5 i) (gnS F1 F5 F6 (fa_fill (fun _ => 0) F2 108) i))) i) (by rw [nI_clamp (by omega)]) ?_
                  refine r_aload_n d_Fz_pass_79 rfl 2 rfl ?_
                  refine r_iload_n d_Fz_pass_80 rfl 1 rfl ?_
                  refine r_callV (As := [.int (nI i)]) (rest := [.int ((exS F1 i (i + 12) (F6 i) (exS F1 i (i + 1) (F5 i) (gnS F1 F5 F6 (fa_fill (fun _ => 0) F2 108) i))) i), .int (nI i), .ref a2]) (csC := [(a, .inr (2, [.ref a1, .ref a2, .ref a3, .ref a4, .ref a5, .ref a6, .int liq])), (a1, .inl (0, 108, .inl F1)), (a2, .inl (0, 108, .inl (exS F1 i (i + 12) (F6 i) (exS F1 i (i + 1) (F5 i) (gnS F1 F5 F6 (fa_fill (fun _ => 0) F2 108) i))))), (a3, .inl (0, 108, .inl F3)), (a4, .inl (0, 108, .inl F4)), (a5, .inl (0, 108, .inl F5)), (a6, .inl (0, 108, .inl F6))]) (is := [0, 1, 2, 3, 4, 5, 6]) (q0 := 0) rfl rfl ln_Fz_58 w_im_Fz_flowFromBeyond w_se_Fz_flowFromBeyond ok_Fz_pass_Fz_flowFromBeyond d_Fz_pass_81 (C_Fz_flow g a a1 a2 a3 a4 a5 a6 F1 (exS F1 i (i + 12) (F6 i) (exS F1 i (i + 1) (F5 i) (gnS F1 F5 F6 (fa_fill (fun _ => 0) F2 108) i))) F3 F4 F5 F6 liq i (by omega)) rfl rfl (Nat.le_of_ble_eq_true rfl) rfl (by decide) (by omega) (by omega) (fun E cs1 hx => ?_) (fun v cs1 hx => ?_)
                  · exact absurd hx.1 (by simp)
                  · obtain ⟨e1, rfl⟩ := hx
                    cases e1
                    refine ⟨rfl, ?_⟩
                    refine r_st (st2 := [.int (flS F1 i), .int ((exS F1 i (i + 12) (F6 i) (exS F1 i (i + 1) (F5 i) (gnS F1 F5 F6 (fa_fill (fun _ => 0) F2 108) i))) i), .int (nI i), .ref a2]) rfl ?_
                    refine r_cs (cs2 := [(a, .inr (2, [.ref a1, .ref a2, .ref a3, .ref a4, .ref a5, .ref a6, .int liq])), (a1, .inl (0, 108, .inl F1)), (a2, .inl (0, 108, .inl (exS F1 i (i + 12) (F6 i) (exS F1 i (i + 1) (F5 i) (gnS F1 F5 F6 (fa_fill (fun _ => 0) F2 108) i))))), (a3, .inl (0, 108, .inl F3)), (a4, .inl (0, 108, .inl F4)), (a5, .inl (0, 108, .inl F5)), (a6, .inl (0, 108, .inl F6))]) rfl ?_
                    refine r_iadd d_Fz_pass_84 (v := ((exS F1 i (i + 12) (F6 i) (exS F1 i (i + 1) (F5 i) (gnS F1 F5 F6 (fa_fill (fun _ => 0) F2 108) i))) i) + (flS F1 i)) rfl ?_
                    refine r_iast d_Fz_pass_85 (q0 := 2) rfl (vp_in_nI (by omega) (by omega)) (f' := upd (exS F1 i (i + 12) (F6 i) (exS F1 i (i + 1) (F5 i) (gnS F1 F5 F6 (fa_fill (fun _ => 0) F2 108) i))) i (((exS F1 i (i + 12) (F6 i) (exS F1 i (i + 1) (F5 i) (gnS F1 F5 F6 (fa_fill (fun _ => 0) F2 108) i))) i) + (flS F1 i))) (by rw [nI_clamp (by omega)]) (cs' := [(a, .inr (2, [.ref a1, .ref a2, .ref a3, .ref a4, .ref a5, .ref a6, .int liq])), (a1, .inl (0, 108, .inl F1)), (a2, .inl (0, 108, .inl (upd (exS F1 i (i + 12) (F6 i) (exS F1 i (i + 1) (F5 i) (gnS F1 F5 F6 (fa_fill (fun _ => 0) F2 108) i))) i (((exS F1 i (i + 12) (F6 i) (exS F1 i (i + 1) (F5 i) (gnS F1 F5 F6 (fa_fill (fun _ => 0) F2 108) i))) i) + (flS F1 i))))), (a3, .inl (0, 108, .inl F3)), (a4, .inl (0, 108, .inl F4)), (a5, .inl (0, 108, .inl F5)), (a6, .inl (0, 108, .inl F6))]) rfl ?_
                    refine r_iload_n d_Fz_pass_86 rfl 1 rfl ?_
                    refine r_bipush d_Fz_pass_87 (v := 12) (by decide) ?_
                    refine r_icmp_lt (tgt := 98) d_Fz_pass_89 (by decide) (fun c_89 => ?_) (fun c_89 => ?_)
                    · have qd : i < 12 ∨ 96 ≤ i := Or.inl (z_lt (b := 12) (by decide) (by omega) c_89)
                      refine r_aload_n d_Fz_pass_98 rfl 2 rfl ?_
                      refine r_get fs_Fz_15 d_Fz_pass_99 (q0 := 0) rfl rfl ?_
                      refine r_iload_n d_Fz_pass_102 rfl 1 rfl ?_
                      refine r_dup2_11 d_Fz_pass_103 rfl rfl ?_
                      refine r_iald d_Fz_pass_104 (q0 := 2) rfl (vp_in_nI (by omega) (by omega)) (v := (upd (exS F1 i (i + 12) (F6 i) (exS F1 i (i + 1) (F5 i) (gnS F1 F5 F6 (fa_fill (fun _ => 0) F2 108) i))) i (((exS F1 i (i + 12) (F6 i) (exS F1 i (i + 1) (F5 i) (gnS F1 F5 F6 (fa_fill (fun _ => 0) F2 108) i))) i) + (flS F1 i))) i) (by rw [nI_clamp (by omega)]) ?_
                      refine r_aload_n d_Fz_pass_105 rfl 2 rfl ?_
                      refine r_iload_n d_Fz_pass_106 rfl 1 rfl ?_
                      refine r_callV (As := [.int (nI i)]) (rest := [.int ((upd (exS F1 i (i + 12) (F6 i) (exS F1 i (i + 1) (F5 i) (gnS F1 F5 F6 (fa_fill (fun _ => 0) F2 108) i))) i (((exS F1 i (i + 12) (F6 i) (exS F1 i (i + 1) (F5 i) (gnS F1 F5 F6 (fa_fill (fun _ => 0) F2 108) i))) i) + (flS F1 i))) i), .int (nI i), .ref a2]) (csC := [(a, .inr (2, [.ref a1, .ref a2, .ref a3, .ref a4, .ref a5, .ref a6, .int liq])), (a1, .inl (0, 108, .inl F1)), (a2, .inl (0, 108, .inl (upd (exS F1 i (i + 12) (F6 i) (exS F1 i (i + 1) (F5 i) (gnS F1 F5 F6 (fa_fill (fun _ => 0) F2 108) i))) i (((exS F1 i (i + 12) (F6 i) (exS F1 i (i + 1) (F5 i) (gnS F1 F5 F6 (fa_fill (fun _ => 0) F2 108) i))) i) + (flS F1 i))))), (a3, .inl (0, 108, .inl F3)), (a4, .inl (0, 108, .inl F4)), (a5, .inl (0, 108, .inl F5)), (a6, .inl (0, 108, .inl F6))]) (is := [0, 1, 2, 3, 4, 5, 6]) (q0 := 0) rfl rfl ln_Fz_58 w_im_Fz_flowFromBeyond w_se_Fz_flowFromBeyond ok_Fz_pass_Fz_flowFromBeyond d_Fz_pass_107 (C_Fz_flow g a a1 a2 a3 a4 a5 a6 F1 (upd (exS F1 i (i + 12) (F6 i) (exS F1 i (i + 1) (F5 i) (gnS F1 F5 F6 (fa_fill (fun _ => 0) F2 108) i))) i (((exS F1 i (i + 12) (F6 i) (exS F1 i (i + 1) (F5 i) (gnS F1 F5 F6 (fa_fill (fun _ => 0) F2 108) i))) i) + (flS F1 i))) F3 F4 F5 F6 liq i (by omega)) rfl rfl (Nat.le_of_ble_eq_true rfl) rfl (by decide) (by omega) (by omega) (fun E cs1 hx => ?_) (fun v cs1 hx => ?_)
                      · exact absurd hx.1 (by simp)
                      · obtain ⟨e1, rfl⟩ := hx
                        cases e1
                        refine ⟨rfl, ?_⟩
                        refine r_st (st2 := [.int (flS F1 i), .int ((upd (exS F1 i (i + 12) (F6 i) (exS F1 i (i + 1) (F5 i) (gnS F1 F5 F6 (fa_fill (fun _ => 0) F2 108) i))) i (((exS F1 i (i + 12) (F6 i) (exS F1 i (i + 1) (F5 i) (gnS F1 F5 F6 (fa_fill (fun _ => 0) F2 108) i))) i) + (flS F1 i))) i), .int (nI i), .ref a2]) rfl ?_
                        refine r_cs (cs2 := [(a, .inr (2, [.ref a1, .ref a2, .ref a3, .ref a4, .ref a5, .ref a6, .int liq])), (a1, .inl (0, 108, .inl F1)), (a2, .inl (0, 108, .inl (upd (exS F1 i (i + 12) (F6 i) (exS F1 i (i + 1) (F5 i) (gnS F1 F5 F6 (fa_fill (fun _ => 0) F2 108) i))) i (((exS F1 i (i + 12) (F6 i) (exS F1 i (i + 1) (F5 i) (gnS F1 F5 F6 (fa_fill (fun _ => 0) F2 108) i))) i) + (flS F1 i))))), (a3, .inl (0, 108, .inl F3)), (a4, .inl (0, 108, .inl F4)), (a5, .inl (0, 108, .inl F5)), (a6, .inl (0, 108, .inl F6))]) rfl ?_
                        refine r_iadd d_Fz_pass_110 (v := ((upd (exS F1 i (i + 12) (F6 i) (exS F1 i (i + 1) (F5 i) (gnS F1 F5 F6 (fa_fill (fun _ => 0) F2 108) i))) i (((exS F1 i (i + 12) (F6 i) (exS F1 i (i + 1) (F5 i) (gnS F1 F5 F6 (fa_fill (fun _ => 0) F2 108) i))) i) + (flS F1 i))) i) + (flS F1 i)) rfl ?_
                        refine r_iast d_Fz_pass_111 (q0 := 2) rfl (vp_in_nI (by omega) (by omega)) (f' := upd (upd (exS F1 i (i + 12) (F6 i) (exS F1 i (i + 1) (F5 i) (gnS F1 F5 F6 (fa_fill (fun _ => 0) F2 108) i))) i (((exS F1 i (i + 12) (F6 i) (exS F1 i (i + 1) (F5 i) (gnS F1 F5 F6 (fa_fill (fun _ => 0) F2 108) i))) i) + (flS F1 i))) i (((upd (exS F1 i (i + 12) (F6 i) (exS F1 i (i + 1) (F5 i) (gnS F1 F5 F6 (fa_fill (fun _ => 0) F2 108) i))) i (((exS F1 i (i + 12) (F6 i) (exS F1 i (i + 1) (F5 i) (gnS F1 F5 F6 (fa_fill (fun _ => 0) F2 108) i))) i) + (flS F1 i))) i) + (flS F1 i))) (by rw [nI_clamp (by omega)]) (cs' := [(a, .inr (2, [.ref a1, .ref a2, .ref a3, .ref a4, .ref a5, .ref a6, .int liq])), (a1, .inl (0, 108, .inl F1)), (a2, .inl (0, 108, .inl (upd (upd (exS F1 i (i + 12) (F6 i) (exS F1 i (i + 1) (F5 i) (gnS F1 F5 F6 (fa_fill (fun _ => 0) F2 108) i))) i (((exS F1 i (i + 12) (F6 i) (exS F1 i (i + 1) (F5 i) (gnS F1 F5 F6 (fa_fill (fun _ => 0) F2 108) i))) i) + (flS F1 i))) i (((upd (exS F1 i (i + 12) (F6 i) (exS F1 i (i + 1) (F5 i) (gnS F1 F5 F6 (fa_fill (fun _ => 0) F2 108) i))) i (((exS F1 i (i + 12) (F6 i) (exS F1 i (i + 1) (F5 i) (gnS F1 F5 F6 (fa_fill (fun _ => 0) F2 108) i))) i) + (flS F1 i))) i) + (flS F1 i))))), (a3, .inl (0, 108, .inl F3)), (a4, .inl (0, 108, .inl F4)), (a5, .inl (0, 108, .inl F5)), (a6, .inl (0, 108, .inl F6))]) rfl ?_
                        refine r_iinc (lv' := [(2, .int (nI (i + 1))), (3, .int (nI (i % 12))), (0, .ref a), (1, .int st)]) (v := nI (i + 1)) d_Fz_pass_112 (j := 1) rfl (nI_add _ _) (by decide) rfl ?_
                        refine r_goto (tgt := 10) d_Fz_pass_115 (by decide) ?_
                        refine r_lv (lv' := [(2, .int (nI (i + 1))), (0, .ref a), (1, .int st)]) [0, 2, 3] rfl ?_
                        refine r_lvE (lv2 := [(2, .int (nI (i + 1))), (0, .ref a), (1, .int st)]) (rfl) ?_
                        refine r_cs (cs2 := [(a, .inr (2, [.ref a1, .ref a2, .ref a3, .ref a4, .ref a5, .ref a6, .int liq])), (a1, .inl (0, 108, .inl F1)), (a2, .inl (0, 108, .inl (gnS F1 F5 F6 (fa_fill (fun _ => 0) F2 108) (i + 1)))), (a3, .inl (0, 108, .inl F3)), (a4, .inl (0, 108, .inl F4)), (a5, .inl (0, 108, .inl F5)), (a6, .inl (0, 108, .inl F6))]) (by simp only [gnS, psA, psB, psC, psD, qa, qb, qc, qd, if_true, if_false]) ?_
                        exact ih (i + 1) (by omega) (by omega)
                    · have q1 := z_nlt (b := 12) (by decide) (by omega) c_89
                      refine r_iload_n d_Fz_pass_92 rfl 1 rfl ?_
                      refine r_bipush d_Fz_pass_93 (v := 96) (by decide) ?_
                      refine r_icmp_lt (tgt := 112) d_Fz_pass_95 (by decide) (fun c_95 => ?_) (fun c_95 => ?_)
                      · have q2 := z_lt (b := 96) (by decide) (by omega) c_95
                        have qd : ¬ (i < 12 ∨ 96 ≤ i) := by omega
                        refine r_iinc (lv' := [(2, .int (nI (i + 1))), (3, .int (nI (i % 12))), (0, .ref a), (1, .int st)]) (v := nI (i + 1)) d_Fz_pass_112 (j := 1) rfl (nI_add _ _) (by decide) rfl ?_
                        refine r_goto (tgt := 10) d_Fz_pass_115 (by decide) ?_
                        refine r_lv (lv' := [(2, .int (nI (i + 1))), (0, .ref a), (1, .int st)]) [0, 2, 3] rfl ?_
                        refine r_lvE (lv2 := [(2, .int (nI (i + 1))), (0, .ref a), (1, .int st)]) (rfl) ?_
                        refine r_cs (cs2 := [(a, .inr (2, [.ref a1, .ref a2, .ref a3, .ref a4, .ref a5, .ref a6, .int liq])), (a1, .inl (0, 108, .inl F1)), (a2, .inl (0, 108, .inl (gnS F1 F5 F6 (fa_fill (fun _ => 0) F2 108) (i + 1)))), (a3, .inl (0, 108, .inl F3)), (a4, .inl (0, 108, .inl F4)), (a5, .inl (0, 108, .inl F5)), (a6, .inl (0, 108, .inl F6))]) (by simp only [gnS, psA, psB, psC, psD, qa, qb, qc, qd, if_true, if_false]) ?_
                        exact ih (i + 1) (by omega) (by omega)
                      · have qd : i < 12 ∨ 96 ≤ i := Or.inr (z_nlt (b := 96) (by decide) (by omega) c_95)
                        refine r_aload_n d_Fz_pass_98 rfl 2 rfl ?_
                        refine r_get fs_Fz_15 d_Fz_pass_99 (q0 := 0) rfl rfl ?_
                        refine r_iload_n d_Fz_pass_102 rfl 1 rfl ?_
                        refine r_dup2_11 d_Fz_pass_103 rfl rfl ?_
                        refine r_iald d_Fz_pass_104 (q0 := 2) rfl (vp_in_nI (by omega) (by omega)) (v := (upd (exS F1 i (i + 12) (F6 i) (exS F1 i (i + 1) (F5 i) (gnS F1 F5 F6 (fa_fill (fun _ => 0) F2 108) i))) i (((exS F1 i (i + 12) (F6 i) (exS F1 i (i + 1) (F5 i) (gnS F1 F5 F6 (fa_fill (fun _ => 0) F2 108) i))) i) + (flS F1 i))) i) (by rw [nI_clamp (by omega)]) ?_
                        refine r_aload_n d_Fz_pass_105 rfl 2 rfl ?_
                        refine r_iload_n d_Fz_pass_106 rfl 1 rfl ?_
                        refine r_callV (As := [.int (nI i)]) (rest := [.int ((upd (exS F1 i (i + 12) (F6 i) (exS F1 i (i + 1) (F5 i) (gnS F1 F5 F6 (fa_fill (fun _ => 0) F2 108) i))) i (((exS F1 i (i + 12) (F6 i) (exS F1 i (i + 1) (F5 i) (gnS F1 F5 F6 (fa_fill (fun _ => 0) F2 108) i))) i) + (flS F1 i))) i), .int (nI i), .ref a2]) (csC := [(a, .inr (2, [.ref a1, .ref a2, .ref a3, .ref a4, .ref a5, .ref a6, .int liq])), (a1, .inl (0, 108, .inl F1)), (a2, .inl (0, 108, .inl (upd (exS F1 i (i + 12) (F6 i) (exS F1 i (i + 1) (F5 i) (gnS F1 F5 F6 (fa_fill (fun _ => 0) F2 108) i))) i (((exS F1 i (i + 12) (F6 i) (exS F1 i (i + 1) (F5 i) (gnS F1 F5 F6 (fa_fill (fun _ => 0) F2 108) i))) i) + (flS F1 i))))), (a3, .inl (0, 108, .inl F3)), (a4, .inl (0, 108, .inl F4)), (a5, .inl (0, 108, .inl F5)), (a6, .inl (0, 108, .inl F6))]) (is := [0, 1, 2, 3, 4, 5, 6]) (q0 := 0) rfl rfl ln_Fz_58 w_im_Fz_flowFromBeyond w_se_Fz_flowFromBeyond ok_Fz_pass_Fz_flowFromBeyond d_Fz_pass_107 (C_Fz_flow g a a1 a2 a3 a4 a5 a6 F1 (upd (exS F1 i (i + 12) (F6 i) (exS F1 i (i + 1) (F5 i) (gnS F1 F5 F6 (fa_fill (fun _ => 0) F2 108) i))) i (((exS F1 i (i + 12) (F6 i) (exS F1 i (i + 1) (F5 i) (gnS F1 F5 F6 (fa_fill (fun _ => 0) F2 108) i))) i) + (flS F1 i))) F3 F4 F5 F6 liq i (by omega)) rfl rfl (Nat.le_of_ble_eq_true rfl) rfl (by decide) (by omega) (by omega) (fun E cs1 hx => ?_) (fun v cs1 hx => ?_)
                        · exact absurd hx.1 (by simp)
                        · obtain ⟨e1, rfl⟩ := hx
                          cases e1
                          refine ⟨rfl, ?_⟩
                          refine r_st (st2 := [.int (flS F1 i), .int ((upd (exS F1 i (i + 12) (F6 i) (exS F1 i (i + 1) (F5 i) (gnS F1 F5 F6 (fa_fill (fun _ => 0) F2 108) i))) i (((exS F1 i (i + 12) (F6 i) (exS F1 i (i + 1) (F5 i) (gnS F1 F5 F6 (fa_fill (fun _ => 0) F2 108) i))) i) + (flS F1 i))) i), .int (nI i), .ref a2]) rfl ?_
                          refine r_cs (cs2 := [(a, .inr (2, [.ref a1, .ref a2, .ref a3, .ref a4, .ref a5, .ref a6, .int liq])), (a1, .inl (0, 108, .inl F1)), (a2, .inl (0, 108, .inl (upd (exS F1 i (i + 12) (F6 i) (exS F1 i (i + 1) (F5 i) (gnS F1 F5 F6 (fa_fill (fun _ => 0) F2 108) i))) i (((exS F1 i (i + 12) (F6 i) (exS F1 i (i + 1) (F5 i) (gnS F1 F5 F6 (fa_fill (fun _ => 0) F2 108) i))) i) + (flS F1 i))))), (a3, .inl (0, 108, .inl F3)), (a4, .inl (0, 108, .inl F4)), (a5, .inl (0, 108, .inl F5)), (a6, .inl (0, 108, .inl F6))]) rfl ?_
                          refine r_iadd d_Fz_pass_110 (v := ((upd (exS F1 i (i + 12) (F6 i) (exS F1 i (i + 1) (F5 i) (gnS F1 F5 F6 (fa_fill (fun _ => 0) F2 108) i))) i (((exS F1 i (i + 12) (F6 i) (exS F1 i (i + 1) (F5 i) (gnS F1 F5 F6 (fa_fill (fun _ => 0) F2 108) i))) i) + (flS F1 i))) i) + (flS F1 i)) rfl ?_
                          refine r_iast d_Fz_pass_111 (q0 := 2) rfl (vp_in_nI (by omega) (by omega)) (f' := upd (upd (exS F1 i (i + 12) (F6 i) (exS F1 i (i + 1) (F5 i) (gnS F1 F5 F6 (fa_fill (fun _ => 0) F2 108) i))) i (((exS F1 i (i + 12) (F6 i) (exS F1 i (i + 1) (F5 i) (gnS F1 F5 F6 (fa_fill (fun _ => 0) F2 108) i))) i) + (flS F1 i))) i (((upd (exS F1 i (i + 12) (F6 i) (exS F1 i (i + 1) (F5 i) (gnS F1 F5 F6 (fa_fill (fun _ => 0) F2 108) i))) i (((exS F1 i (i + 12) (F6 i) (exS F1 i (i + 1) (F5 i) (gnS F1 F5 F6 (fa_fill (fun _ => 0) F2 108) i))) i) + (flS F1 i))) i) + (flS F1 i))) (by rw [nI_clamp (by omega)]) (cs' := [(a, .inr (2, [.ref a1, .ref a2, .ref a3, .ref a4, .ref a5, .ref a6, .int liq])), (a1, .inl (0, 108, .inl F1)), (a2, .inl (0, 108, .inl (upd (upd (exS F1 i (i + 12) (F6 i) (exS F1 i (i + 1) (F5 i) (gnS F1 F5 F6 (fa_fill (fun _ => 0) F2 108) i))) i (((exS F1 i (i + 12) (F6 i) (exS F1 i (i + 1) (F5 i) (gnS F1 F5 F6 (fa_fill (fun _ => 0) F2 108) i))) i) + (flS F1 i))) i (((upd (exS F1 i (i + 12) (F6 i) (exS F1 i (i + 1) (F5 i) (gnS F1 F5 F6 (fa_fill (fun _ => 0) F2 108) i))) i (((exS F1 i (i + 12) (F6 i) (exS F1 i (i + 1) (F5 i) (gnS F1 F5 F6 (fa_fill (fun _ => 0) F2 108) i))) i) + (flS F1 i))) i) + (flS F1 i))))), (a3, .inl (0, 108, .inl F3)), (a4, .inl (0, 108, .inl F4)), (a5, .inl (0, 108, .inl F5)), (a6, .inl (0, 108, .inl F6))]) rfl ?_
                          refine r_iinc (lv' := [(2, .int (nI (i + 1))), (3, .int (nI (i % 12))), (0, .ref a), (1, .int st)]) (v := nI (i + 1)) d_Fz_pass_112 (j := 1) rfl (nI_add _ _) (by decide) rfl ?_
                          refine r_goto (tgt := 10) d_Fz_pass_115 (by decide) ?_
                          refine r_lv (lv' := [(2, .int (nI (i + 1))), (0, .ref a), (1, .int st)]) [0, 2, 3] rfl ?_
                          refine r_lvE (lv2 := [(2, .int (nI (i + 1))), (0, .ref a), (1, .int st)]) (rfl) ?_
                          refine r_cs (cs2 := [(a, .inr (2, [.ref a1, .ref a2, .ref a3, .ref a4, .ref a5, .ref a6, .int liq])), (a1, .inl (0, 108, .inl F1)), (a2, .inl (0, 108, .inl (gnS F1 F5 F6 (fa_fill (fun _ => 0) F2 108) (i + 1)))), (a3, .inl (0, 108, .inl F3)), (a4, .inl (0, 108, .inl F4)), (a5, .inl (0, 108, .inl F5)), (a6, .inl (0, 108, .inl F6))]) (by simp only [gnS, psA, psB, psC, psD, qa, qb, qc, qd, if_true, if_false]) ?_
                          exact ih (i + 1) (by omega) (by omega)
