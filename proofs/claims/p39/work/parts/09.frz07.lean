set_option maxHeartbeats 4000000 in
set_option maxRecDepth 100000 in
theorem L_Fz_begin_8 (g : zG) (a a1 a2 a3 a4 a5 a6 : Nat) (F1 F2 F3 F4 F5 F6 : Nat → Int32) (liq : Int32) (b c : Nat) (ce fi : Nat → Int32) (h : Int32) (w0 : zW) (n : Nat) : ∀ (d i : Nat), i ≤ 108 → 108 < i + d → DV g M_Fz_begin (fun o cs1 => o = .inl none ∧ cs1 = [(a, .inr (2, [.ref a1, .ref a2, .ref a3, .ref a4, .ref a5, .ref a6, .int ((bgS ce fi h (F1, F3, F4, liq) 108).2.2.2)])), (a1, .inl (0, 108, .inl ((bgS ce fi h (F1, F3, F4, liq) 108).1))), (a2, .inl (0, 108, .inl F2)), (a3, .inl (0, 108, .inl ((bgS ce fi h (F1, F3, F4, liq) 108).2.1))), (a4, .inl (0, 108, .inl ((bgS ce fi h (F1, F3, F4, liq) 108).2.2.1))), (a5, .inl (0, 108, .inl (toS ce fi 2 F5 108))), (a6, .inl (0, 108, .inl (toS ce fi 3 F6 108))), (b, .inl (1, 108, .inl ce)), (c, .inl (0, 108, .inl fi))]) w0 n 8 [(4, .int (nI i)), (0, .ref a), (1, .ref b), (2, .ref c), (3, .int h)] [] [(a, .inr (2, [.ref a1, .ref a2, .ref a3, .ref a4, .ref a5, .ref a6, .int ((bgS ce fi h (F1, F3, F4, liq) i).2.2.2)])), (a1, .inl (0, 108, .inl ((bgS ce fi h (F1, F3, F4, liq) i).1))), (a2, .inl (0, 108, .inl F2)), (a3, .inl (0, 108, .inl ((bgS ce fi h (F1, F3, F4, liq) i).2.1))), (a4, .inl (0, 108, .inl ((bgS ce fi h (F1, F3, F4, liq) i).2.2.1))), (a5, .inl (0, 108, .inl (toS ce fi 2 F5 i))), (a6, .inl (0, 108, .inl (toS ce fi 3 F6 i))), (b, .inl (1, 108, .inl ce)), (c, .inl (0, 108, .inl fi))] 0 0 := by
  intro d
  induction d with
  | zero => intro i h1 h2 ; exact absurd h2 (by omega)
  | succ d ih =>
    intro i h1 h2 
    refine r_iload d_Fz_begin_8 0 rfl ?_
    refine r_bipush d_Fz_begin_10 (v := 108) (by decide) ?_
    refine r_icmp_ge (tgt := 159) d_Fz_begin_12 (by decide) (fun c_12 => ?_) (fun c_12 => ?_)
    · have hn := z_le (a := 108) (by omega) (by decide) c_12
      obtain rfl : i = 108 := by omega
      refine r_vret d_Fz_begin_159 rfl ?_
      exact ⟨rfl, rfl⟩
    · have hn := z_nle (a := 108) (by omega) (by decide) c_12
      refine r_aload_n d_Fz_begin_15 rfl 1 rfl ?_
      refine r_get fs_Fz_18 d_Fz_begin_16 (q0 := 0) rfl rfl ?_
      refine r_iload d_Fz_begin_19 0 rfl ?_
      refine r_sipush d_Fz_begin_21 (v := 300) (by decide) ?_
      refine r_iast d_Fz_begin_24 (q0 := 3) rfl (vp_in_nI (by omega) (by omega)) (f' := upd ((bgS ce fi h (F1, F3, F4, liq) i).2.1) i 300) (by rw [nI_clamp (by omega)]) (cs' := [(a, .inr (2, [.ref a1, .ref a2, .ref a3, .ref a4, .ref a5, .ref a6, .int ((bgS ce fi h (F1, F3, F4, liq) i).2.2.2)])), (a1, .inl (0, 108, .inl ((bgS ce fi h (F1, F3, F4, liq) i).1))), (a2, .inl (0, 108, .inl F2)), (a3, .inl (0, 108, .inl (upd ((bgS ce fi h (F1, F3, F4, liq) i).2.1) i 300))), (a4, .inl (0, 108, .inl ((bgS ce fi h (F1, F3, F4, liq) i).2.2.1))), (a5, .inl (0, 108, .inl (toS ce fi 2 F5 i))), (a6, .inl (0, 108, .inl (toS ce fi 3 F6 i))), (b, .inl (1, 108, .inl ce)), (c, .inl (0, 108, .inl fi))]) rfl ?_
      refine r_aload_n d_Fz_begin_25 rfl 3 rfl ?_
      refine r_iload d_Fz_begin_26 0 rfl ?_
      refine r_iald d_Fz_begin_28 (q0 := 8) rfl (vp_in_nI (by omega) (by omega)) (v := fi i) (by rw [nI_clamp (by omega)]) ?_
      refine r_if_ge (tgt := 52) d_Fz_begin_29 (by decide) (fun c_29 => ?_) (fun c_29 => ?_)
      · have hfi : ¬ fi i < 0 := Int32.not_lt.mpr c_29
        refine r_aload_n d_Fz_begin_52 rfl 1 rfl ?_
        refine r_get fs_Fz_21 d_Fz_begin_53 (q0 := 0) rfl rfl ?_
        refine r_iload d_Fz_begin_56 0 rfl ?_
        refine r_sipush d_Fz_begin_58 (v := 401) (by decide) ?_
        refine r_iast d_Fz_begin_61 (q0 := 4) rfl (vp_in_nI (by omega) (by omega)) (f' := upd ((bgS ce fi h (F1, F3, F4, liq) i).2.2.1) i 401) (by rw [nI_clamp (by omega)]) (cs' := [(a, .inr (2, [.ref a1, .ref a2, .ref a3, .ref a4, .ref a5, .ref a6, .int ((bgS ce fi h (F1, F3, F4, liq) i).2.2.2)])), (a1, .inl (0, 108, .inl ((bgS ce fi h (F1, F3, F4, liq) i).1))), (a2, .inl (0, 108, .inl F2)), (a3, .inl (0, 108, .inl (upd ((bgS ce fi h (F1, F3, F4, liq) i).2.1) i 300))), (a4, .inl (0, 108, .inl (upd ((bgS ce fi h (F1, F3, F4, liq) i).2.2.1) i 401))), (a5, .inl (0, 108, .inl (toS ce fi 2 F5 i))), (a6, .inl (0, 108, .inl (toS ce fi 3 F6 i))), (b, .inl (1, 108, .inl ce)), (c, .inl (0, 108, .inl fi))]) rfl ?_
        refine r_aload_n d_Fz_begin_62 rfl 1 rfl ?_
        refine r_dup d_Fz_begin_63 rfl ?_
        refine r_get fs_Fz_30 d_Fz_begin_64 (q0 := 0) rfl rfl ?_
        refine r_iconst d_Fz_begin_67 (v := 1) (by decide) ?_
        refine r_iadd d_Fz_begin_68 (v := ((bgS ce fi h (F1, F3, F4, liq) i).2.2.2) + 1) rfl ?_
        refine r_put fp_Fz_30 d_Fz_begin_69 (fun h => nomatch h) rfl rfl (q0 := 0) rfl (Nat.le_of_ble_eq_true rfl) (cs' := [(a, .inr (2, [.ref a1, .ref a2, .ref a3, .ref a4, .ref a5, .ref a6, .int (((bgS ce fi h (F1, F3, F4, liq) i).2.2.2) + 1)])), (a1, .inl (0, 108, .inl ((bgS ce fi h (F1, F3, F4, liq) i).1))), (a2, .inl (0, 108, .inl F2)), (a3, .inl (0, 108, .inl (upd ((bgS ce fi h (F1, F3, F4, liq) i).2.1) i 300))), (a4, .inl (0, 108, .inl (upd ((bgS ce fi h (F1, F3, F4, liq) i).2.2.1) i 401))), (a5, .inl (0, 108, .inl (toS ce fi 2 F5 i))), (a6, .inl (0, 108, .inl (toS ce fi 3 F6 i))), (b, .inl (1, 108, .inl ce)), (c, .inl (0, 108, .inl fi))]) rfl ?_
        refine r_aload_n d_Fz_begin_72 rfl 1 rfl ?_
        refine r_iload d_Fz_begin_73 0 rfl ?_
        refine r_iload_n d_Fz_begin_75 rfl 4 rfl ?_
        refine r_aload_n d_Fz_begin_76 rfl 3 rfl ?_
        refine r_iload d_Fz_begin_77 0 rfl ?_
        refine r_iald d_Fz_begin_79 (q0 := 8) rfl (vp_in_nI (by omega) (by omega)) (v := fi i) (by rw [nI_clamp (by omega)]) ?_
        refine r_callS (As := [.int h, .int (fi i)]) (rest := [.int (nI i), .ref a]) (csC := []) (is := []) ln_Fz_34 w_st_Fz_heatWhenFilled ok_Fz_begin_Fz_heatWhenFilled d_Fz_begin_80 (C_Fz_hwf g h (fi i)) rfl rfl (Nat.le_of_ble_eq_true rfl) rfl (by decide) (by omega) (by omega) (fun E cs1 hx => ?_) (fun v cs1 hx => ?_)
        · exact absurd hx.1 (by simp)
        · obtain ⟨e1, rfl⟩ := hx
          cases e1
          refine ⟨rfl, ?_⟩
          refine r_st (st2 := [.int (z_hwf h (fi i)), .int (nI i), .ref a]) rfl ?_
          refine r_cs (cs2 := [(a, .inr (2, [.ref a1, .ref a2, .ref a3, .ref a4, .ref a5, .ref a6, .int (((bgS ce fi h (F1, F3, F4, liq) i).2.2.2) + 1)])), (a1, .inl (0, 108, .inl ((bgS ce fi h (F1, F3, F4, liq) i).1))), (a2, .inl (0, 108, .inl F2)), (a3, .inl (0, 108, .inl (upd ((bgS ce fi h (F1, F3, F4, liq) i).2.1) i 300))), (a4, .inl (0, 108, .inl (upd ((bgS ce fi h (F1, F3, F4, liq) i).2.2.1) i 401))), (a5, .inl (0, 108, .inl (toS ce fi 2 F5 i))), (a6, .inl (0, 108, .inl (toS ce fi 3 F6 i))), (b, .inl (1, 108, .inl ce)), (c, .inl (0, 108, .inl fi))]) rfl ?_
          refine r_iconst d_Fz_begin_83 (v := 0) (by decide) ?_
          refine r_callV (As := [.int (nI i), .int (z_hwf h (fi i)), .int 0]) (rest := []) (csC := [(a, .inr (2, [.ref a1, .ref a2, .ref a3, .ref a4, .ref a5, .ref a6, .int (((bgS ce fi h (F1, F3, F4, liq) i).2.2.2) + 1)])), (a1, .inl (0, 108, .inl ((bgS ce fi h (F1, F3, F4, liq) i).1))), (a2, .inl (0, 108, .inl F2)), (a3, .inl (0, 108, .inl (upd ((bgS ce fi h (F1, F3, F4, liq) i).2.1) i 300))), (a4, .inl (0, 108, .inl (upd ((bgS ce fi h (F1, F3, F4, liq) i).2.2.1) i 401))), (a5, .inl (0, 108, .inl (toS ce fi 2 F5 i))), (a6, .inl (0, 108, .inl (toS ce fi 3 F6 i)))]) (is := [0, 1, 2, 3, 4, 5, 6]) (q0 := 0) rfl rfl ln_Fz_38 w_im_Fz_becomeHeat w_se_Fz_becomeHeat ok_Fz_begin_Fz_becomeHeat d_Fz_begin_84 (C_Fz_becomeHeat g a a1 a2 a3 a4 a5 a6 ((bgS ce fi h (F1, F3, F4, liq) i).1) F2 (upd ((bgS ce fi h (F1, F3, F4, liq) i).2.1) i 300) (upd ((bgS ce fi h (F1, F3, F4, liq) i).2.2.1) i 401) (toS ce fi 2 F5 i) (toS ce fi 3 F6 i) (((bgS ce fi h (F1, F3, F4, liq) i).2.2.2) + 1) i (by omega) (z_hwf h (fi i)) 0) rfl rfl (Nat.le_of_ble_eq_true rfl) rfl (by decide) (by omega) (by omega) (fun E cs1 hx => ?_) (fun v cs1 hx => ?_)
          · exact absurd hx.1 (by simp)
          · obtain ⟨e1, rfl⟩ := hx
            cases e1
            refine ⟨rfl, ?_⟩
            refine r_st (st2 := []) rfl ?_
            refine r_cs (cs2 := [(a, .inr (2, [.ref a1, .ref a2, .ref a3, .ref a4, .ref a5, .ref a6, .int ((bhS i (z_hwf h (fi i)) 0 (((bgS ce fi h (F1, F3, F4, liq) i).1), (upd ((bgS ce fi h (F1, F3, F4, liq) i).2.1) i 300), (upd ((bgS ce fi h (F1, F3, F4, liq) i).2.2.1) i 401), (((bgS ce fi h (F1, F3, F4, liq) i).2.2.2) + 1))).2.2.2)])), (a1, .inl (0, 108, .inl ((bhS i (z_hwf h (fi i)) 0 (((bgS ce fi h (F1, F3, F4, liq) i).1), (upd ((bgS ce fi h (F1, F3, F4, liq) i).2.1) i 300), (upd ((bgS ce fi h (F1, F3, F4, liq) i).2.2.1) i 401), (((bgS ce fi h (F1, F3, F4, liq) i).2.2.2) + 1))).1))), (a2, .inl (0, 108, .inl F2)), (a3, .inl (0, 108, .inl ((bhS i (z_hwf h (fi i)) 0 (((bgS ce fi h (F1, F3, F4, liq) i).1), (upd ((bgS ce fi h (F1, F3, F4, liq) i).2.1) i 300), (upd ((bgS ce fi h (F1, F3, F4, liq) i).2.2.1) i 401), (((bgS ce fi h (F1, F3, F4, liq) i).2.2.2) + 1))).2.1))), (a4, .inl (0, 108, .inl ((bhS i (z_hwf h (fi i)) 0 (((bgS ce fi h (F1, F3, F4, liq) i).1), (upd ((bgS ce fi h (F1, F3, F4, liq) i).2.1) i 300), (upd ((bgS ce fi h (F1, F3, F4, liq) i).2.2.1) i 401), (((bgS ce fi h (F1, F3, F4, liq) i).2.2.2) + 1))).2.2.1))), (a5, .inl (0, 108, .inl (toS ce fi 2 F5 i))), (a6, .inl (0, 108, .inl (toS ce fi 3 F6 i))), (b, .inl (1, 108, .inl ce)), (c, .inl (0, 108, .inl fi))]) rfl ?_
            refine r_iload d_Fz_begin_87 0 rfl ?_
            refine r_iconst d_Fz_begin_89 (v := 2) (by decide) ?_
            refine r_callSN (As := [.int (nI i), .int 2]) (rest := []) (csC := []) (is := []) ln_Fz_42 w_st_Ip_beside ok_Fz_begin_Ip_beside d_Fz_begin_90 (C_Ip_beside g i 2 (by omega) (by decide)) rfl rfl (Nat.le_of_ble_eq_true rfl) rfl (by decide) (by omega) (by omega) (fun E cs1 hx => ?_) (fun v cs1 hx => ?_)
            · exact absurd hx.1 (by simp)
            · obtain ⟨e1, rfl⟩ := hx
              cases e1
              refine ⟨rfl, ?_⟩
              refine r_st (st2 := [.int (oI (bs i 2))]) rfl ?_
              refine r_cs (cs2 := [(a, .inr (2, [.ref a1, .ref a2, .ref a3, .ref a4, .ref a5, .ref a6, .int ((bhS i (z_hwf h (fi i)) 0 (((bgS ce fi h (F1, F3, F4, liq) i).1), (upd ((bgS ce fi h (F1, F3, F4, liq) i).2.1) i 300), (upd ((bgS ce fi h (F1, F3, F4, liq) i).2.2.1) i 401), (((bgS ce fi h (F1, F3, F4, liq) i).2.2.2) + 1))).2.2.2)])), (a1, .inl (0, 108, .inl ((bhS i (z_hwf h (fi i)) 0 (((bgS ce fi h (F1, F3, F4, liq) i).1), (upd ((bgS ce fi h (F1, F3, F4, liq) i).2.1) i 300), (upd ((bgS ce fi h (F1, F3, F4, liq) i).2.2.1) i 401), (((bgS ce fi h (F1, F3, F4, liq) i).2.2.2) + 1))).1))), (a2, .inl (0, 108, .inl F2)), (a3, .inl (0, 108, .inl ((bhS i (z_hwf h (fi i)) 0 (((bgS ce fi h (F1, F3, F4, liq) i).1), (upd ((bgS ce fi h (F1, F3, F4, liq) i).2.1) i 300), (upd ((bgS ce fi h (F1, F3, F4, liq) i).2.2.1) i 401), (((bgS ce fi h (F1, F3, F4, liq) i).2.2.2) + 1))).2.1))), (a4, .inl (0, 108, .inl ((bhS i (z_hwf h (fi i)) 0 (((bgS ce fi h (F1, F3, F4, liq) i).1), (upd ((bgS ce fi h (F1, F3, F4, liq) i).2.1) i 300), (upd ((bgS ce fi h (F1, F3, F4, liq) i).2.2.1) i 401), (((bgS ce fi h (F1, F3, F4, liq) i).2.2.2) + 1))).2.2.1))), (a5, .inl (0, 108, .inl (toS ce fi 2 F5 i))), (a6, .inl (0, 108, .inl (toS ce fi 3 F6 i))), (b, .inl (1, 108, .inl ce)), (c, .inl (0, 108, .inl fi))]) rfl ?_
              refine r_istore (lv' := [(5, .int (oI (bs i 2))), (4, .int (nI i)), (0, .ref a), (1, .ref b), (2, .ref c), (3, .int h)]) d_Fz_begin_93 (by decide) rfl ?_
              refine r_iload d_Fz_begin_95 1 rfl ?_
              refine r_iconst d_Fz_begin_97 (v := 3) (by decide) ?_
              refine r_callSN (As := [.int (nI i), .int 3]) (rest := []) (csC := []) (is := []) ln_Fz_42 w_st_Ip_beside ok_Fz_begin_Ip_beside d_Fz_begin_98 (C_Ip_beside g i 3 (by omega) (by decide)) rfl rfl (Nat.le_of_ble_eq_true rfl) rfl (by decide) (by omega) (by omega) (fun E cs1 hx => ?_) (fun v cs1 hx => ?_)
              · exact absurd hx.1 (by simp)
              · obtain ⟨e1, rfl⟩ := hx
                cases e1
                refine ⟨rfl, ?_⟩
                refine r_st (st2 := [.int (oI (bs i 3))]) rfl ?_
                refine r_cs (cs2 := [(a, .inr (2, [.ref a1, .ref a2, .ref a3, .ref a4, .ref a5, .ref a6, .int ((bhS i (z_hwf h (fi i)) 0 (((bgS ce fi h (F1, F3, F4, liq) i).1), (upd ((bgS ce fi h (F1, F3, F4, liq) i).2.1) i 300), (upd ((bgS ce fi h (F1, F3, F4, liq) i).2.2.1) i 401), (((bgS ce fi h (F1, F3, F4, liq) i).2.2.2) + 1))).2.2.2)])), (a1, .inl (0, 108, .inl ((bhS i (z_hwf h (fi i)) 0 (((bgS ce fi h (F1, F3, F4, liq) i).1), (upd ((bgS ce fi h (F1, F3, F4, liq) i).2.1) i 300), (upd ((bgS ce fi h (F1, F3, F4, liq) i).2.2.1) i 401), (((bgS ce fi h (F1, F3, F4, liq) i).2.2.2) + 1))).1))), (a2, .inl (0, 108, .inl F2)), (a3, .inl (0, 108, .inl ((bhS i (z_hwf h (fi i)) 0 (((bgS ce fi h (F1, F3, F4, liq) i).1), (upd ((bgS ce fi h (F1, F3, F4, liq) i).2.1) i 300), (upd ((bgS ce fi h (F1, F3, F4, liq) i).2.2.1) i 401), (((bgS ce fi h (F1, F3, F4, liq) i).2.2.2) + 1))).2.1))), (a4, .inl (0, 108, .inl ((bhS i (z_hwf h (fi i)) 0 (((bgS ce fi h (F1, F3, F4, liq) i).1), (upd ((bgS ce fi h (F1, F3, F4, liq) i).2.1) i 300), (upd ((bgS ce fi h (F1, F3, F4, liq) i).2.2.1) i 401), (((bgS ce fi h (F1, F3, F4, liq) i).2.2.2) + 1))).2.2.1))), (a5, .inl (0, 108, .inl (toS ce fi 2 F5 i))), (a6, .inl (0, 108, .inl (toS ce fi 3 F6 i))), (b, .inl (1, 108, .inl ce)), (c, .inl (0, 108, .inl fi))]) rfl ?_
                refine r_istore (lv' := [(6, .int (oI (bs i 3))), (5, .int (oI (bs i 2))), (4, .int (nI i)), (0, .ref a), (1, .ref b), (2, .ref c), (3, .int h)]) d_Fz_begin_101 (by decide) rfl ?_
                refine r_aload_n d_Fz_begin_103 rfl 3 rfl ?_
                refine r_get fs_Fz_24 d_Fz_begin_104 (q0 := 0) rfl rfl ?_
                refine r_iload d_Fz_begin_107 2 rfl ?_
                refine r_iload d_Fz_begin_109 1 rfl ?_
                refine r_if_ge (tgt := 118) d_Fz_begin_111 (by decide) (fun c_111 => ?_) (fun c_111 => ?_)
                · obtain ⟨o, ho⟩ := oI_pos c_111
                  rw [ho]
                  refine r_aload_n d_Fz_begin_118 rfl 4 rfl ?_
                  refine r_aload_n d_Fz_begin_119 rfl 5 rfl ?_
                  refine r_iload d_Fz_begin_120 2 rfl ?_
                  refine r_iload d_Fz_begin_122 1 rfl ?_
                  refine r_callS (As := [.ref b, .ref c, .int (nI i), .int (nI o)]) (rest := [.int (nI i), .ref a5]) (csC := [(b, .inl (1, 108, .inl ce)), (c, .inl (0, 108, .inl fi))]) (is := [7, 8]) ln_Fz_45 w_st_Fz_passingBetween ok_Fz_begin_Fz_passingBetween d_Fz_begin_124 (C_Fz_passing g b c ce fi i o (by omega) (bs_lt (by omega) ho)) rfl rfl (Nat.le_of_ble_eq_true rfl) rfl (by decide) (by omega) (by omega) (fun E cs1 hx => ?_) (fun v cs1 hx => ?_)
                  · exact absurd hx.1 (by simp)
                  · obtain ⟨e1, rfl⟩ := hx
                    cases e1
                    refine ⟨rfl, ?_⟩
                    refine r_st (st2 := [.int (pbS ce fi i o), .int (nI i), .ref a5]) rfl ?_
                    refine r_cs (cs2 := [(a, .inr (2, [.ref a1, .ref a2, .ref a3, .ref a4, .ref a5, .ref a6, .int ((bhS i (z_hwf h (fi i)) 0 (((bgS ce fi h (F1, F3, F4, liq) i).1), (upd ((bgS ce fi h (F1, F3, F4, liq) i).2.1) i 300), (upd ((bgS ce fi h (F1, F3, F4, liq) i).2.2.1) i 401), (((bgS ce fi h (F1, F3, F4, liq) i).2.2.2) + 1))).2.2.2)])), (a1, .inl (0, 108, .inl ((bhS i (z_hwf h (fi i)) 0 (((bgS ce fi h (F1, F3, F4, liq) i).1), (upd ((bgS ce fi h (F1, F3, F4, liq) i).2.1) i 300), (upd ((bgS ce fi h (F1, F3, F4, liq) i).2.2.1) i 401), (((bgS ce fi h (F1, F3, F4, liq) i).2.2.2) + 1))).1))), (a2, .inl (0, 108, .inl F2)), (a3, .inl (0, 108, .inl ((bhS i (z_hwf h (fi i)) 0 (((bgS ce fi h (F1, F3, F4, liq) i).1), (upd ((bgS ce fi h (F1, F3, F4, liq) i).2.1) i 300), (upd ((bgS ce fi h (F1, F3, F4, liq) i).2.2.1) i 401), (((bgS ce fi h (F1, F3, F4, liq) i).2.2.2) + 1))).2.1))), (a4, .inl (0, 108, .inl ((bhS i (z_hwf h (fi i)) 0 (((bgS ce fi h (F1, F3, F4, liq) i).1), (upd ((bgS ce fi h (F1, F3, F4, liq) i).2.1) i 300), (upd ((bgS ce fi h (F1, F3, F4, liq) i).2.2.1) i 401), (((bgS ce fi h (F1, F3, F4, liq) i).2.2.2) + 1))).2.2.1))), (a5, .inl (0, 108, .inl (toS ce fi 2 F5 i))), (a6, .inl (0, 108, .inl (toS ce fi 3 F6 i))), (b, .inl (1, 108, .inl ce)), (c, .inl (0, 108, .inl fi))]) rfl ?_
                    refine r_iast d_Fz_begin_127 (q0 := 5) rfl (vp_in_nI (by omega) (by omega)) (f' := upd (toS ce fi 2 F5 i) i (pbS ce fi i o)) (by rw [nI_clamp (by omega)]) (cs' := [(a, .inr (2, [.ref a1, .ref a2, .ref a3, .ref a4, .ref a5, .ref a6, .int ((bhS i (z_hwf h (fi i)) 0 (((bgS ce fi h (F1, F3, F4, liq) i).1), (upd ((bgS ce fi h (F1, F3, F4, liq) i).2.1) i 300), (upd ((bgS ce fi h (F1, F3, F4, liq) i).2.2.1) i 401), (((bgS ce fi h (F1, F3, F4, liq) i).2.2.2) + 1))).2.2.2)])), (a1, .inl (0, 108, .inl ((bhS i (z_hwf h (fi i)) 0 (((bgS ce fi h (F1, F3, F4, liq) i).1), (upd ((bgS ce fi h (F1, F3, F4, liq) i).2.1) i 300), (upd ((bgS ce fi h (F1, F3, F4, liq) i).2.2.1) i 401), (((bgS ce fi h (F1, F3, F4, liq) i).2.2.2) + 1))).1))), (a2, .inl (0, 108, .inl F2)), (a3, .inl (0, 108, .inl ((bhS i (z_hwf h (fi i)) 0 (((bgS ce fi h (F1, F3, F4, liq) i).1), (upd ((bgS ce fi h (F1, F3, F4, liq) i).2.1) i 300), (upd ((bgS ce fi h (F1, F3, F4, liq) i).2.2.1) i 401), (((bgS ce fi h (F1, F3, F4, liq) i).2.2.2) + 1))).2.1))), (a4, .inl (0, 108, .inl ((bhS i (z_hwf h (fi i)) 0 (((bgS ce fi h (F1, F3, F4, liq) i).1), (upd ((bgS ce fi h (F1, F3, F4, liq) i).2.1) i 300), (upd ((bgS ce fi h (F1, F3, F4, liq) i).2.2.1) i 401), (((bgS ce fi h (F1, F3, F4, liq) i).2.2.2) + 1))).2.2.1))), (a5, .inl (0, 108, .inl (upd (toS ce fi 2 F5 i) i (pbS ce fi i o)))), (a6, .inl (0, 108, .inl (toS ce fi 3 F6 i))), (b, .inl (1, 108, .inl ce)), (c, .inl (0, 108, .inl fi))]) rfl ?_
                    refine r_aload_n d_Fz_begin_128 rfl 3 rfl ?_
                    refine r_get fs_Fz_27 d_Fz_begin_129 (q0 := 0) rfl rfl ?_
                    refine r_iload d_Fz_begin_132 2 rfl ?_
                    refine r_iload d_Fz_begin_134 0 rfl ?_
                    refine r_if_ge (tgt := 143) d_Fz_begin_136 (by decide) (fun c_136 => ?_) (fun c_136 => ?_)
                    · obtain ⟨o2, hb⟩ := oI_pos c_136
                      rw [hb]
                      refine r_aload_n d_Fz_begin_143 rfl 4 rfl ?_
                      refine r_aload_n d_Fz_begin_144 rfl 5 rfl ?_
                      refine r_iload d_Fz_begin_145 2 rfl ?_
                      refine r_iload d_Fz_begin_147 0 rfl ?_
                      refine r_callS (As := [.ref b, .ref c, .int (nI i), .int (nI o2)]) (rest := [.int (nI i), .ref a6]) (csC := [(b, .inl (1, 108, .inl ce)), (c, .inl (0, 108, .inl fi))]) (is := [7, 8]) ln_Fz_45 w_st_Fz_passingBetween ok_Fz_begin_Fz_passingBetween d_Fz_begin_149 (C_Fz_passing g b c ce fi i o2 (by omega) (bs_lt (by omega) hb)) rfl rfl (Nat.le_of_ble_eq_true rfl) rfl (by decide) (by omega) (by omega) (fun E cs1 hx => ?_) (fun v cs1 hx => ?_)
                      · exact absurd hx.1 (by simp)
                      · obtain ⟨e1, rfl⟩ := hx
                        cases e1
                        refine ⟨rfl, ?_⟩
                        refine r_st (st2 := [.int (pbS ce fi i o2), .int (nI i), .ref a6]) rfl ?_
                        refine r_cs (cs2 := [(a, .inr (2, [.ref a1, .ref a2, .ref a3, .ref a4, .ref a5, .ref a6, .int ((bhS i (z_hwf h (fi i)) 0 (((bgS ce fi h (F1, F3, F4, liq) i).1), (upd ((bgS ce fi h (F1, F3, F4, liq) i).2.1) i 300), (upd ((bgS ce fi h (F1, F3, F4, liq) i).2.2.1) i 401), (((bgS ce fi h (F1, F3, F4, liq) i).2.2.2) + 1))).2.2.2)])), (a1, .inl (0, 108, .inl ((bhS i (z_hwf h (fi i)) 0 (((bgS ce fi h (F1, F3, F4, liq) i).1), (upd ((bgS ce fi h (F1, F3, F4, liq) i).2.1) i 300), (upd ((bgS ce fi h (F1, F3, F4, liq) i).2.2.1) i 401), (((bgS ce fi h (F1, F3, F4, liq) i).2.2.2) + 1))).1))), (a2, .inl (0, 108, .inl F2)), (a3, .inl (0, 108, .inl ((bhS i (z_hwf h (fi i)) 0 (((bgS ce fi h (F1, F3, F4, liq) i).1), (upd ((bgS ce fi h (F1, F3, F4, liq) i).2.1) i 300), (upd ((bgS ce fi h (F1, F3, F4, liq) i).2.2.1) i 401), (((bgS ce fi h (F1, F3, F4, liq) i).2.2.2) + 1))).2.1))), (a4, .inl (0, 108, .inl ((bhS i (z_hwf h (fi i)) 0 (((bgS ce fi h (F1, F3, F4, liq) i).1), (upd ((bgS ce fi h (F1, F3, F4, liq) i).2.1) i 300), (upd ((bgS ce fi h (F1, F3, F4, liq) i).2.2.1) i 401), (((bgS ce fi h (F1, F3, F4, liq) i).2.2.2) + 1))).2.2.1))), (a5, .inl (0, 108, .inl (upd (toS ce fi 2 F5 i) i (pbS ce fi i o)))), (a6, .inl (0, 108, .inl (toS ce fi 3 F6 i))), (b, .inl (1, 108, .inl ce)), (c, .inl (0, 108, .inl fi))]) rfl ?_
                        refine r_iast d_Fz_begin_152 (q0 := 6) rfl (vp_in_nI (by omega) (by omega)) (f' := upd (toS ce fi 3 F6 i) i (pbS ce fi i o2)) (by rw [nI_clamp (by omega)]) (cs' := [(a, .inr (2, [.ref a1, .ref a2, .ref a3, .ref a4, .ref a5, .ref a6, .int ((bhS i (z_hwf h (fi i)) 0 (((bgS ce fi h (F1, F3, F4, liq) i).1), (upd ((bgS ce fi h (F1, F3, F4, liq) i).2.1) i 300), (upd ((bgS ce fi h (F1, F3, F4, liq) i).2.2.1) i 401), (((bgS ce fi h (F1, F3, F4, liq) i).2.2.2) + 1))).2.2.2)])), (a1, .inl (0, 108, .inl ((bhS i (z_hwf h (fi i)) 0 (((bgS ce fi h (F1, F3, F4, liq) i).1), (upd ((bgS ce fi h (F1, F3, F4, liq) i).2.1) i 300), (upd ((bgS ce fi h (F1, F3, F4, liq) i).2.2.1) i 401), (((bgS ce fi h (F1, F3, F4, liq) i).2.2.2) + 1))).1))), (a2, .inl (0, 108, .inl F2)), (a3, .inl (0, 108, .inl ((bhS i (z_hwf h (fi i)) 0 (((bgS ce fi h (F1, F3, F4, liq) i).1), (upd ((bgS ce fi h (F1, F3, F4, liq) i).2.1) i 300), (upd ((bgS ce fi h (F1, F3, F4, liq) i).2.2.1) i 401), (((bgS ce fi h (F1, F3, F4, liq) i).2.2.2) + 1))).2.1))), (a4, .inl (0, 108, .inl ((bhS i (z_hwf h (fi i)) 0 (((bgS ce fi h (F1, F3, F4, liq) i).1), (upd ((bgS ce fi h (F1, F3, F4, liq) i).2.1) i 300), (upd ((bgS ce fi h (F1, F3, F4, liq) i).2.2.1) i 401), (((bgS ce fi h (F1, F3, F4, liq) i).2.2.2) + 1))).2.2.1))), (a5, .inl (0, 108, .inl (upd (toS ce fi 2 F5 i) i (pbS ce fi i o)))), (a6, .inl (0, 108, .inl (upd (toS ce fi 3 F6 i) i (pbS ce fi i o2)))), (b, .inl (1, 108, .inl ce)), (c, .inl (0, 108, .inl fi))]) rfl ?_
                        refine r_iinc (lv' := [(4, .int (nI (i + 1))), (6, .int (nI o2)), (5, .int (nI o)), (0, .ref a), (1, .ref b), (2, .ref c), (3, .int h)]) (v := nI (i + 1)) d_Fz_begin_153 (j := 2) rfl (nI_add _ _) (by decide) rfl ?_
                        refine r_goto (tgt := 8) d_Fz_begin_156 (by decide) ?_
                        refine r_lv (lv' := [(4, .int (nI (i + 1))), (0, .ref a), (1, .ref b), (2, .ref c), (3, .int h)]) [0, 3, 4, 5, 6] rfl ?_
                        refine r_lvE (lv2 := [(4, .int (nI (i + 1))), (0, .ref a), (1, .ref b), (2, .ref c), (3, .int h)]) (rfl) ?_
                        refine r_cs (cs2 := [(a, .inr (2, [.ref a1, .ref a2, .ref a3, .ref a4, .ref a5, .ref a6, .int ((bgS ce fi h (F1, F3, F4, liq) (i + 1)).2.2.2)])), (a1, .inl (0, 108, .inl ((bgS ce fi h (F1, F3, F4, liq) (i + 1)).1))), (a2, .inl (0, 108, .inl F2)), (a3, .inl (0, 108, .inl ((bgS ce fi h (F1, F3, F4, liq) (i + 1)).2.1))), (a4, .inl (0, 108, .inl ((bgS ce fi h (F1, F3, F4, liq) (i + 1)).2.2.1))), (a5, .inl (0, 108, .inl (toS ce fi 2 F5 (i + 1)))), (a6, .inl (0, 108, .inl (toS ce fi 3 F6 (i + 1)))), (b, .inl (1, 108, .inl ce)), (c, .inl (0, 108, .inl fi))]) (by first | (rw [bgS_t hfi, toS_x ho, toS_x hb] <;> rfl) | (rw [bgS_f hfi, toS_x ho, toS_x hb] <;> rfl)) ?_
                        exact ih (i + 1) (by omega) (by omega)
                    · have hb := oI_neg (by omega) c_136
                      refine r_iconst d_Fz_begin_139 (v := 0) (by decide) ?_
                      refine r_goto (tgt := 152) d_Fz_begin_140 (by decide) ?_
                      refine r_iast d_Fz_begin_152 (q0 := 6) rfl (vp_in_nI (by omega) (by omega)) (f' := upd (toS ce fi 3 F6 i) i 0) (by rw [nI_clamp (by omega)]) (cs' := [(a, .inr (2, [.ref a1, .ref a2, .ref a3, .ref a4, .ref a5, .ref a6, .int ((bhS i (z_hwf h (fi i)) 0 (((bgS ce fi h (F1, F3, F4, liq) i).1), (upd ((bgS ce fi h (F1, F3, F4, liq) i).2.1) i 300), (upd ((bgS ce fi h (F1, F3, F4, liq) i).2.2.1) i 401), (((bgS ce fi h (F1, F3, F4, liq) i).2.2.2) + 1))).2.2.2)])), (a1, .inl (0, 108, .inl ((bhS i (z_hwf h (fi i)) 0 (((bgS ce fi h (F1, F3, F4, liq) i).1), (upd ((bgS ce fi h (F1, F3, F4, liq) i).2.1) i 300), (upd ((bgS ce fi h (F1, F3, F4, liq) i).2.2.1) i 401), (((bgS ce fi h (F1, F3, F4, liq) i).2.2.2) + 1))).1))), (a2, .inl (0, 108, .inl F2)), (a3, .inl (0, 108, .inl ((bhS i (z_hwf h (fi i)) 0 (((bgS ce fi h (F1, F3, F4, liq) i).1), (upd ((bgS ce fi h (F1, F3, F4, liq) i).2.1) i 300), (upd ((bgS ce fi h (F1, F3, F4, liq) i).2.2.1) i 401), (((bgS ce fi h (F1, F3, F4, liq) i).2.2.2) + 1))).2.1))), (a4, .inl (0, 108, .inl ((bhS i (z_hwf h (fi i)) 0 (((bgS ce fi h (F1, F3, F4, liq) i).1), (upd ((bgS ce fi h (F1, F3, F4, liq) i).2.1) i 300), (upd ((bgS ce fi h (F1, F3, F4, liq) i).2.2.1) i 401), (((bgS ce fi h (F1, F3, F4, liq) i).2.2.2) + 1))).2.2.1))), (a5, .inl (0, 108, .inl (upd (toS ce fi 2 F5 i) i (pbS ce fi i o)))), (a6, .inl (0, 108, .inl (upd (toS ce fi 3 F6 i) i 0))), (b, .inl (1, 108, .inl ce)), (c, .inl (0, 108, .inl fi))]) rfl ?_
                      refine r_iinc (lv' := [(4, .int (nI (i + 1))), (6, .int (oI (bs i 3))), (5, .int (nI o)), (0, .ref a), (1, .ref b), (2, .ref c), (3, .int h)]) (v := nI (i + 1)) d_Fz_begin_153 (j := 2) rfl (nI_add _ _) (by decide) rfl ?_
                      refine r_goto (tgt := 8) d_Fz_begin_156 (by decide) ?_
                      refine r_lv (lv' := [(4, .int (nI (i + 1))), (0, .ref a), (1, .ref b), (2, .ref c), (3, .int h)]) [0, 3, 4, 5, 6] rfl ?_
                      refine r_lvE (lv2 := [(4, .int (nI (i + 1))), (0, .ref a), (1, .ref b), (2, .ref c), (3, .int h)]) (rfl) ?_
                      refine r_cs (cs2 := [(a, .inr (2, [.ref a1, .ref a2, .ref a3, .ref a4, .ref a5, .ref a6, .int ((bgS ce fi h (F1, F3, F4, liq) (i + 1)).2.2.2)])), (a1, .inl (0, 108, .inl ((bgS ce fi h (F1, F3, F4, liq) (i + 1)).1))), (a2, .inl (0, 108, .inl F2)), (a3, .inl (0, 108, .inl ((bgS ce fi h (F1, F3, F4, liq) (i + 1)).2.1))), (a4, .inl (0, 108, .inl ((bgS ce fi h (F1, F3, F4, liq) (i + 1)).2.2.1))), (a5, .inl (0, 108, .inl (toS ce fi 2 F5 (i + 1)))), (a6, .inl (0, 108, .inl (toS ce fi 3 F6 (i + 1)))), (b, .inl (1, 108, .inl ce)), (c, .inl (0, 108, .inl fi))]) (by first | (rw [bgS_t hfi, toS_x ho, toS_x hb] <;> rfl) | (rw [bgS_f hfi, toS_x ho, toS_x hb] <;> rfl)) ?_
                      exact ih (i + 1) (by omega) (by omega)
                · have ho := oI_neg (by omega) c_111
                  refine r_iconst d_Fz_begin_114 (v := 0) (by decide) ?_
                  refine r_goto (tgt := 127) d_Fz_begin_115 (by decide) ?_
                  refine r_iast d_Fz_begin_127 (q0 := 5) rfl (vp_in_nI (by omega) (by omega)) (f' := upd (toS ce fi 2 F5 i) i 0) (by rw [nI_clamp (by omega)]) (cs' := [(a, .inr (2, [.ref a1, .ref a2, .ref a3, .ref a4, .ref a5, .ref a6, .int ((bhS i (z_hwf h (fi i)) 0 (((bgS ce fi h (F1, F3, F4, liq) i).1), (upd ((bgS ce fi h (F1, F3, F4, liq) i).2.1) i 300), (upd ((bgS ce fi h (F1, F3, F4, liq) i).2.2.1) i 401), (((bgS ce fi h (F1, F3, F4, liq) i).2.2.2) + 1))).2.2.2)])), (a1, .inl (0, 108, .inl ((bhS i (z_hwf h (fi i)) 0 (((bgS ce fi h (F1, F3, F4, liq) i).1), (upd ((bgS ce fi h (F1, F3, F4, liq) i).2.1) i 300), (upd ((bgS ce fi h (F1, F3, F4, liq) i).2.2.1) i 401), (((bgS ce fi h (F1, F3, F4, liq) i).2.2.2) + 1))).1))), (a2, .inl (0, 108, .inl F2)), (a3, .inl (0, 108, .inl ((bhS i (z_hwf h (fi i)) 0 (((bgS ce fi h (F1, F3, F4, liq) i).1), (upd ((bgS ce fi h (F1, F3, F4, liq) i).2.1) i 300), (upd ((bgS ce fi h (F1, F3, F4, liq) i).2.2.1) i 401), (((bgS ce fi h (F1, F3, F4, liq) i).2.2.2) + 1))).2.1))), (a4, .inl (0, 108, .inl ((bhS i (z_hwf h (fi i)) 0 (((bgS ce fi h (F1, F3, F4, liq) i).1), (upd ((bgS ce fi h (F1, F3, F4, liq) i).2.1) i 300), (upd ((bgS ce fi h (F1, F3, F4, liq) i).2.2.1) i 401), (((bgS ce fi h (F1, F3, F4, liq) i).2.2.2) + 1))).2.2.1))), (a5, .inl (0, 108, .inl (upd (toS ce fi 2 F5 i) i 0))), (a6, .inl (0, 108, .inl (toS ce fi 3 F6 i))), (b, .inl (1, 108, .inl ce)), (c, .inl (0, 108, .inl fi))]) rfl ?_
                  refine r_aload_n d_Fz_begin_128 rfl 3 rfl ?_
                  refine r_get fs_Fz_27 d_Fz_begin_129 (q0 := 0) rfl rfl ?_
                  refine r_iload d_Fz_begin_132 2 rfl ?_
                  refine r_iload d_Fz_begin_134 0 rfl ?_
                  refine r_if_ge (tgt := 143) d_Fz_begin_136 (by decide) (fun c_136 => ?_) (fun c_136 => ?_)
                  · obtain ⟨o2, hb⟩ := oI_pos c_136
                    rw [hb]
                    refine r_aload_n d_Fz_begin_143 rfl 4 rfl ?_
                    refine r_aload_n d_Fz_begin_144 rfl 5 rfl ?_
                    refine r_iload d_Fz_begin_145 2 rfl ?_
                    refine r_iload d_Fz_begin_147 0 rfl ?_
                    refine r_callS (As := [.ref b, .ref c, .int (nI i), .int (nI o2)]) (rest := [.int (nI i), .ref a6]) (csC := [(b, .inl (1, 108, .inl ce)), (c, .inl (0, 108, .inl fi))]) (is := [7, 8]) ln_Fz_45 w_st_Fz_passingBetween ok_Fz_begin_Fz_passingBetween d_Fz_begin_149 (C_Fz_passing g b c ce fi i o2 (by omega) (bs_lt (by omega) hb)) rfl rfl (Nat.le_of_ble_eq_true rfl) rfl (by decide) (by omega) (by omega) (fun E cs1 hx => ?_) (fun v cs1 hx => ?_)
                    · exact absurd hx.1 (by simp)
                    · obtain ⟨e1, rfl⟩ := hx
                      cases e1
                      refine ⟨rfl, ?_⟩
                      refine r_st (st2 := [.int (pbS ce fi i o2), .int (nI i), .ref a6]) rfl ?_
                      refine r_cs (cs2 := [(a, .inr (2, [.ref a1, .ref a2, .ref a3, .ref a4, .ref a5, .ref a6, .int ((bhS i (z_hwf h (fi i)) 0 (((bgS ce fi h (F1, F3, F4, liq) i).1), (upd ((bgS ce fi h (F1, F3, F4, liq) i).2.1) i 300), (upd ((bgS ce fi h (F1, F3, F4, liq) i).2.2.1) i 401), (((bgS ce fi h (F1, F3, F4, liq) i).2.2.2) + 1))).2.2.2)])), (a1, .inl (0, 108, .inl ((bhS i (z_hwf h (fi i)) 0 (((bgS ce fi h (F1, F3, F4, liq) i).1), (upd ((bgS ce fi h (F1, F3, F4, liq) i).2.1) i 300), (upd ((bgS ce fi h (F1, F3, F4, liq) i).2.2.1) i 401), (((bgS ce fi h (F1, F3, F4, liq) i).2.2.2) + 1))).1))), (a2, .inl (0, 108, .inl F2)), (a3, .inl (0, 108, .inl ((bhS i (z_hwf h (fi i)) 0 (((bgS ce fi h (F1, F3, F4, liq) i).1), (upd ((bgS ce fi h (F1, F3, F4, liq) i).2.1) i 300), (upd ((bgS ce fi h (F1, F3, F4, liq) i).2.2.1) i 401), (((bgS ce fi h (F1, F3, F4, liq) i).2.2.2) + 1))).2.1))), (a4, .inl (0, 108, .inl ((bhS i (z_hwf h (fi i)) 0 (((bgS ce fi h (F1, F3, F4, liq) i).1), (upd ((bgS ce fi h (F1, F3, F4, liq) i).2.1) i 300), (upd ((bgS ce fi h (F1, F3, F4, liq) i).2.2.1) i 401), (((bgS ce fi h (F1, F3, F4, liq) i).2.2.2) + 1))).2.2.1))), (a5, .inl (0, 108, .inl (upd (toS ce fi 2 F5 i) i 0))), (a6, .inl (0, 108, .inl (toS ce fi 3 F6 i))), (b, .inl (1, 108, .inl ce)), (c, .inl (0, 108, .inl fi))]) rfl ?_
                      refine r_iast d_Fz_begin_152 (q0 := 6) rfl (vp_in_nI (by omega) (by omega)) (f' := upd (toS ce fi 3 F6 i) i (pbS ce fi i o2)) (by rw [nI_clamp (by omega)]) (cs' := [(a, .inr (2, [.ref a1, .ref a2, .ref a3, .ref a4, .ref a5, .ref a6, .int ((bhS i (z_hwf h (fi i)) 0 (((bgS ce fi h (F1, F3, F4, liq) i).1), (upd ((bgS ce fi h (F1, F3, F4, liq) i).2.1) i 300), (upd ((bgS ce fi h (F1, F3, F4, liq) i).2.2.1) i 401), (((bgS ce fi h (F1, F3, F4, liq) i).2.2.2) + 1))).2.2.2)])), (a1, .inl (0, 108, .inl ((bhS i (z_hwf h (fi i)) 0 (((bgS ce fi h (F1, F3, F4, liq) i).1), (upd ((bgS ce fi h (F1, F3, F4, liq) i).2.1) i 300), (upd ((bgS ce fi h (F1, F3, F4, liq) i).2.2.1) i 401), (((bgS ce fi h (F1, F3, F4, liq) i).2.2.2) + 1))).1))), (a2, .inl (0, 108, .inl F2)), (a3, .inl (0, 108, .inl ((bhS i (z_hwf h (fi i)) 0 (((bgS ce fi h (F1, F3, F4, liq) i).1), (upd ((bgS ce fi h (F1, F3, F4, liq) i).2.1) i 300), (upd ((bgS ce fi h (F1, F3, F4, liq) i).2.2.1) i 401), (((bgS ce fi h (F1, F3, F4, liq) i).2.2.2) + 1))).2.1))), (a4, .inl (0, 108, .inl ((bhS i (z_hwf h (fi i)) 0 (((bgS ce fi h (F1, F3, F4, liq) i).1), (upd ((bgS ce fi h (F1, F3, F4, liq) i).2.1) i 300), (upd ((bgS ce fi h (F1, F3, F4, liq) i).2.2.1) i 401), (((bgS ce fi h (F1, F3, F4, liq) i).2.2.2) + 1))).2.2.1))), (a5, .inl (0, 108, .inl (upd (toS ce fi 2 F5 i) i 0))), (a6, .inl (0, 108, .inl (upd (toS ce fi 3 F6 i) i (pbS ce fi i o2)))), (b, .inl (1, 108, .inl ce)), (c, .inl (0, 108, .inl fi))]) rfl ?_
                      refine r_iinc (lv' := [(4, .int (nI (i + 1))), (6, .int (nI o2)), (5, .int (oI (bs i 2))), (0, .ref a), (1, .ref b), (2, .ref c), (3, .int h)]) (v := nI (i + 1)) d_Fz_begin_153 (j := 2) rfl (nI_add _ _) (by decide) rfl ?_
                      refine r_goto (tgt := 8) d_Fz_begin_156 (by decide) ?_
                      refine r_lv (lv' := [(4, .int (nI (i + 1))), (0, .ref a), (1, .ref b), (2, .ref c), (3, .int h)]) [0, 3, 4, 5, 6] rfl ?_
                      refine r_lvE (lv2 := [(4, .int (nI (i + 1))), (0, .ref a), (1, .ref b), (2, .ref c), (3, .int h)]) (rfl) ?_
                      refine r_cs (cs2 := [(a, .inr (2, [.ref a1, .ref a2, .ref a3, .ref a4, .ref a5, .ref a6, .int ((bgS ce fi h (F1, F3, F4, liq) (i + 1)).2.2.2)])), (a1, .inl (0, 108, .inl ((bgS ce fi h (F1, F3, F4, liq) (i + 1)).1))), (a2, .inl (0, 108, .inl F2)), (a3, .inl (0, 108, .inl ((bgS ce fi h (F1, F3, F4, liq) (i + 1)).2.1))), (a4, .inl (0, 108, .inl ((bgS ce fi h (F1, F3, F4, liq) (i + 1)).2.2.1))), (a5, .inl (0, 108, .inl (toS ce fi 2 F5 (i + 1)))), (a6, .inl (0, 108, .inl (toS ce fi 3 F6 (i + 1)))), (b, .inl (1, 108, .inl ce)), (c, .inl (0, 108, .inl fi))]) (by first | (rw [bgS_t hfi, toS_x ho, toS_x hb] <;> rfl) | (rw [bgS_f hfi, toS_x ho, toS_x hb] <;> rfl)) ?_
                      exact ih (i + 1) (by omega) (by omega)
                  · have hb := oI_neg (by omega) c_136
                    refine r_iconst d_Fz_begin_139 (v := 0) (by decide) ?_
                    refine r_goto (tgt := 152) d_Fz_begin_140 (by decide) ?_
                    refine r_iast d_Fz_begin_152 (q0 := 6) rfl (vp_in_nI (by omega) (by omega)) (f' := upd (toS ce fi 3 F6 i) i 0) (by rw [nI_clamp (by omega)]) (cs' := [(a, .inr (2, [.ref a1, .ref a2, .ref a3, .ref a4, .ref a5, .ref a6, .int ((bhS i (z_hwf h (fi i)) 0 (((bgS ce fi h (F1, F3, F4, liq) i).1), (upd ((bgS ce fi h (F1, F3, F4, liq) i).2.1) i 300), (upd ((bgS ce fi h (F1, F3, F4, liq) i).2.2.1) i 401), (((bgS ce fi h (F1, F3, F4, liq) i).2.2.2) + 1))).2.2.2)])), (a1, .inl (0, 108, .inl ((bhS i (z_hwf h (fi i)) 0 (((bgS ce fi h (F1, F3, F4, liq) i).1), (upd ((bgS ce fi h (F1, F3, F4, liq) i).2.1) i 300), (upd ((bgS ce fi h (F1, F3, F4, liq) i).2.2.1) i 401), (((bgS ce fi h (F1, F3, F4, liq) i).2.2.2) + 1))).1))), (a2, .inl (0, 108, .inl F2)), (a3, .inl (0, 108, .inl ((bhS i (z_hwf h (fi i)) 0 (((bgS ce fi h (F1, F3, F4, liq) i).1), (upd ((bgS ce fi h (F1, F3, F4, liq) i).2.1) i 300), (upd ((bgS ce fi h (F1, F3, F4, liq) i).2.2.1) i 401), (((bgS ce fi h (F1, F3, F4, liq) i).2.2.2) + 1))).2.1))), (a4, .inl (0, 108, .inl ((bhS i (z_hwf h (fi i)) 0 (((bgS ce fi h (F1, F3, F4, liq) i).1), (upd ((bgS ce fi h (F1, F3, F4, liq) i).2.1) i 300), (upd ((bgS ce fi h (F1, F3, F4, liq) i).2.2.1) i 401), (((bgS ce fi h (F1, F3, F4, liq) i).2.2.2) + 1))).2.2.1))), (a5, .inl (0, 108, .inl (upd (toS ce fi 2 F5 i) i 0))), (a6, .inl (0, 108, .inl (upd (toS ce fi 3 F6 i) i 0))), (b, .inl (1, 108, .inl ce)), (c, .inl (0, 108, .inl fi))]) rfl ?_
                    refine r_iinc (lv' := [(4, .int (nI (i + 1))), (6, .int (oI (bs i 3))), (5, .int (oI (bs i 2))), (0, .ref a), (1, .ref b), (2, .ref c), (3, .int h)]) (v := nI (i + 1)) d_Fz_begin_153 (j := 2) rfl (nI_add _ _) (by decide) rfl ?_
                    refine r_goto (tgt := 8) d_Fz_begin_156 (by decide) ?_
                    refine r_lv (lv' := [(4, .int (nI (i + 1))), (0, .ref a), (1, .ref b), (2, .ref c), (3, .int h)]) [0, 3, 4, 5, 6] rfl ?_
                    refine r_lvE (lv2 := [(4, .int (nI (i + 1))), (0, .ref a), (1, .ref b), (2, .ref c), (3, .int h)]) (rfl) ?_
                    refine r_cs (cs2 := [(a, .inr (2, [.ref a1, .ref a2, .ref a3, .ref a4, .ref a5, .ref a6, .int ((bgS ce fi h (F1, F3, F4, liq) (i + 1)).2.2.2)])), (a1, .inl (0, 108, .inl ((bgS ce fi h (F1, F3, F4, liq) (i + 1)).1))), (a2, .inl (0, 108, .inl F2)), (a3, .inl (0, 108, .inl ((bgS ce fi h (F1, F3, F4, liq) (i + 1)).2.1))), (a4, .inl (0, 108, .inl ((bgS ce fi h (F1, F3, F4, liq) (i + 1)).2.2.1))), (a5, .inl (0, 108, .inl (toS ce fi 2 F5 (i + 1)))), (a6, .inl (0, 108, .inl (toS ce fi 3 F6 (i + 1)))), (b, .inl (1, 108, .inl ce)), (c, .inl (0, 108, .inl fi))]) (by first | (rw [bgS_t hfi, toS_x ho, toS_x hb] <;> rfl) | (rw [bgS_f hfi, toS_x ho, toS_x hb] <;> rfl)) ?_
                    exact ih (i + 1) (by omega) (by omega)
      · have hfi : fi i < 0 := Int32.not_le.mp c_29
        refine r_aload_n d_Fz_begin_32 rfl 1 rfl ?_
        refine r_get fs_Fz_21 d_Fz_begin_33 (q0 := 0) rfl rfl ?_
        refine r_iload d_Fz_begin_36 0 rfl ?_
        refine r_iconst d_Fz_begin_38 (v := (-1)) (by decide) ?_
        refine r_iast d_Fz_begin_39 (q0 := 4) rfl (vp_in_nI (by omega) (by omega)) (f' := upd ((bgS ce fi h (F1, F3, F4, liq) i).2.2.1) i (-1)) (by rw [nI_clamp (by omega)]) (cs' := [(a, .inr (2, [.ref a1, .ref a2, .ref a3, .ref a4, .ref a5, .ref a6, .int ((bgS ce fi h (F1, F3, F4, liq) i).2.2.2)])), (a1, .inl (0, 108, .inl ((bgS ce fi h (F1, F3, F4, liq) i).1))), (a2, .inl (0, 108, .inl F2)), (a3, .inl (0, 108, .inl (upd ((bgS ce fi h (F1, F3, F4, liq) i).2.1) i 300))), (a4, .inl (0, 108, .inl (upd ((bgS ce fi h (F1, F3, F4, liq) i).2.2.1) i (-1)))), (a5, .inl (0, 108, .inl (toS ce fi 2 F5 i))), (a6, .inl (0, 108, .inl (toS ce fi 3 F6 i))), (b, .inl (1, 108, .inl ce)), (c, .inl (0, 108, .inl fi))]) rfl ?_
        refine r_aload_n d_Fz_begin_40 rfl 1 rfl ?_
        refine r_get fs_Fz_9 d_Fz_begin_41 (q0 := 0) rfl rfl ?_
        refine r_iload d_Fz_begin_44 0 rfl ?_
        refine r_bipush d_Fz_begin_46 (v := 20) (by decide) ?_
        refine r_iast d_Fz_begin_48 (q0 := 1) rfl (vp_in_nI (by omega) (by omega)) (f' := upd ((bgS ce fi h (F1, F3, F4, liq) i).1) i 20) (by rw [nI_clamp (by omega)]) (cs' := [(a, .inr (2, [.ref a1, .ref a2, .ref a3, .ref a4, .ref a5, .ref a6, .int ((bgS ce fi h (F1, F3, F4, liq) i).2.2.2)])), (a1, .inl (0, 108, .inl (upd ((bgS ce fi h (F1, F3, F4, liq) i).1) i 20))), (a2, .inl (0, 108, .inl F2)), (a3, .inl (0, 108, .inl (upd ((bgS ce fi h (F1, F3, F4, liq) i).2.1) i 300))), (a4, .inl (0, 108, .inl (upd ((bgS ce fi h (F1, F3, F4, liq) i).2.2.1) i (-1)))), (a5, .inl (0, 108, .inl (toS ce fi 2 F5 i))), (a6, .inl (0, 108, .inl (toS ce fi 3 F6 i))), (b, .inl (1, 108, .inl ce)), (c, .inl (0, 108, .inl fi))]) rfl ?_
        refine r_goto (tgt := 87) d_Fz_begin_49 (by decide) ?_
        refine r_iload d_Fz_begin_87 0 rfl ?_
        refine r_iconst d_Fz_begin_89 (v := 2) (by decide) ?_
        refine r_callSN (As := [.int (nI i), .int 2]) (rest := []) (csC := []) (is := []) ln_Fz_42 w_st_Ip_beside ok_Fz_begin_Ip_beside d_Fz_begin_90 (C_Ip_beside g i 2 (by omega) (by decide)) rfl rfl (Nat.le_of_ble_eq_true rfl) rfl (by decide) (by omega) (by omega) (fun E cs1 hx => ?_) (fun v cs1 hx => ?_)
        · exact absurd hx.1 (by simp)
        · obtain ⟨e1, rfl⟩ := hx
          cases e1
          refine ⟨rfl, ?_⟩
          refine r_st (st2 := [.int (oI (bs i 2))]) rfl ?_
          refine r_cs (cs2 := [(a, .inr (2, [.ref a1, .ref a2, .ref a3, .ref a4, .ref a5, .ref a6, .int ((bgS ce fi h (F1, F3, F4, liq) i).2.2.2)])), (a1, .inl (0, 108, .inl (upd ((bgS ce fi h (F1, F3, F4, liq) i).1) i 20))), (a2, .inl (0, 108, .inl F2)), (a3, .inl (0, 108, .inl (upd ((bgS ce fi h (F1, F3, F4, liq) i).2.1) i 300))), (a4, .inl (0, 108, .inl (upd ((bgS ce fi h (F1, F3, F4, liq) i).2.2.1) i (-1)))), (a5, .inl (0, 108, .inl (toS ce fi 2 F5 i))), (a6, .inl (0, 108, .inl (toS ce fi 3 F6 i))), (b, .inl (1, 108, .inl ce)), (c, .inl (0, 108, .inl fi))]) rfl ?_
          refine r_istore (lv' := [(5, .int (oI (bs i 2))), (4, .int (nI i)), (0, .ref a), (1, .ref b), (2, .ref c), (3, .int h)]) d_Fz_begin_93 (by decide) rfl ?_
          refine r_iload d_Fz_begin_95 1 rfl ?_
          refine r_iconst d_Fz_begin_97 (v := 3) (by decide) ?_
          refine r_callSN (As := [.int (nI i), .int 3]) (rest := []) (csC := []) (is := []) ln_Fz_42 w_st_Ip_beside ok_Fz_begin_Ip_beside d_Fz_begin_98 (C_Ip_beside g i 3 (by omega) (by decide)) rfl rfl (Nat.le_of_ble_eq_true rfl) rfl (by decide) (by omega) (by omega) (fun E cs1 hx => ?_) (fun v cs1 hx => ?_)
          · exact absurd hx.1 (by simp)
          · obtain ⟨e1, rfl⟩ := hx
            cases e1
            refine ⟨rfl, ?_⟩
            refine r_st (st2 := [.int (oI (bs i 3))]) rfl ?_
            refine r_cs (cs2 := [(a, .inr (2, [.ref a1, .ref a2, .ref a3, .ref a4, .ref a5, .ref a6, .int ((bgS ce fi h (F1, F3, F4, liq) i).2.2.2)])), (a1, .inl (0, 108, .inl (upd ((bgS ce fi h (F1, F3, F4, liq) i).1) i 20))), (a2, .inl (0, 108, .inl F2)), (a3, .inl (0, 108, .inl (upd ((bgS ce fi h (F1, F3, F4, liq) i).2.1) i 300))), (a4, .inl (0, 108, .inl (upd ((bgS ce fi h (F1, F3, F4, liq) i).2.2.1) i (-1)))), (a5, .inl (0, 108, .inl (toS ce fi 2 F5 i))), (a6, .inl (0, 108, .inl (toS ce fi 3 F6 i))), (b, .inl (1, 108, .inl ce)), (c, .inl (0, 108, .inl fi))]) rfl ?_
            refine r_istore (lv' := [(6, .int (oI (bs i 3))), (5, .int (oI (bs i 2))), (4, .int (nI i)), (0, .ref a), (1, .ref b), (2, .ref c), (3, .int h)]) d_Fz_begin_101 (by decide) rfl ?_
            refine r_aload_n d_Fz_begin_103 rfl 3 rfl ?_
            refine r_get fs_Fz_24 d_Fz_begin_104 (q0 := 0) rfl rfl ?_
            refine r_iload d_Fz_begin_107 2 rfl ?_
            refine r_iload d_Fz_begin_109 1 rfl ?_
            refine r_if_ge (tgt := 118) d_Fz_begin_111 (by decide) (fun c_111 => ?_) (fun c_111 => ?_)
            · obtain ⟨o, ho⟩ := oI_pos c_111
              rw [ho]
              refine r_aload_n d_Fz_begin_118 rfl 4 rfl ?_
              refine r_aload_n d_Fz_begin_119 rfl 5 rfl ?_
              refine r_iload d_Fz_begin_120 2 rfl ?_
              refine r_iload d_Fz_begin_122 1 rfl ?_
              refine r_callS (As := [.ref b, .ref c, .int (nI i), .int (nI o)]) (rest := [.int (nI i), .ref a5]) (csC := [(b, .inl (1, 108, .inl ce)), (c, .inl (0, 108, .inl fi))]) (is := [7, 8]) ln_Fz_45 w_st_Fz_passingBetween ok_Fz_begin_Fz_passingBetween d_Fz_begin_124 (C_Fz_passing g b c ce fi i o (by omega) (bs_lt (by omega) ho)) rfl rfl (Nat.le_of_ble_eq_true rfl) rfl (by decide) (by omega) (by omega) (fun E cs1 hx => ?_) (fun v cs1 hx => ?_)
              · exact absurd hx.1 (by simp)
              · obtain ⟨e1, rfl⟩ := hx
                cases e1
                refine ⟨rfl, ?_⟩
                refine r_st (st2 := [.int (pbS ce fi i o), .int (nI i), .ref a5]) rfl ?_
                refine r_cs (cs2 := [(a, .inr (2, [.ref a1, .ref a2, .ref a3, .ref a4, .ref a5, .ref a6, .int ((bgS ce fi h (F1, F3, F4, liq) i).2.2.2)])), (a1, .inl (0, 108, .inl (upd ((bgS ce fi h (F1, F3, F4, liq) i).1) i 20))), (a2, .inl (0, 108, .inl F2)), (a3, .inl (0, 108, .inl (upd ((bgS ce fi h (F1, F3, F4, liq) i).2.1) i 300))), (a4, .inl (0, 108, .inl (upd ((bgS ce fi h (F1, F3, F4, liq) i).2.2.1) i (-1)))), (a5, .inl (0, 108, .inl (toS ce fi 2 F5 i))), (a6, .inl (0, 108, .inl (toS ce fi 3 F6 i))), (b, .inl (1, 108, .inl ce)), (c, .inl (0, 108, .inl fi))]) rfl ?_
                refine r_iast d_Fz_begin_127 (q0 := 5) rfl (vp_in_nI (by omega) (by omega)) (f' := upd (toS ce fi 2 F5 i) i (pbS ce fi i o)) (by rw [nI_clamp (by omega)]) (cs' := [(a, .inr (2, [.ref a1, .ref a2, .ref a3, .ref a4, .ref a5, .ref a6, .int ((bgS ce fi h (F1, F3, F4, liq) i).2.2.2)])), (a1, .inl (0, 108, .inl (upd ((bgS ce fi h (F1, F3, F4, liq) i).1) i 20))), (a2, .inl (0, 108, .inl F2)), (a3, .inl (0, 108, .inl (upd ((bgS ce fi h (F1, F3, F4, liq) i).2.1) i 300))), (a4, .inl (0, 108, .inl (upd ((bgS ce fi h (F1, F3, F4, liq) i).2.2.1) i (-1)))), (a5, .inl (0, 108, .inl (upd (toS ce fi 2 F5 i) i (pbS ce fi i o)))), (a6, .inl (0, 108, .inl (toS ce fi 3 F6 i))), (b, .inl (1, 108, .inl ce)), (c, .inl (0, 108, .inl fi))]) rfl ?_
                refine r_aload_n d_Fz_begin_128 rfl 3 rfl ?_
                refine r_get fs_Fz_27 d_Fz_begin_129 (q0 := 0) rfl rfl ?_
                refine r_iload d_Fz_begin_132 2 rfl ?_
                refine r_iload d_Fz_begin_134 0 rfl ?_
                refine r_if_ge (tgt := 143) d_Fz_begin_136 (by decide) (fun c_136 => ?_) (fun c_136 => ?_)
                · obtain ⟨o2, hb⟩ := oI_pos c_136
                  rw [hb]
                  refine r_aload_n d_Fz_begin_143 rfl 4 rfl ?_
                  refine r_aload_n d_Fz_begin_144 rfl 5 rfl ?_
                  refine r_iload d_Fz_begin_145 2 rfl ?_
                  refine r_iload d_Fz_begin_147 0 rfl ?_
                  refine r_callS (As := [.ref b, .ref c, .int (nI i), .int (nI o2)]) (rest := [.int (nI i), .ref a6]) (csC := [(b, .inl (1, 108, .inl ce)), (c, .inl (0, 108, .inl fi))]) (is := [7, 8]) ln_Fz_45 w_st_Fz_passingBetween ok_Fz_begin_Fz_passingBetween d_Fz_begin_149 (C_Fz_passing g b c ce fi i o2 (by omega) (bs_lt (by omega) hb)) rfl rfl (Nat.le_of_ble_eq_true rfl) rfl (by decide) (by omega) (by omega) (fun E cs1 hx => ?_) (fun v cs1 hx => ?_)
                  · exact absurd hx.1 (by simp)
                  · obtain ⟨e1, rfl⟩ := hx
                    cases e1
                    refine ⟨rfl, ?_⟩
                    refine r_st (st2 := [.int (pbS ce fi i o2), .int (nI i), .ref a6]) rfl ?_
                    refine r_cs (cs2 := [(a, .inr (2, [.ref a1, .ref a2, .ref a3, .ref a4, .ref a5, .ref a6, .int ((bgS ce fi h (F1, F3, F4, liq) i).2.2.2)])), (a1, .inl (0, 108, .inl (upd ((bgS ce fi h (F1, F3, F4, liq) i).1) i 20))), (a2, .inl (0, 108, .inl F2)), (a3, .inl (0, 108, .inl (upd ((bgS ce fi h (F1, F3, F4, liq) i).2.1) i 300))), (a4, .inl (0, 108, .inl (upd ((bgS ce fi h (F1, F3, F4, liq) i).2.2.1) i (-1)))), (a5, .inl (0, 108, .inl (upd (toS ce fi 2 F5 i) i (pbS ce fi i o)))), (a6, .inl (0, 108, .inl (toS ce fi 3 F6 i))), (b, .inl (1, 108, .inl ce)), (c, .inl (0, 108, .inl fi))]) rfl ?_
                    refine r_iast d_Fz_begin_152 (q0 := 6) rfl (vp_in_nI (by omega) (by omega)) (f' := upd (toS ce fi 3 F6 i) i (pbS ce fi i o2)) (by rw [nI_clamp (by omega)]) (cs' := [(a, .inr (2, [.ref a1, .ref a2, .ref a3, .ref a4, .ref a5, .ref a6, .int ((bgS ce fi h (F1, F3, F4, liq) i).2.2.2)])), (a1, .inl (0, 108, .inl (upd ((bgS ce fi h (F1, F3, F4, liq) i).1) i 20))), (a2, .inl (0, 108, .inl F2)), (a3, .inl (0, 108, .inl (upd ((bgS ce fi h (F1, F3, F4, liq) i).2.1) i 300))), (a4, .inl (0, 108, .inl (upd ((bgS ce fi h (F1, F3, F4, liq) i).2.2.1) i (-1)))), (a5, .inl (0, 108, .inl (upd (toS ce fi 2 F5 i) i (pbS ce fi i o)))), (a6, .inl (0, 108, .inl (upd (toS ce fi 3 F6 i) i (pbS ce fi i o2)))), (b, .inl (1, 108, .inl ce)), (c, .inl (0, 108, .inl fi))]) rfl ?_
                    refine r_iinc (lv' := [(4, .int (nI (i + 1))), (6, .int (nI o2)), (5, .int (nI o)), (0, .ref a), (1, .ref b), (2, .ref c), (3, .int h)]) (v := nI (i + 1)) d_Fz_begin_153 (j := 2) rfl (nI_add _ _) (by decide) rfl ?_
                    refine r_goto (tgt := 8) d_Fz_begin_156 (by decide) ?_
                    refine r_lv (lv' := [(4, .int (nI (i + 1))), (0, .ref a), (1, .ref b), (2, .ref c), (3, .int h)]) [0, 3, 4, 5, 6] rfl ?_
                    refine r_lvE (lv2 := [(4, .int (nI (i + 1))), (0, .ref a), (1, .ref b), (2, .ref c), (3, .int h)]) (rfl) ?_
                    refine r_cs (cs2 := [(a, .inr (2, [.ref a1, .ref a2, .ref a3, .ref a4, .ref a5, .ref a6, .int ((bgS ce fi h (F1, F3, F4, liq) (i + 1)).2.2.2)])), (a1, .inl (0, 108, .inl ((bgS ce fi h (F1, F3, F4, liq) (i + 1)).1))), (a2, .inl (0, 108, .inl F2)), (a3, .inl (0, 108, .inl ((bgS ce fi h (F1, F3, F4, liq) (i + 1)).2.1))), (a4, .inl (0, 108, .inl ((bgS ce fi h (F1, F3, F4, liq) (i + 1)).2.2.1))), (a5, .inl (0, 108, .inl (toS ce fi 2 F5 (i + 1)))), (a6, .inl (0, 108, .inl (toS ce fi 3 F6 (i + 1)))), (b, .inl (1, 108, .inl ce)), (c, .inl (0, 108, .inl fi))]) (by first | (rw [bgS_t hfi, toS_x ho, toS_x hb] <;> rfl) | (rw [bgS_f hfi, toS_x ho, toS_x hb] <;> rfl)) ?_
                    exact ih (i + 1) (by omega) (by omega)
                · have hb := oI_neg (by omega) c_136
                  refine r_iconst d_Fz_begin_139 (v := 0) (by decide) ?_
                  refine r_goto (tgt := 152) d_Fz_begin_140 (by decide) ?_
                  refine r_iast d_Fz_begin_152 (q0 := 6) rfl (vp_in_nI (by omega) (by omega)) (f' := upd (toS ce fi 3 F6 i) i 0) (by rw [nI_clamp (by omega)]) (cs' := [(a, .inr (2, [.ref a1, .ref a2, .ref a3, .ref a4, .ref a5, .ref a6, .int ((bgS ce fi h (F1, F3, F4, liq) i).2.2.2)])), (a1, .inl (0, 108, .inl (upd ((bgS ce fi h (F1, F3, F4, liq) i).1) i 20))), (a2, .inl (0, 108, .inl F2)), (a3, .inl (0, 108, .inl (upd ((bgS ce fi h (F1, F3, F4, liq) i).2.1) i 300))), (a4, .inl (0, 108, .inl (upd ((bgS ce fi h (F1, F3, F4, liq) i).2.2.1) i (-1)))), (a5, .inl (0, 108, .inl (upd (toS ce fi 2 F5 i) i (pbS ce fi i o)))), (a6, .inl (0, 108, .inl (upd (toS ce fi 3 F6 i) i 0))), (b, .inl (1, 108, .inl ce)), (c, .inl (0, 108, .inl fi))]) rfl ?_
                  refine r_iinc (lv' := [(4, .int (nI (i + 1))), (6, .int (oI (bs i 3))), (5, .int (nI o)), (0, .ref a), (1, .ref b), (2, .ref c), (3, .int h)]) (v := nI (i + 1)) d_Fz_begin_153 (j := 2) rfl (nI_add _ _) (by decide) rfl ?_
                  refine r_goto (tgt := 8) d_Fz_begin_156 (by decide) ?_
                  refine r_lv (lv' := [(4, .int (nI (i + 1))), (0, .ref a), (1, .ref b), (2, .ref c), (3, .int h)]) [0, 3, 4, 5, 6] rfl ?_
                  refine r_lvE (lv2 := [(4, .int (nI (i + 1))), (0, .ref a), (1, .ref b), (2, .ref c), (3, .int h)]) (rfl) ?_
                  refine r_cs (cs2 := [(a, .inr (2, [.ref a1, .ref a2, .ref a3, .ref a4, .ref a5, .ref a6, .int ((bgS ce fi h (F1, F3, F4, liq) (i + 1)).2.2.2)])), (a1, .inl (0, 108, .inl ((bgS ce fi h (F1, F3, F4, liq) (i + 1)).1))), (a2, .inl (0, 108, .inl F2)), (a3, .inl (0, 108, .inl ((bgS ce fi h (F1, F3, F4, liq) (i + 1)).2.1))), (a4, .inl (0, 108, .inl ((bgS ce fi h (F1, F3, F4, liq) (i + 1)).2.2.1))), (a5, .inl (0, 108, .inl (toS ce fi 2 F5 (i + 1)))), (a6, .inl (0, 108, .inl (toS ce fi 3 F6 (i + 1)))), (b, .inl (1, 108, .inl ce)), (c, .inl (0, 108, .inl fi))]) (by first | (rw [bgS_t hfi, toS_x ho, toS_x hb] <;> rfl) | (rw [bgS_f hfi, toS_x ho, toS_x hb] <;> rfl)) ?_
                  exact ih (i + 1) (by omega) (by omega)
            · have ho := oI_neg (by omega) c_111
              refine r_iconst d_Fz_begin_114 (v := 0) (by decide) ?_
              refine r_goto (tgt := 127) d_Fz_begin_115 (by decide) ?_
              refine r_iast d_Fz_begin_127 (q0 := 5) rfl (vp_in_nI (by omega) (by omega)) (f' := upd (toS ce fi 2 F5 i) i 0) (by rw [nI_clamp (by omega)]) (cs' := [(a, .inr (2, [.ref a1, .ref a2, .ref a3, .ref a4, .ref a5, .ref a6, .int ((bgS ce fi h (F1, F3, F4, liq) i).2.2.2)])), (a1, .inl (0, 108, .inl (upd ((bgS ce fi h (F1, F3, F4, liq) i).1) i 20))), (a2, .inl (0, 108, .inl F2)), (a3, .inl (0, 108, .inl (upd ((bgS ce fi h (F1, F3, F4, liq) i).2.1) i 300))), (a4, .inl (0, 108, .inl (upd ((bgS ce fi h (F1, F3, F4, liq) i).2.2.1) i (-1)))), (a5, .inl (0, 108, .inl (upd (toS ce fi 2 F5 i) i 0))), (a6, .inl (0, 108, .inl (toS ce fi 3 F6 i))), (b, .inl (1, 108, .inl ce)), (c, .inl (0, 108, .inl fi))]) rfl ?_
              refine r_aload_n d_Fz_begin_128 rfl 3 rfl ?_
              refine r_get fs_Fz_27 d_Fz_begin_129 (q0 := 0) rfl rfl ?_
              refine r_iload d_Fz_begin_132 2 rfl ?_
              refine r_iload d_Fz_begin_134 0 rfl ?_
              refine r_if_ge (tgt := 143) d_Fz_begin_136 (by decide) (fun c_136 => ?_) (fun c_136 => ?_)
              · obtain ⟨o2, hb⟩ := oI_pos c_136
                rw [hb]
                refine r_aload_n d_Fz_begin_143 rfl 4 rfl ?_
                refine r_aload_n d_Fz_begin_144 rfl 5 rfl ?_
                refine r_iload d_Fz_begin_145 2 rfl ?_
                refine r_iload d_Fz_begin_147 0 rfl ?_
                refine r_callS (As := [.ref b, .ref c, .int (nI i), .int (nI o2)]) (rest := [.int (nI i), .ref a6]) (csC := [(b, .inl (1, 108, .inl ce)), (c, .inl (0, 108, .inl fi))]) (is := [7, 8]) ln_Fz_45 w_st_Fz_passingBetween ok_Fz_begin_Fz_passingBetween d_Fz_begin_149 (C_Fz_passing g b c ce fi i o2 (by omega) (bs_lt (by omega) hb)) rfl rfl (Nat.le_of_ble_eq_true rfl) rfl (by decide) (by omega) (by omega) (fun E cs1 hx => ?_) (fun v cs1 hx => ?_)
                · exact absurd hx.1 (by simp)
                · obtain ⟨e1, rfl⟩ := hx
                  cases e1
                  refine ⟨rfl, ?_⟩
                  refine r_st (st2 := [.int (pbS ce fi i o2), .int (nI i), .ref a6]) rfl ?_
                  refine r_cs (cs2 := [(a, .inr (2, [.ref a1, .ref a2, .ref a3, .ref a4, .ref a5, .ref a6, .int ((bgS ce fi h (F1, F3, F4, liq) i).2.2.2)])), (a1, .inl (0, 108, .inl (upd ((bgS ce fi h (F1, F3, F4, liq) i).1) i 20))), (a2, .inl (0, 108, .inl F2)), (a3, .inl (0, 108, .inl (upd ((bgS ce fi h (F1, F3, F4, liq) i).2.1) i 300))), (a4, .inl (0, 108, .inl (upd ((bgS ce fi h (F1, F3, F4, liq) i).2.2.1) i (-1)))), (a5, .inl (0, 108, .inl (upd (toS ce fi 2 F5 i) i 0))), (a6, .inl (0, 108, .inl (toS ce fi 3 F6 i))), (b, .inl (1, 108, .inl ce)), (c, .inl (0, 108, .inl fi))]) rfl ?_
                  refine r_iast d_Fz_begin_152 (q0 := 6) rfl (vp_in_nI (by omega) (by omega)) (f' := upd (toS ce fi 3 F6 i) i (pbS ce fi i o2)) (by rw [nI_clamp (by omega)]) (cs' := [(a, .inr (2, [.ref a1, .ref a2, .ref a3, .ref a4, .ref a5, .ref a6, .int ((bgS ce fi h (F1, F3, F4, liq) i).2.2.2)])), (a1, .inl (0, 108, .inl (upd ((bgS ce fi h (F1, F3, F4, liq) i).1) i 20))), (a2, .inl (0, 108, .inl F2)), (a3, .inl (0, 108, .inl (upd ((bgS ce fi h (F1, F3, F4, liq) i).2.1) i 300))), (a4, .inl (0, 108, .inl (upd ((bgS ce fi h (F1, F3, F4, liq) i).2.2.1) i (-1)))), (a5, .inl (0, 108, .inl (upd (toS ce fi 2 F5 i) i 0))), (a6, .inl (0, 108, .inl (upd (toS ce fi 3 F6 i) i (pbS ce fi i o2)))), (b, .inl (1, 108, .inl ce)), (c, .inl (0, 108, .inl fi))]) rfl ?_
                  refine r_iinc (lv' := [(4, .int (nI (i + 1))), (6, .int (nI o2)), (5, .int (oI (bs i 2))), (0, .ref a), (1, .ref b), (2, .ref c), (3, .int h)]) (v := nI (i + 1)) d_Fz_begin_153 (j := 2) rfl (nI_add _ _) (by decide) rfl ?_
                  refine r_goto (tgt := 8) d_Fz_begin_156 (by decide) ?_
                  refine r_lv (lv' := [(4, .int (nI (i + 1))), (0, .ref a), (1, .ref b), (2, .ref c), (3, .int h)]) [0, 3, 4, 5, 6] rfl ?_
                  refine r_lvE (lv2 := [(4, .int (nI (i + 1))), (0, .ref a), (1, .ref b), (2, .ref c), (3, .int h)]) (rfl) ?_
                  refine r_cs (cs2 := [(a, .inr (2, [.ref a1, .ref a2, .ref a3, .ref a4, .ref a5, .ref a6, .int ((bgS ce fi h (F1, F3, F4, liq) (i + 1)).2.2.2)])), (a1, .inl (0, 108, .inl ((bgS ce fi h (F1, F3, F4, liq) (i + 1)).1))), (a2, .inl (0, 108, .inl F2)), (a3, .inl (0, 108, .inl ((bgS ce fi h (F1, F3, F4, liq) (i + 1)).2.1))), (a4, .inl (0, 108, .inl ((bgS ce fi h (F1, F3, F4, liq) (i + 1)).2.2.1))), (a5, .inl (0, 108, .inl (toS ce fi 2 F5 (i + 1)))), (a6, .inl (0, 108, .inl (toS ce fi 3 F6 (i + 1)))), (b, .inl (1, 108, .inl ce)), (c, .inl (0, 108, .inl fi))]) (by first | (rw [bgS_t hfi, toS_x ho, toS_x hb] <;> rfl) | (rw [bgS_f hfi, toS_x ho, toS_x hb] <;> rfl)) ?_
                  exact ih (i + 1) (by omega) (by omega)
              · have hb := oI_neg (by omega) c_136
                refine r_iconst d_Fz_begin_139 (v := 0) (by decide) ?_
                refine r_goto (tgt := 152) d_Fz_begin_140 (by decide) ?_
                refine r_iast d_Fz_begin_152 (q0 := 6) rfl (vp_in_nI (by omega) (by omega)) (f' := upd (toS ce fi 3 F6 i) i 0) (by rw [nI_clamp (by omega)]) (cs' := [(a, .inr (2, [.ref a1, .ref a2, .ref a3, .ref a4, .ref a5, .ref a6, .int ((bgS ce fi h (F1, F3, F4, liq) i).2.2.2)])), (a1, .inl (0, 108, .inl (upd ((bgS ce fi h (F1, F3, F4, liq) i).1) i 20))), (a2, .inl (0, 108, .inl F2)), (a3, .inl (0, 108, .inl (upd ((bgS ce fi h (F1, F3, F4, liq) i).2.1) i 300))), (a4, .inl (0, 108, .inl (upd ((bgS ce fi h (F1, F3, F4, liq) i).2.2.1) i (-1)))), (a5, .inl (0, 108, .inl (upd (toS ce fi 2 F5 i) i 0))), (a6, .inl (0, 108, .inl (upd (toS ce fi 3 F6 i) i 0))), (b, .inl (1, 108, .inl ce)), (c, .inl (0, 108, .inl fi))]) rfl ?_
                refine r_iinc (lv' := [(4, .int (nI (i + 1))), (6, .int (oI (bs i 3))), (5, .int (oI (bs i 2))), (0, .ref a), (1, .ref b), (2, .ref c), (3, .int h)]) (v := nI (i + 1)) d_Fz_begin_153 (j := 2) rfl (nI_add _ _) (by decide) rfl ?_
                refine r_goto (tgt := 8) d_Fz_begin_156 (by decide) ?_
                refine r_lv (lv' := [(4, .int (nI (i + 1))), (0, .ref a), (1, .ref b), (2, .ref c), (3, .int h)]) [0, 3, 4, 5, 6] rfl ?_
                refine r_lvE (lv2 := [(4, .int (nI (i + 1))), (0, .ref a), (1, .ref b), (2, .ref c), (3, .int h)]) (rfl) ?_
                refine r_cs (cs2 := [(a, .inr (2, [.ref a1, .ref a2, .ref a3, .ref a4, .ref a5, .ref a6, .int ((bgS ce fi h (F1, F3, F4, liq) (i + 1)).2.2.2)])), (a1, .inl (0, 108, .inl ((bgS ce fi h (F1, F3, F4, liq) (i + 1)).1))), (a2, .inl (0, 108, .inl F2)), (a3, .inl (0, 108, .inl ((bgS ce fi h (F1, F3, F4, liq) (i + 1)).2.1))), (a4, .inl (0, 108, .inl ((bgS ce fi h (F1, F3, F4, liq) (i + 1)).2.2.1))), (a5, .inl (0, 108, .inl (toS ce fi 2 F5 (i + 1)))), (a6, .inl (0, 108, .inl (toS ce fi 3 F6 (i + 1)))), (b, .inl (1, 108, .inl ce)), (c, .inl (0, 108, .inl fi))]) (by first | (rw [bgS_t hfi, toS_x ho, toS_x hb] <;> rfl) | (rw [bgS_f hfi, toS_x ho, toS_x hb] <;> rfl)) ?_
                exact ih (i + 1) (by omega) (by omega)
