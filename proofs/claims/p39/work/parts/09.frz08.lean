set_option maxHeartbeats 4000000 in
set_option maxRecDepth 100000 in
theorem C_Fz_begin (g : zG) (a a1 a2 a3 a4 a5 a6 : Nat) (F1 F2 F3 F4 F5 F6 : Nat → Int32) (liq : Int32) (b c : Nat) (ce fi : Nat → Int32) (h : Int32) : CT g M_Fz_begin [.ref a, .ref b, .ref c, .int h] [(a, .inr (2, [.ref a1, .ref a2, .ref a3, .ref a4, .ref a5, .ref a6, .int liq])), (a1, .inl (0, 108, .inl F1)), (a2, .inl (0, 108, .inl F2)), (a3, .inl (0, 108, .inl F3)), (a4, .inl (0, 108, .inl F4)), (a5, .inl (0, 108, .inl F5)), (a6, .inl (0, 108, .inl F6)), (b, .inl (1, 108, .inl ce)), (c, .inl (0, 108, .inl fi))] (fun o cs1 => o = .inl none ∧ cs1 = [(a, .inr (2, [.ref a1, .ref a2, .ref a3, .ref a4, .ref a5, .ref a6, .int ((bgS ce fi h (F1, F3, F4, liq) 108).2.2.2)])), (a1, .inl (0, 108, .inl ((bgS ce fi h (F1, F3, F4, liq) 108).1))), (a2, .inl (0, 108, .inl F2)), (a3, .inl (0, 108, .inl ((bgS ce fi h (F1, F3, F4, liq) 108).2.1))), (a4, .inl (0, 108, .inl ((bgS ce fi h (F1, F3, F4, liq) 108).2.2.1))), (a5, .inl (0, 108, .inl (toS ce fi 2 F5 108))), (a6, .inl (0, 108, .inl (toS ce fi 3 F6 108))), (b, .inl (1, 108, .inl ce)), (c, .inl (0, 108, .inl fi))]) 0 0 := by
  refine z_of (by decide) rfl (Nat.le_of_ble_eq_true rfl) (fun w0 => ?_)
  refine r_lvE (lv2 := [(0, .ref a), (1, .ref b), (2, .ref c), (3, .int h)]) rfl ?_
  refine r_aload_n d_Fz_begin_0 rfl 0 rfl ?_
  refine r_iconst d_Fz_begin_1 (v := 0) (by decide) ?_
  refine r_put fp_Fz_30 d_Fz_begin_2 (fun h => nomatch h) rfl rfl (q0 := 0) rfl (Nat.le_of_ble_eq_true rfl) (cs' := [(a, .inr (2, [.ref a1, .ref a2, .ref a3, .ref a4, .ref a5, .ref a6, .int 0])), (a1, .inl (0, 108, .inl F1)), (a2, .inl (0, 108, .inl F2)), (a3, .inl (0, 108, .inl F3)), (a4, .inl (0, 108, .inl F4)), (a5, .inl (0, 108, .inl F5)), (a6, .inl (0, 108, .inl F6)), (b, .inl (1, 108, .inl ce)), (c, .inl (0, 108, .inl fi))]) rfl ?_
  refine r_iconst d_Fz_begin_5 (v := 0) (by decide) ?_
  refine r_istore (lv' := [(4, .int 0), (0, .ref a), (1, .ref b), (2, .ref c), (3, .int h)]) d_Fz_begin_6 (by decide) rfl ?_
  refine r_lvE (lv2 := [(4, .int (nI 0)), (0, .ref a), (1, .ref b), (2, .ref c), (3, .int h)]) (rfl) ?_
  refine r_cs (cs2 := [(a, .inr (2, [.ref a1, .ref a2, .ref a3, .ref a4, .ref a5, .ref a6, .int ((bgS ce fi h (F1, F3, F4, liq) 0).2.2.2)])), (a1, .inl (0, 108, .inl ((bgS ce fi h (F1, F3, F4, liq) 0).1))), (a2, .inl (0, 108, .inl F2)), (a3, .inl (0, 108, .inl ((bgS ce fi h (F1, F3, F4, liq) 0).2.1))), (a4, .inl (0, 108, .inl ((bgS ce fi h (F1, F3, F4, liq) 0).2.2.1))), (a5, .inl (0, 108, .inl (toS ce fi 2 F5 0))), (a6, .inl (0, 108, .inl (toS ce fi 3 F6 0))), (b, .inl (1, 108, .inl ce)), (c, .inl (0, 108, .inl fi))]) (rfl) ?_
  exact L_Fz_begin_8 g a a1 a2 a3 a4 a5 a6 F1 F2 F3 F4 F5 F6 liq b c ce fi h w0 _  (108 + 1) 0 (Nat.zero_le _) (by omega)

