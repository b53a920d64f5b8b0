theorem d_Lw_law_826 : decode code 826 = .ok (.aload_n 1, 1) := by decide +kernel
theorem d_Lw_law_827 : decode code 827 = .ok (.aload_n 0, 1) := by decide +kernel
theorem d_Lw_law_828 : decode code 828 = .ok (.iload 5, 2) := by decide +kernel
theorem d_Lw_law_830 : decode code 830 = .ok (.iconst 1, 1) := by decide +kernel
theorem d_Lw_law_831 : decode code 831 = .ok (.iadd, 1) := by decide +kernel
theorem d_Lw_law_832 : decode code 832 = .ok (.iaload, 1) := by decide +kernel
theorem d_Lw_law_833 : decode code 833 = .ok (.aload_n 0, 1) := by decide +kernel
theorem d_Lw_law_834 : decode code 834 = .ok (.iload 5, 2) := by decide +kernel
theorem d_Lw_law_836 : decode code 836 = .ok (.iconst 2, 1) := by decide +kernel
theorem d_Lw_law_837 : decode code 837 = .ok (.iadd, 1) := by decide +kernel
theorem d_Lw_law_838 : decode code 838 = .ok (.iaload, 1) := by decide +kernel
theorem d_Lw_law_839 : decode code 839 = .ok (.aload_n 0, 1) := by decide +kernel
theorem d_Lw_law_840 : decode code 840 = .ok (.iload 5, 2) := by decide +kernel
theorem d_Lw_law_842 : decode code 842 = .ok (.iconst 3, 1) := by decide +kernel
theorem d_Lw_law_843 : decode code 843 = .ok (.iadd, 1) := by decide +kernel
theorem d_Lw_law_844 : decode code 844 = .ok (.iaload, 1) := by decide +kernel
theorem d_Lw_law_845 : decode code 845 = .ok (.aload_n 3, 1) := by decide +kernel
theorem d_Lw_law_846 : decode code 846 = .ok (.invokestatic 217, 3) := by decide +kernel
theorem ok_Lw_law_Lw_isFed : z_okX M_Lw_law M_Lw_isFed 5 := ⟨z_mem (i := 890) (by decide +kernel) (by decide +kernel), by decide, ⟨by decide +kernel, by decide +kernel, by decide +kernel⟩, ⟨by decide, by decide⟩, z_mem (i := 57) (by decide +kernel) (by decide +kernel), rfl⟩
theorem ln_Lw_217 : Cond.methodLink "IronpourLaw" 217 M_Lw_isFed.1 ∈ z_gw := z_mem (i := 888) (by decide +kernel) (by decide +kernel)
theorem w_st_Lw_isFed : Cond.static M_Lw_isFed.1 ∈ z_gw := z_mem (i := 889) (by decide +kernel) (by decide +kernel)
theorem d_Lw_law_849 : decode code 849 = .ok (.istore 6, 2) := by decide +kernel
theorem d_Lw_law_851 : decode code 851 = .ok (.aload_n 2, 1) := by decide +kernel
theorem d_Lw_law_852 : decode code 852 = .ok (.aload_n 0, 1) := by decide +kernel
theorem d_Lw_law_853 : decode code 853 = .ok (.iload 5, 2) := by decide +kernel
theorem d_Lw_law_855 : decode code 855 = .ok (.iconst 1, 1) := by decide +kernel
theorem d_Lw_law_856 : decode code 856 = .ok (.iadd, 1) := by decide +kernel
theorem d_Lw_law_857 : decode code 857 = .ok (.iaload, 1) := by decide +kernel
theorem d_Lw_law_858 : decode code 858 = .ok (.aload_n 0, 1) := by decide +kernel
theorem d_Lw_law_859 : decode code 859 = .ok (.iload 5, 2) := by decide +kernel
theorem d_Lw_law_861 : decode code 861 = .ok (.iconst 2, 1) := by decide +kernel
theorem d_Lw_law_862 : decode code 862 = .ok (.iadd, 1) := by decide +kernel
theorem d_Lw_law_863 : decode code 863 = .ok (.iaload, 1) := by decide +kernel
theorem d_Lw_law_864 : decode code 864 = .ok (.aload_n 0, 1) := by decide +kernel
theorem d_Lw_law_865 : decode code 865 = .ok (.iload 5, 2) := by decide +kernel
theorem d_Lw_law_867 : decode code 867 = .ok (.iconst 3, 1) := by decide +kernel
theorem d_Lw_law_868 : decode code 868 = .ok (.iadd, 1) := by decide +kernel
theorem d_Lw_law_869 : decode code 869 = .ok (.iaload, 1) := by decide +kernel
theorem d_Lw_law_870 : decode code 870 = .ok (.invokevirtual 219, 3) := by decide +kernel
theorem ok_Lw_law_Mm_isFed : z_ok M_Lw_law M_Mm_isFed 3 := ⟨z_mem (i := 1801) (by decide +kernel) (by decide +kernel), rfl, ⟨by decide +kernel, by decide +kernel, by decide +kernel⟩, ⟨by decide, by decide⟩, z_mem (i := 71) (by decide +kernel) (by decide +kernel), rfl⟩
theorem ln_Lw_219 : Cond.methodLink "IronpourLaw" 219 M_Mm_isFed.1 ∈ z_gw := z_mem (i := 1798) (by decide +kernel) (by decide +kernel)
theorem w_im_Mm_isFed : Cond.instanceMethod M_Mm_isFed.1 ∈ z_gw := z_mem (i := 1799) (by decide +kernel) (by decide +kernel)
theorem w_se_Mm_isFed : Cond.selects M_Mm_isFed.1.cls M_Mm_isFed.1 M_Mm_isFed.1 ∈ z_gw := z_mem (i := 1800) (by decide +kernel) (by decide +kernel)
theorem d_Lw_law_873 : decode code 873 = .ok (.istore 7, 2) := by decide +kernel
theorem d_Lw_law_875 : decode code 875 = .ok (.aload_n 2, 1) := by decide +kernel
theorem d_Lw_law_876 : decode code 876 = .ok (.invokevirtual 175, 3) := by decide +kernel
theorem d_Lw_law_879 : decode code 879 = .ok (.iload 6, 2) := by decide +kernel
theorem d_Lw_law_881 : decode code 881 = .ok (.if_icmp .eq 5, 3) := by decide +kernel
theorem d_Lw_law_886 : decode code 886 = .ok (.iload 6, 2) := by decide +kernel
theorem d_Lw_law_888 : decode code 888 = .ok (.ifCond .ne 22, 3) := by decide +kernel
theorem d_Lw_law_910 : decode code 910 = .ok (.goto 2109, 3) := by decide +kernel
set_option maxHeartbeats 4000000 in
set_option maxRecDepth 100000 in
theorem LW_isFedE (g : zG) (a pa pa1 pa2 pa3 ta ta1 ta2 taz taz1 taz2 taz3 taz4 taz5 taz6 ta4 ta5 ta6 sa sa1 sa2 saz saz1 saz2 saz3 saz4 saz5 saz6 sa4 sa5 sa6 gs co co1 co2 co3 fu fub fubg fut1 fut2 fut3 la lab labg gy gyg du dug re wm ac m mp mf mh mn mt mz mc_ mq mgr ml mi mr mm mu mk mx o1 o2 : Nat) (hL : g.2.2 41 = 7) (hz : z_cl (zs g 1) (zs g 2) = none) (w0 : zW) (n : Nat) : DV g M_Lw_law (lwP) w0 n 826 [(5, .int 0), (4, .ref o2), (3, .ref o1), (2, .ref m), (1, .ref a), (0, .ref (g.2.2 40))] [] (lwCS g a pa pa1 pa2 pa3 ta ta1 ta2 taz taz1 taz2 taz3 taz4 taz5 taz6 ta4 ta5 ta6 sa sa1 sa2 saz saz1 saz2 saz3 saz4 saz5 saz6 sa4 sa5 sa6 gs co co1 co2 co3 fu fub fubg fut1 fut2 fut3 la lab labg gy gyg du dug re wm ac m mp mf mh mn mt mz mc_ mq mgr ml mi mr mm mu mk mx o1 o2) 100 1000 := by
  refine r_aload_n d_Lw_law_826 rfl 4 rfl ?_
  refine r_aload_n d_Lw_law_827 rfl 5 rfl ?_
  refine r_iload d_Lw_law_828 0 rfl ?_
  refine r_iconst d_Lw_law_830 (v := 1) (by decide) ?_
  refine r_iadd d_Lw_law_831 (v := 1) rfl ?_
  refine r_sld (v := zs g 1) d_Lw_law_832 (by rw [hL]; exact fun q => q.elim (by decide) (by decide)) rfl ?_
  refine r_aload_n d_Lw_law_833 rfl 5 rfl ?_
  refine r_iload d_Lw_law_834 0 rfl ?_
  refine r_iconst d_Lw_law_836 (v := 2) (by decide) ?_
  refine r_iadd d_Lw_law_837 (v := 2) rfl ?_
  refine r_sld (v := zs g 2) d_Lw_law_838 (by rw [hL]; exact fun q => q.elim (by decide) (by decide)) rfl ?_
  refine r_aload_n d_Lw_law_839 rfl 5 rfl ?_
  refine r_iload d_Lw_law_840 0 rfl ?_
  refine r_iconst d_Lw_law_842 (v := 3) (by decide) ?_
  refine r_iadd d_Lw_law_843 (v := 3) rfl ?_
  refine r_sld (v := zs g 3) d_Lw_law_844 (by rw [hL]; exact fun q => q.elim (by decide) (by decide)) rfl ?_
  refine r_aload_n d_Lw_law_845 rfl 2 rfl ?_
  refine r_callSX (As := [.ref a, .int (zs g 1), .int (zs g 2), .int (zs g 3), .ref o1]) (rest := []) (csC := [(a, .inr (11, [.ref pa, .ref ta, .ref sa, .ref gs, .ref co, .ref fu, .ref la, .ref gy, .ref du, .ref re, .ref wm, .ref ac])), (ta, .inr (10, [.ref ta1, .ref ta2, .ref taz, .ref ta4, .ref ta5, .ref ta6, .int zX0.1.2.2.1, .int zX0.1.2.2.2])), (ta1, .inl (1, 108, .inl zX0.1.1)), (ta2, .inl (0, 108, .inl zX0.1.2.1)), (taz, .inr (2, [.ref taz1, .ref taz2, .ref taz3, .ref taz4, .ref taz5, .ref taz6, .int zX0.2.1.1.1.2.2.2])), (taz1, .inl (0, 108, .inl zX0.2.1.1.1.1)), (taz2, .inl (0, 108, .inl zX0.2.1.1.2)), (taz3, .inl (0, 108, .inl zX0.2.1.1.1.2.1)), (taz4, .inl (0, 108, .inl zX0.2.1.1.1.2.2.1)), (taz5, .inl (0, 108, .inl zX0.2.1.2.1)), (taz6, .inl (0, 108, .inl zX0.2.1.2.2)), (ta4, .inl (2, 108, .inl zX0.2.2.1)), (ta5, .inl (2, 108, .inl zX0.2.2.2.1)), (ta6, .inl (0, 108, .inl (fun k => nI (zX0.2.2.2.2 k)))), (o1, .inl (3, 1, .inr (.inl (fun _ => 0))))]) (is := [0, 5, 6, 7, 8, 9, 10, 11, 12, 13, 14, 15, 16, 17, 69]) ln_Lw_217 w_st_Lw_isFed ok_Lw_law_Lw_isFed d_Lw_law_846 (C_Lw_isFedE g a pa ta sa gs co fu la gy du re wm ac ta1 ta2 taz taz1 taz2 taz3 taz4 taz5 taz6 ta4 ta5 ta6 zX0 (zs g 1) (zs g 2) (zs g 3) hz o1 (fun _ => 0)) rfl rfl (Nat.le_of_ble_eq_true rfl) rfl (by decide) (by omega) (by omega) (fun E cs1 hx => ?_) (fun v cs1 hx => ?_)
  · exact absurd hx.1 (by simp)
  · obtain ⟨e1, rfl⟩ := hx
    cases e1
    refine ⟨rfl, ?_⟩
    refine r_st (st2 := [.int 1]) rfl ?_
    refine r_istore (lv' := [(6, .int 1), (5, .int 0), (4, .ref o2), (3, .ref o1), (2, .ref m), (1, .ref a), (0, .ref (g.2.2 40))]) d_Lw_law_849 (by decide) rfl ?_
    refine r_aload_n d_Lw_law_851 rfl 4 rfl ?_
    refine r_aload_n d_Lw_law_852 rfl 6 rfl ?_
    refine r_iload d_Lw_law_853 1 rfl ?_
    refine r_iconst d_Lw_law_855 (v := 1) (by decide) ?_
    refine r_iadd d_Lw_law_856 (v := 1) rfl ?_
    refine r_sld (v := zs g 1) d_Lw_law_857 (by rw [hL]; exact fun q => q.elim (by decide) (by decide)) rfl ?_
    refine r_aload_n d_Lw_law_858 rfl 6 rfl ?_
    refine r_iload d_Lw_law_859 1 rfl ?_
    refine r_iconst d_Lw_law_861 (v := 2) (by decide) ?_
    refine r_iadd d_Lw_law_862 (v := 2) rfl ?_
    refine r_sld (v := zs g 2) d_Lw_law_863 (by rw [hL]; exact fun q => q.elim (by decide) (by decide)) rfl ?_
    refine r_aload_n d_Lw_law_864 rfl 6 rfl ?_
    refine r_iload d_Lw_law_865 1 rfl ?_
    refine r_iconst d_Lw_law_867 (v := 3) (by decide) ?_
    refine r_iadd d_Lw_law_868 (v := 3) rfl ?_
    refine r_sld (v := zs g 3) d_Lw_law_869 (by rw [hL]; exact fun q => q.elim (by decide) (by decide)) rfl ?_
    refine r_callV (As := [.int (zs g 1), .int (zs g 2), .int (zs g 3)]) (rest := []) (csC := [(m, .inr (12, [.int 0, .ref mp, .int 4, .ref mf, .ref mh, .ref mn, .ref mt, .ref mz, .ref mc_, .ref mq, .ref mgr, .int 80, .int 35, .int 30, .int 50, .int 0, .int 0, .ref ml, .ref mi, .ref mr, .int 0, .int 0, .int 0, .int (-1), .int 0, .ref mm, .ref mu, .ref mk, .ref mx, .long 0, .long 0])), (mp, .inl (1, 108, .inl zFP))]) (is := [52, 53]) (q0 := 52) rfl rfl ln_Lw_219 w_im_Mm_isFed w_se_Mm_isFed ok_Lw_law_Mm_isFed d_Lw_law_870 (C_Mm_isFedE g m mp mf mh mn mt mz mc_ mq mgr ml mi mr mm mu mk mx 0 4 80 35 30 50 0 0 0 0 0 (-1) 0 0 0 zFP (zs g 1) (zs g 2) (zs g 3) hz) rfl rfl (Nat.le_of_ble_eq_true rfl) rfl (by decide) (by omega) (by omega) (fun E cs1 hx => ?_) (fun v cs1 hx => ?_)
    · exact absurd hx.1 (by simp)
    · obtain ⟨e1, rfl⟩ := hx
      cases e1
      refine ⟨rfl, ?_⟩
      refine r_st (st2 := [.int 0]) rfl ?_
      refine r_istore (lv' := [(7, .int 0), (6, .int 1), (5, .int 0), (4, .ref o2), (3, .ref o1), (2, .ref m), (1, .ref a), (0, .ref (g.2.2 40))]) d_Lw_law_873 (by decide) rfl ?_
      refine r_aload_n d_Lw_law_875 rfl 5 rfl ?_
      refine r_callV (As := []) (rest := []) (csC := [(m, .inr (12, [.int 1, .ref mp, .int 4, .ref mf, .ref mh, .ref mn, .ref mt, .ref mz, .ref mc_, .ref mq, .ref mgr, .int 80, .int 35, .int 30, .int 50, .int 0, .int 0, .ref ml, .ref mi, .ref mr, .int 0, .int 0, .int 0, .int (-1), .int 0, .ref mm, .ref mu, .ref mk, .ref mx, .long 0, .long 0]))]) (is := [52]) (q0 := 52) rfl rfl ln_Lw_175 w_im_Mm_thrown w_se_Mm_thrown ok_Lw_law_Mm_thrown d_Lw_law_876 (C_Mm_thrown g m mp mf mh mn mt mz mc_ mq mgr ml mi mr mm mu mk mx 1 4 80 35 30 50 0 0 0 0 0 (-1) 0 0 0) rfl rfl (Nat.le_of_ble_eq_true rfl) rfl (by decide) (by omega) (by omega) (fun E cs1 hx => ?_) (fun v cs1 hx => ?_)
      · exact absurd hx.1 (by simp)
      · obtain ⟨e1, rfl⟩ := hx
        cases e1
        refine ⟨rfl, ?_⟩
        refine r_st (st2 := [.int 1]) rfl ?_
        refine r_iload d_Lw_law_879 1 rfl ?_
        refine r_icmp_eq (tgt := 886) d_Lw_law_881 (by decide) (fun c_881 => ?_) (fun c_881 => ?_)
        · refine r_iload d_Lw_law_886 1 rfl ?_
          refine r_if_ne (tgt := 910) d_Lw_law_888 (by decide) (fun c_888 => ?_) (fun c_888 => ?_)
          · refine r_goto (tgt := 3019) d_Lw_law_910 (by decide) ?_
            refine r_lv (lv' := [(5, .int 0), (0, .ref (g.2.2 40))]) [2, 7] rfl ?_
            exact LW_tail g _ hL _ _ w0 n
          · exact absurd c_888 (by decide)
        · exact absurd c_881 (by decide)
set_option maxHeartbeats 4000000 in
set_option maxRecDepth 100000 in
theorem LW_isFedF (g : zG) (a pa pa1 pa2 pa3 ta ta1 ta2 taz taz1 taz2 taz3 taz4 taz5 taz6 ta4 ta5 ta6 sa sa1 sa2 saz saz1 saz2 saz3 saz4 saz5 saz6 sa4 sa5 sa6 gs co co1 co2 co3 fu fub fubg fut1 fut2 fut3 la lab labg gy gyg du dug re wm ac m mp mf mh mn mt mz mc_ mq mgr ml mi mr mm mu mk mx o1 o2 : Nat) (hL : g.2.2 41 = 7) (x y : Nat) (hx0 : x < 12) (hy0 : y < 9) (e1 : zs g 1 = nI x) (e2 : zs g 2 = nI y) (hh : ¬ (1200 ≤ (zs g 3) ∧ (zs g 3) ≤ 1500)) (w0 : zW) (n : Nat) : DV g M_Lw_law (lwP) w0 n 826 [(5, .int 0), (4, .ref o2), (3, .ref o1), (2, .ref m), (1, .ref a), (0, .ref (g.2.2 40))] [] (lwCS g a pa pa1 pa2 pa3 ta ta1 ta2 taz taz1 taz2 taz3 taz4 taz5 taz6 ta4 ta5 ta6 sa sa1 sa2 saz saz1 saz2 saz3 saz4 saz5 saz6 sa4 sa5 sa6 gs co co1 co2 co3 fu fub fubg fut1 fut2 fut3 la lab labg gy gyg du dug re wm ac m mp mf mh mn mt mz mc_ mq mgr ml mi mr mm mu mk mx o1 o2) 100 1000 := by
  refine r_aload_n d_Lw_law_826 rfl 4 rfl ?_
  refine r_aload_n d_Lw_law_827 rfl 5 rfl ?_
  refine r_iload d_Lw_law_828 0 rfl ?_
  refine r_iconst d_Lw_law_830 (v := 1) (by decide) ?_
  refine r_iadd d_Lw_law_831 (v := 1) rfl ?_
  refine r_sld (v := nI x) d_Lw_law_832 (by rw [hL]; exact fun q => q.elim (by decide) (by decide)) e1 ?_
  refine r_aload_n d_Lw_law_833 rfl 5 rfl ?_
  refine r_iload d_Lw_law_834 0 rfl ?_
  refine r_iconst d_Lw_law_836 (v := 2) (by decide) ?_
  refine r_iadd d_Lw_law_837 (v := 2) rfl ?_
  refine r_sld (v := nI y) d_Lw_law_838 (by rw [hL]; exact fun q => q.elim (by decide) (by decide)) e2 ?_
  refine r_aload_n d_Lw_law_839 rfl 5 rfl ?_
  refine r_iload d_Lw_law_840 0 rfl ?_
  refine r_iconst d_Lw_law_842 (v := 3) (by decide) ?_
  refine r_iadd d_Lw_law_843 (v := 3) rfl ?_
  refine r_sld (v := zs g 3) d_Lw_law_844 (by rw [hL]; exact fun q => q.elim (by decide) (by decide)) rfl ?_
  refine r_aload_n d_Lw_law_845 rfl 2 rfl ?_
  refine r_callSX (As := [.ref a, .int (nI x), .int (nI y), .int (zs g 3), .ref o1]) (rest := []) (csC := [(a, .inr (11, [.ref pa, .ref ta, .ref sa, .ref gs, .ref co, .ref fu, .ref la, .ref gy, .ref du, .ref re, .ref wm, .ref ac])), (ta, .inr (10, [.ref ta1, .ref ta2, .ref taz, .ref ta4, .ref ta5, .ref ta6, .int zX0.1.2.2.1, .int zX0.1.2.2.2])), (ta1, .inl (1, 108, .inl zX0.1.1)), (ta2, .inl (0, 108, .inl zX0.1.2.1)), (taz, .inr (2, [.ref taz1, .ref taz2, .ref taz3, .ref taz4, .ref taz5, .ref taz6, .int zX0.2.1.1.1.2.2.2])), (taz1, .inl (0, 108, .inl zX0.2.1.1.1.1)), (taz2, .inl (0, 108, .inl zX0.2.1.1.2)), (taz3, .inl (0, 108, .inl zX0.2.1.1.1.2.1)), (taz4, .inl (0, 108, .inl zX0.2.1.1.1.2.2.1)), (taz5, .inl (0, 108, .inl zX0.2.1.2.1)), (taz6, .inl (0, 108, .inl zX0.2.1.2.2)), (ta4, .inl (2, 108, .inl zX0.2.2.1)), (ta5, .inl (2, 108, .inl zX0.2.2.2.1)), (ta6, .inl (0, 108, .inl (fun k => nI (zX0.2.2.2.2 k)))), (o1, .inl (3, 1, .inr (.inl (fun _ => 0))))]) (is := [0, 5, 6, 7, 8, 9, 10, 11, 12, 13, 14, 15, 16, 17, 69]) ln_Lw_217 w_st_Lw_isFed ok_Lw_law_Lw_isFed d_Lw_law_846 (C_Lw_isFedF g a pa ta sa gs co fu la gy du re wm ac ta1 ta2 taz taz1 taz2 taz3 taz4 taz5 taz6 ta4 ta5 ta6 zX0 (nI x) (nI y) (zs g 3) (12 * y + x) (z_clI hx0 hy0) hh o1 (fun _ => 0)) rfl rfl (Nat.le_of_ble_eq_true rfl) rfl (by decide) (by omega) (by omega) (fun E cs1 hx => ?_) (fun v cs1 hx => ?_)
  · exact absurd hx.1 (by simp)
  · obtain ⟨e1, rfl⟩ := hx
    cases e1
    refine ⟨rfl, ?_⟩
    refine r_st (st2 := [.int 2]) rfl ?_
    refine r_istore (lv' := [(6, .int 2), (5, .int 0), (4, .ref o2), (3, .ref o1), (2, .ref m), (1, .ref a), (0, .ref (g.2.2 40))]) d_Lw_law_849 (by decide) rfl ?_
    refine r_aload_n d_Lw_law_851 rfl 4 rfl ?_
    refine r_aload_n d_Lw_law_852 rfl 6 rfl ?_
    refine r_iload d_Lw_law_853 1 rfl ?_
    refine r_iconst d_Lw_law_855 (v := 1) (by decide) ?_
    refine r_iadd d_Lw_law_856 (v := 1) rfl ?_
    refine r_sld (v := nI x) d_Lw_law_857 (by rw [hL]; exact fun q => q.elim (by decide) (by decide)) e1 ?_
    refine r_aload_n d_Lw_law_858 rfl 6 rfl ?_
    refine r_iload d_Lw_law_859 1 rfl ?_
    refine r_iconst d_Lw_law_861 (v := 2) (by decide) ?_
    refine r_iadd d_Lw_law_862 (v := 2) rfl ?_
    refine r_sld (v := nI y) d_Lw_law_863 (by rw [hL]; exact fun q => q.elim (by decide) (by decide)) e2 ?_
    refine r_aload_n d_Lw_law_864 rfl 6 rfl ?_
    refine r_iload d_Lw_law_865 1 rfl ?_
    refine r_iconst d_Lw_law_867 (v := 3) (by decide) ?_
    refine r_iadd d_Lw_law_868 (v := 3) rfl ?_
    refine r_sld (v := zs g 3) d_Lw_law_869 (by rw [hL]; exact fun q => q.elim (by decide) (by decide)) rfl ?_
    refine r_callV (As := [.int (nI x), .int (nI y), .int (zs g 3)]) (rest := []) (csC := [(m, .inr (12, [.int 0, .ref mp, .int 4, .ref mf, .ref mh, .ref mn, .ref mt, .ref mz, .ref mc_, .ref mq, .ref mgr, .int 80, .int 35, .int 30, .int 50, .int 0, .int 0, .ref ml, .ref mi, .ref mr, .int 0, .int 0, .int 0, .int (-1), .int 0, .ref mm, .ref mu, .ref mk, .ref mx, .long 0, .long 0])), (mp, .inl (1, 108, .inl zFP))]) (is := [52, 53]) (q0 := 52) rfl rfl ln_Lw_219 w_im_Mm_isFed w_se_Mm_isFed ok_Lw_law_Mm_isFed d_Lw_law_870 (C_Mm_isFedF g m mp mf mh mn mt mz mc_ mq mgr ml mi mr mm mu mk mx 0 4 80 35 30 50 0 0 0 0 0 (-1) 0 0 0 zFP x y hx0 hy0 (zs g 3) hh) rfl rfl (Nat.le_of_ble_eq_true rfl) rfl (by decide) (by omega) (by omega) (fun E cs1 hx => ?_) (fun v cs1 hx => ?_)
    · exact absurd hx.1 (by simp)
    · obtain ⟨e1, rfl⟩ := hx
      cases e1
      refine ⟨rfl, ?_⟩
      refine r_st (st2 := [.int 0]) rfl ?_
      refine r_istore (lv' := [(7, .int 0), (6, .int 2), (5, .int 0), (4, .ref o2), (3, .ref o1), (2, .ref m), (1, .ref a), (0, .ref (g.2.2 40))]) d_Lw_law_873 (by decide) rfl ?_
      refine r_aload_n d_Lw_law_875 rfl 5 rfl ?_
      refine r_callV (As := []) (rest := []) (csC := [(m, .inr (12, [.int 2, .ref mp, .int 4, .ref mf, .ref mh, .ref mn, .ref mt, .ref mz, .ref mc_, .ref mq, .ref mgr, .int 80, .int 35, .int 30, .int 50, .int 0, .int 0, .ref ml, .ref mi, .ref mr, .int 0, .int 0, .int 0, .int (-1), .int 0, .ref mm, .ref mu, .ref mk, .ref mx, .long 0, .long 0]))]) (is := [52]) (q0 := 52) rfl rfl ln_Lw_175 w_im_Mm_thrown w_se_Mm_thrown ok_Lw_law_Mm_thrown d_Lw_law_876 (C_Mm_thrown g m mp mf mh mn mt mz mc_ mq mgr ml mi mr mm mu mk mx 2 4 80 35 30 50 0 0 0 0 0 (-1) 0 0 0) rfl rfl (Nat.le_of_ble_eq_true rfl) rfl (by decide) (by omega) (by omega) (fun E cs1 hx => ?_) (fun v cs1 hx => ?_)
      · exact absurd hx.1 (by simp)
      · obtain ⟨e1, rfl⟩ := hx
        cases e1
        refine ⟨rfl, ?_⟩
        refine r_st (st2 := [.int 2]) rfl ?_
        refine r_iload d_Lw_law_879 1 rfl ?_
        refine r_icmp_eq (tgt := 886) d_Lw_law_881 (by decide) (fun c_881 => ?_) (fun c_881 => ?_)
        · refine r_iload d_Lw_law_886 1 rfl ?_
          refine r_if_ne (tgt := 910) d_Lw_law_888 (by decide) (fun c_888 => ?_) (fun c_888 => ?_)
          · refine r_goto (tgt := 3019) d_Lw_law_910 (by decide) ?_
            refine r_lv (lv' := [(5, .int 0), (0, .ref (g.2.2 40))]) [2, 7] rfl ?_
            exact LW_tail g _ hL _ _ w0 n
          · exact absurd c_888 (by decide)
        · exact absurd c_881 (by decide)
theorem d_Lw_law_719 : decode code 719 = .ok (.aload_n 3, 1) := by decide +kernel
theorem d_Lw_law_720 : decode code 720 = .ok (.iconst 0, 1) := by decide +kernel
theorem d_Lw_law_721 : decode code 721 = .ok (.laload, 1) := by decide +kernel
theorem d_Lw_law_722 : decode code 722 = .ok (.iload 7, 2) := by decide +kernel
theorem d_Lw_law_724 : decode code 724 = .ok (.i2l, 1) := by decide +kernel
theorem d_Lw_law_725 : decode code 725 = .ok (.lcmp, 1) := by decide +kernel
theorem d_Lw_law_726 : decode code 726 = .ok (.ifCond .eq 5, 3) := by decide +kernel
set_option maxHeartbeats 4000000 in
set_option maxRecDepth 100000 in
theorem LW_frozenInN (g : zG) (a pa pa1 pa2 pa3 ta ta1 ta2 taz taz1 taz2 taz3 taz4 taz5 taz6 ta4 ta5 ta6 sa sa1 sa2 saz saz1 saz2 saz3 saz4 saz5 saz6 sa4 sa5 sa6 gs co co1 co2 co3 fu fub fubg fut1 fut2 fut3 la lab labg gy gyg du dug re wm ac m mp mf mh mn mt mz mc_ mq mgr ml mi mr mm mu mk mx o1 o2 : Nat) (hL : g.2.2 41 = 7) (x y : Nat) (hx0 : x < 12) (hy0 : y < 9) (e1 : zs g 1 = nI x) (e2 : zs g 2 = nI y) (hh : (1200 ≤ (zs g 3) ∧ (zs g 3) ≤ 1500)) (w0 : zW) (n : Nat) : DV g M_Lw_law (lwP) w0 n 654 [(5, .int 0), (4, .ref o2), (3, .ref o1), (2, .ref m), (1, .ref a), (0, .ref (g.2.2 40))] [] (lwCS g a pa pa1 pa2 pa3 ta ta1 ta2 taz taz1 taz2 taz3 taz4 taz5 taz6 ta4 ta5 ta6 sa sa1 sa2 saz saz1 saz2 saz3 saz4 saz5 saz6 sa4 sa5 sa6 gs co co1 co2 co3 fu fub fubg fut1 fut2 fut3 la lab labg gy gyg du dug re wm ac m mp mf mh mn mt mz mc_ mq mgr ml mi mr mm mu mk mx o1 o2) 100 1000 := by
  refine r_aload_n d_Lw_law_654 rfl 4 rfl ?_
  refine r_aload_n d_Lw_law_655 rfl 5 rfl ?_
  refine r_iload d_Lw_law_656 0 rfl ?_
  refine r_iconst d_Lw_law_658 (v := 1) (by decide) ?_
  refine r_iadd d_Lw_law_659 (v := 1) rfl ?_
  refine r_sld (v := nI x) d_Lw_law_660 (by rw [hL]; exact fun q => q.elim (by decide) (by decide)) e1 ?_
  refine r_aload_n d_Lw_law_661 rfl 5 rfl ?_
  refine r_iload d_Lw_law_662 0 rfl ?_
  refine r_iconst d_Lw_law_664 (v := 2) (by decide) ?_
  refine r_iadd d_Lw_law_665 (v := 2) rfl ?_
  refine r_sld (v := nI y) d_Lw_law_666 (by rw [hL]; exact fun q => q.elim (by decide) (by decide)) e2 ?_
  refine r_aload_n d_Lw_law_667 rfl 5 rfl ?_
  refine r_iload d_Lw_law_668 0 rfl ?_
  refine r_iconst d_Lw_law_670 (v := 3) (by decide) ?_
  refine r_iadd d_Lw_law_671 (v := 3) rfl ?_
  refine r_sld (v := zs g 3) d_Lw_law_672 (by rw [hL]; exact fun q => q.elim (by decide) (by decide)) rfl ?_
  refine r_aload_n d_Lw_law_673 rfl 2 rfl ?_
  refine r_callSX (As := [.ref a, .int (nI x), .int (nI y), .int (zs g 3), .ref o1]) (rest := []) (csC := [(a, .inr (11, [.ref pa, .ref ta, .ref sa, .ref gs, .ref co, .ref fu, .ref la, .ref gy, .ref du, .ref re, .ref wm, .ref ac])), (ta, .inr (10, [.ref ta1, .ref ta2, .ref taz, .ref ta4, .ref ta5, .ref ta6, .int zX0.1.2.2.1, .int zX0.1.2.2.2])), (ta1, .inl (1, 108, .inl zX0.1.1)), (ta2, .inl (0, 108, .inl zX0.1.2.1)), (taz, .inr (2, [.ref taz1, .ref taz2, .ref taz3, .ref taz4, .ref taz5, .ref taz6, .int zX0.2.1.1.1.2.2.2])), (taz1, .inl (0, 108, .inl zX0.2.1.1.1.1)), (taz2, .inl (0, 108, .inl zX0.2.1.1.2)), (taz3, .inl (0, 108, .inl zX0.2.1.1.1.2.1)), (taz4, .inl (0, 108, .inl zX0.2.1.1.1.2.2.1)), (taz5, .inl (0, 108, .inl zX0.2.1.2.1)), (taz6, .inl (0, 108, .inl zX0.2.1.2.2)), (ta4, .inl (2, 108, .inl zX0.2.2.1)), (ta5, .inl (2, 108, .inl zX0.2.2.2.1)), (ta6, .inl (0, 108, .inl (fun k => nI (zX0.2.2.2.2 k)))), (o1, .inl (3, 1, .inr (.inl (fun _ => 0))))]) (is := [0, 5, 6, 7, 8, 9, 10, 11, 12, 13, 14, 15, 16, 17, 69]) ln_Lw_209 w_st_Lw_frozenIn ok_Lw_law_Lw_frozenIn d_Lw_law_674 (C_Lw_frozenInN g a pa ta sa gs co fu la gy du re wm ac ta1 ta2 taz taz1 taz2 taz3 taz4 taz5 taz6 ta4 ta5 ta6 zX0 (nI x) (nI y) (zs g 3) (12 * y + x) (z_clI hx0 hy0) hh o1 (fun _ => 0)) rfl rfl (Nat.le_of_ble_eq_true rfl) rfl (by decide) (by omega) (by omega) (fun E cs1 hx => ?_) (fun v cs1 hx => ?_)
  · exact absurd hx.1 (by simp)
  · obtain ⟨e1, rfl⟩ := hx
    cases e1
    refine ⟨rfl, ?_⟩
    refine r_st (st2 := [.int 0]) rfl ?_
    refine r_istore (lv' := [(6, .int 0), (5, .int 0), (4, .ref o2), (3, .ref o1), (2, .ref m), (1, .ref a), (0, .ref (g.2.2 40))]) d_Lw_law_677 (by decide) rfl ?_
    refine r_aload_n d_Lw_law_679 rfl 4 rfl ?_
    refine r_aload_n d_Lw_law_680 rfl 6 rfl ?_
    refine r_iload d_Lw_law_681 1 rfl ?_
    refine r_iconst d_Lw_law_683 (v := 1) (by decide) ?_
    refine r_iadd d_Lw_law_684 (v := 1) rfl ?_
    refine r_sld (v := nI x) d_Lw_law_685 (by rw [hL]; exact fun q => q.elim (by decide) (by decide)) e1 ?_
    refine r_aload_n d_Lw_law_686 rfl 6 rfl ?_
    refine r_iload d_Lw_law_687 1 rfl ?_
    refine r_iconst d_Lw_law_689 (v := 2) (by decide) ?_
    refine r_iadd d_Lw_law_690 (v := 2) rfl ?_
    refine r_sld (v := nI y) d_Lw_law_691 (by rw [hL]; exact fun q => q.elim (by decide) (by decide)) e2 ?_
    refine r_aload_n d_Lw_law_692 rfl 6 rfl ?_
    refine r_iload d_Lw_law_693 1 rfl ?_
    refine r_iconst d_Lw_law_695 (v := 3) (by decide) ?_
    refine r_iadd d_Lw_law_696 (v := 3) rfl ?_
    refine r_sld (v := zs g 3) d_Lw_law_697 (by rw [hL]; exact fun q => q.elim (by decide) (by decide)) rfl ?_
    refine r_callV (As := [.int (nI x), .int (nI y), .int (zs g 3)]) (rest := []) (csC := [(m, .inr (12, [.int 0, .ref mp, .int 4, .ref mf, .ref mh, .ref mn, .ref mt, .ref mz, .ref mc_, .ref mq, .ref mgr, .int 80, .int 35, .int 30, .int 50, .int 0, .int 0, .ref ml, .ref mi, .ref mr, .int 0, .int 0, .int 0, .int (-1), .int 0, .ref mm, .ref mu, .ref mk, .ref mx, .long 0, .long 0])), (mp, .inl (1, 108, .inl zFP)), (mf, .inl (0, 108, .inl (fun _ => 0))), (mh, .inl (0, 108, .inl (fun _ => 0))), (mn, .inl (0, 108, .inl (fun _ => 0))), (mt, .inl (0, 108, .inl (fun _ => 0))), (mz, .inl (0, 108, .inl (fun _ => 0)))]) (is := [52, 53, 54, 55, 56, 57, 58]) (q0 := 52) rfl rfl ln_Lw_212 w_im_Mm_frozenIn w_se_Mm_frozenIn ok_Lw_law_Mm_frozenIn d_Lw_law_698 (C_Mm_frozenIn0 g m mp mf mh mn mt mz mc_ mq mgr ml mi mr mm mu mk mx 0 4 80 35 30 50 0 0 0 0 0 (-1) 0 0 0 zFP (fun _ => 0) (fun _ => 0) (fun _ => 0) (fun _ => 0) (fun _ => 0) x y hx0 hy0 (zs g 3) hh zFP_g) rfl rfl (Nat.le_of_ble_eq_true rfl) rfl (by decide) (by omega) (by omega) (fun E cs1 hx => ?_) (fun v cs1 hx => ?_)
    · exact absurd hx.1 (by simp)
    · obtain ⟨e1, rfl⟩ := hx
      cases e1
      refine ⟨rfl, ?_⟩
      refine r_st (st2 := [.int (-1)]) rfl ?_
      refine r_istore (lv' := [(7, .int (-1)), (6, .int 0), (5, .int 0), (4, .ref o2), (3, .ref o1), (2, .ref m), (1, .ref a), (0, .ref (g.2.2 40))]) d_Lw_law_701 (by decide) rfl ?_
      refine r_aload_n d_Lw_law_703 rfl 5 rfl ?_
      refine r_callV (As := []) (rest := []) (csC := [(m, .inr (12, [.int 0, .ref mp, .int 4, .ref mf, .ref mh, .ref mn, .ref mt, .ref mz, .ref mc_, .ref mq, .ref mgr, .int 80, .int 35, .int 30, .int 50, .int 0, .int 0, .ref ml, .ref mi, .ref mr, .int 0, .int 0, .int 0, .int (-1), .int 0, .ref mm, .ref mu, .ref mk, .ref mx, .long 0, .long 0]))]) (is := [52]) (q0 := 52) rfl rfl ln_Lw_175 w_im_Mm_thrown w_se_Mm_thrown ok_Lw_law_Mm_thrown d_Lw_law_704 (C_Mm_thrown g m mp mf mh mn mt mz mc_ mq mgr ml mi mr mm mu mk mx 0 4 80 35 30 50 0 0 0 0 0 (-1) 0 0 0) rfl rfl (Nat.le_of_ble_eq_true rfl) rfl (by decide) (by omega) (by omega) (fun E cs1 hx => ?_) (fun v cs1 hx => ?_)
      · exact absurd hx.1 (by simp)
      · obtain ⟨e1, rfl⟩ := hx
        cases e1
        refine ⟨rfl, ?_⟩
        refine r_st (st2 := [.int 0]) rfl ?_
        refine r_iload d_Lw_law_707 1 rfl ?_
        refine r_icmp_eq (tgt := 714) d_Lw_law_709 (by decide) (fun c_709 => ?_) (fun c_709 => ?_)
        · refine r_iload d_Lw_law_714 1 rfl ?_
          refine r_if_ne (tgt := 731) d_Lw_law_716 (by decide) (fun c_716 => ?_) (fun c_716 => ?_)
          · exact absurd c_716 (by decide)
          · refine r_aload_n d_Lw_law_719 rfl 4 rfl ?_
            refine r_iconst d_Lw_law_720 (v := 0) (by decide) ?_
            refine r_lald d_Lw_law_721 (q0 := 69) rfl (fun q => q.elim (by decide) (by decide)) (v := (vp_updL (fun _ => 0) 0 (((frT (zs g 3) zX0).2.1.1.1.2.2.1 (12 * y + x))).toInt64) 0) rfl ?_
            refine r_iload d_Lw_law_722 0 rfl ?_
            refine r_i2l d_Lw_law_724 (v := (-1).toInt64) rfl ?_
            refine r_lcmp d_Lw_law_725 (v := 0) (zl_cmp (sFR sX0 hh.1 (by omega))) ?_
            refine r_if_eq (tgt := 731) d_Lw_law_726 (by decide) (fun c_726 => ?_) (fun c_726 => ?_)
            · refine r_goto (tgt := 3019) d_Lw_law_731 (by decide) ?_
              refine r_lv (lv' := [(5, .int 0), (0, .ref (g.2.2 40))]) [2, 7] rfl ?_
              exact LW_tail g _ hL _ _ w0 n
            · exact absurd c_726 (by decide)
        · exact absurd c_709 (by decide)
theorem d_Lw_law_891 : decode code 891 = .ok (.aload_n 3, 1) := by decide +kernel
theorem d_Lw_law_892 : decode code 892 = .ok (.iconst 0, 1) := by decide +kernel
theorem d_Lw_law_893 : decode code 893 = .ok (.laload, 1) := by decide +kernel
theorem d_Lw_law_894 : decode code 894 = .ok (.iload 7, 2) := by decide +kernel
theorem d_Lw_law_896 : decode code 896 = .ok (.ifCond .eq 7, 3) := by decide +kernel
theorem d_Lw_law_903 : decode code 903 = .ok (.lconst 0, 1) := by decide +kernel
theorem d_Lw_law_904 : decode code 904 = .ok (.lcmp, 1) := by decide +kernel
theorem d_Lw_law_905 : decode code 905 = .ok (.ifCond .eq 5, 3) := by decide +kernel
set_option maxHeartbeats 4000000 in
set_option maxRecDepth 100000 in
theorem LW_isFedN (g : zG) (a pa pa1 pa2 pa3 ta ta1 ta2 taz taz1 taz2 taz3 taz4 taz5 taz6 ta4 ta5 ta6 sa sa1 sa2 saz saz1 saz2 saz3 saz4 saz5 saz6 sa4 sa5 sa6 gs co co1 co2 co3 fu fub fubg fut1 fut2 fut3 la lab labg gy gyg du dug re wm ac m mp mf mh mn mt mz mc_ mq mgr ml mi mr mm mu mk mx o1 o2 : Nat) (hL : g.2.2 41 = 7) (x y : Nat) (hx0 : x < 12) (hy0 : y < 9) (e1 : zs g 1 = nI x) (e2 : zs g 2 = nI y) (hh : (1200 ≤ (zs g 3) ∧ (zs g 3) ≤ 1500)) (w0 : zW) (n : Nat) : DV g M_Lw_law (lwP) w0 n 826 [(5, .int 0), (4, .ref o2), (3, .ref o1), (2, .ref m), (1, .ref a), (0, .ref (g.2.2 40))] [] (lwCS g a pa pa1 pa2 pa3 ta ta1 ta2 taz taz1 taz2 taz3 taz4 taz5 taz6 ta4 ta5 ta6 sa sa1 sa2 saz saz1 saz2 saz3 saz4 saz5 saz6 sa4 sa5 sa6 gs co co1 co2 co3 fu fub fubg fut1 fut2 fut3 la lab labg gy gyg du dug re wm ac m mp mf mh mn mt mz mc_ mq mgr ml mi mr mm mu mk mx o1 o2) 100 1000 := by
  refine r_aload_n d_Lw_law_826 rfl 4 rfl ?_
  refine r_aload_n d_Lw_law_827 rfl 5 rfl ?_
  refine r_iload d_Lw_law_828 0 rfl ?_
  refine r_iconst d_Lw_law_830 (v := 1) (by decide) ?_
  refine r_iadd d_Lw_law_831 (v := 1) rfl ?_
  refine r_sld (v := nI x) d_Lw_law_832 (by rw [hL]; exact fun q => q.elim (by decide) (by decide)) e1 ?_
  refine r_aload_n d_Lw_law_833 rfl 5 rfl ?_
  refine r_iload d_Lw_law_834 0 rfl ?_
  refine r_iconst d_Lw_law_836 (v := 2) (by decide) ?_
  refine r_iadd d_Lw_law_837 (v := 2) rfl ?_
  refine r_sld (v := nI y) d_Lw_law_838 (by rw [hL]; exact fun q => q.elim (by decide) (by decide)) e2 ?_
  refine r_aload_n d_Lw_law_839 rfl 5 rfl ?_
  refine r_iload d_Lw_law_840 0 rfl ?_
  refine r_iconst d_Lw_law_842 (v := 3) (by decide) ?_
  refine r_iadd d_Lw_law_843 (v := 3) rfl ?_
  refine r_sld (v := zs g 3) d_Lw_law_844 (by rw [hL]; exact fun q => q.elim (by decide) (by decide)) rfl ?_
  refine r_aload_n d_Lw_law_845 rfl 2 rfl ?_
  refine r_callSX (As := [.ref a, .int (nI x), .int (nI y), .int (zs g 3), .ref o1]) (rest := []) (csC := [(a, .inr (11, [.ref pa, .ref ta, .ref sa, .ref gs, .ref co, .ref fu, .ref la, .ref gy, .ref du, .ref re, .ref wm, .ref ac])), (ta, .inr (10, [.ref ta1, .ref ta2, .ref taz, .ref ta4, .ref ta5, .ref ta6, .int zX0.1.2.2.1, .int zX0.1.2.2.2])), (ta1, .inl (1, 108, .inl zX0.1.1)), (ta2, .inl (0, 108, .inl zX0.1.2.1)), (taz, .inr (2, [.ref taz1, .ref taz2, .ref taz3, .ref taz4, .ref taz5, .ref taz6, .int zX0.2.1.1.1.2.2.2])), (taz1, .inl (0, 108, .inl zX0.2.1.1.1.1)), (taz2, .inl (0, 108, .inl zX0.2.1.1.2)), (taz3, .inl (0, 108, .inl zX0.2.1.1.1.2.1)), (taz4, .inl (0, 108, .inl zX0.2.1.1.1.2.2.1)), (taz5, .inl (0, 108, .inl zX0.2.1.2.1)), (taz6, .inl (0, 108, .inl zX0.2.1.2.2)), (ta4, .inl (2, 108, .inl zX0.2.2.1)), (ta5, .inl (2, 108, .inl zX0.2.2.2.1)), (ta6, .inl (0, 108, .inl (fun k => nI (zX0.2.2.2.2 k)))), (o1, .inl (3, 1, .inr (.inl (fun _ => 0))))]) (is := [0, 5, 6, 7, 8, 9, 10, 11, 12, 13, 14, 15, 16, 17, 69]) ln_Lw_217 w_st_Lw_isFed ok_Lw_law_Lw_isFed d_Lw_law_846 (C_Lw_isFedN g a pa ta sa gs co fu la gy du re wm ac ta1 ta2 taz taz1 taz2 taz3 taz4 taz5 taz6 ta4 ta5 ta6 zX0 (nI x) (nI y) (zs g 3) (12 * y + x) (z_clI hx0 hy0) hh (Or.inl (sFD sX0 hh.1 (by omega))) (sFD sX0 hh.1 (by omega)) o1 (fun _ => 0)) rfl rfl (Nat.le_of_ble_eq_true rfl) rfl (by decide) (by omega) (by omega) (fun E cs1 hx => ?_) (fun v cs1 hx => ?_)
  · exact absurd hx.1 (by simp)
  · obtain ⟨e1, rfl⟩ := hx
    cases e1
    refine ⟨rfl, ?_⟩
    refine r_st (st2 := [.int 0]) rfl ?_
    refine r_istore (lv' := [(6, .int 0), (5, .int 0), (4, .ref o2), (3, .ref o1), (2, .ref m), (1, .ref a), (0, .ref (g.2.2 40))]) d_Lw_law_849 (by decide) rfl ?_
    refine r_aload_n d_Lw_law_851 rfl 4 rfl ?_
    refine r_aload_n d_Lw_law_852 rfl 6 rfl ?_
    refine r_iload d_Lw_law_853 1 rfl ?_
    refine r_iconst d_Lw_law_855 (v := 1) (by decide) ?_
    refine r_iadd d_Lw_law_856 (v := 1) rfl ?_
    refine r_sld (v := nI x) d_Lw_law_857 (by rw [hL]; exact fun q => q.elim (by decide) (by decide)) e1 ?_
    refine r_aload_n d_Lw_law_858 rfl 6 rfl ?_
    refine r_iload d_Lw_law_859 1 rfl ?_
    refine r_iconst d_Lw_law_861 (v := 2) (by decide) ?_
    refine r_iadd d_Lw_law_862 (v := 2) rfl ?_
    refine r_sld (v := nI y) d_Lw_law_863 (by rw [hL]; exact fun q => q.elim (by decide) (by decide)) e2 ?_
    refine r_aload_n d_Lw_law_864 rfl 6 rfl ?_
    refine r_iload d_Lw_law_865 1 rfl ?_
    refine r_iconst d_Lw_law_867 (v := 3) (by decide) ?_
    refine r_iadd d_Lw_law_868 (v := 3) rfl ?_
    refine r_sld (v := zs g 3) d_Lw_law_869 (by rw [hL]; exact fun q => q.elim (by decide) (by decide)) rfl ?_
    refine r_callV (As := [.int (nI x), .int (nI y), .int (zs g 3)]) (rest := []) (csC := [(m, .inr (12, [.int 0, .ref mp, .int 4, .ref mf, .ref mh, .ref mn, .ref mt, .ref mz, .ref mc_, .ref mq, .ref mgr, .int 80, .int 35, .int 30, .int 50, .int 0, .int 0, .ref ml, .ref mi, .ref mr, .int 0, .int 0, .int 0, .int (-1), .int 0, .ref mm, .ref mu, .ref mk, .ref mx, .long 0, .long 0])), (mp, .inl (1, 108, .inl zFP)), (mf, .inl (0, 108, .inl (fun _ => 0))), (mh, .inl (0, 108, .inl (fun _ => 0))), (mn, .inl (0, 108, .inl (fun _ => 0))), (mt, .inl (0, 108, .inl (fun _ => 0))), (mz, .inl (0, 108, .inl (fun _ => 0))), (mc_, .inl (2, 108, .inl (fun _ => 0)))]) (is := [52, 53, 54, 55, 56, 57, 58, 59]) (q0 := 52) rfl rfl ln_Lw_219 w_im_Mm_isFed w_se_Mm_isFed ok_Lw_law_Mm_isFed d_Lw_law_870 (C_Mm_isFed0 g m mp mf mh mn mt mz mc_ mq mgr ml mi mr mm mu mk mx 0 4 80 35 30 50 0 0 0 0 0 (-1) 0 0 0 zFP (fun _ => 0) (fun _ => 0) (fun _ => 0) (fun _ => 0) (fun _ => 0) (fun _ => 0) x y hx0 hy0 (zs g 3) hh zFP_g zFP_at) rfl rfl (Nat.le_of_ble_eq_true rfl) rfl (by decide) (by omega) (by omega) (fun E cs1 hx => ?_) (fun v cs1 hx => ?_)
    · exact absurd hx.1 (by simp)
    · obtain ⟨e1, rfl⟩ := hx
      cases e1
      refine ⟨rfl, ?_⟩
      refine r_st (st2 := [.int 0]) rfl ?_
      refine r_istore (lv' := [(7, .int 0), (6, .int 0), (5, .int 0), (4, .ref o2), (3, .ref o1), (2, .ref m), (1, .ref a), (0, .ref (g.2.2 40))]) d_Lw_law_873 (by decide) rfl ?_
      refine r_aload_n d_Lw_law_875 rfl 5 rfl ?_
      refine r_callV (As := []) (rest := []) (csC := [(m, .inr (12, [.int 0, .ref mp, .int 4, .ref mf, .ref mh, .ref mn, .ref mt, .ref mz, .ref mc_, .ref mq, .ref mgr, .int 80, .int 35, .int 30, .int 50, .int 0, .int 0, .ref ml, .ref mi, .ref mr, .int 0, .int 0, .int 0, .int (-1), .int 0, .ref mm, .ref mu, .ref mk, .ref mx, .long 0, .long 0]))]) (is := [52]) (q0 := 52) rfl rfl ln_Lw_175 w_im_Mm_thrown w_se_Mm_thrown ok_Lw_law_Mm_thrown d_Lw_law_876 (C_Mm_thrown g m mp mf mh mn mt mz mc_ mq mgr ml mi mr mm mu mk mx 0 4 80 35 30 50 0 0 0 0 0 (-1) 0 0 0) rfl rfl (Nat.le_of_ble_eq_true rfl) rfl (by decide) (by omega) (by omega) (fun E cs1 hx => ?_) (fun v cs1 hx => ?_)
      · exact absurd hx.1 (by simp)
      · obtain ⟨e1, rfl⟩ := hx
        cases e1
        refine ⟨rfl, ?_⟩
        refine r_st (st2 := [.int 0]) rfl ?_
        refine r_iload d_Lw_law_879 1 rfl ?_
        refine r_icmp_eq (tgt := 886) d_Lw_law_881 (by decide) (fun c_881 => ?_) (fun c_881 => ?_)
        · refine r_iload d_Lw_law_886 1 rfl ?_
          refine r_if_ne (tgt := 910) d_Lw_law_888 (by decide) (fun c_888 => ?_) (fun c_888 => ?_)
          · exact absurd c_888 (by decide)
          · refine r_aload_n d_Lw_law_891 rfl 4 rfl ?_
            refine r_iconst d_Lw_law_892 (v := 0) (by decide) ?_
            refine r_lald d_Lw_law_893 (q0 := 69) rfl (fun q => q.elim (by decide) (by decide)) (v := (vp_updL (fun _ => 0) 0 0) 0) rfl ?_
            refine r_iload d_Lw_law_894 0 rfl ?_
            refine r_if_eq (tgt := 903) d_Lw_law_896 (by decide) (fun c_896 => ?_) (fun c_896 => ?_)
            · refine r_lconst d_Lw_law_903 (v := 0) (by decide) ?_
              refine r_lcmp d_Lw_law_904 (v := 0) rfl ?_
              refine r_if_eq (tgt := 910) d_Lw_law_905 (by decide) (fun c_905 => ?_) (fun c_905 => ?_)
              · refine r_goto (tgt := 3019) d_Lw_law_910 (by decide) ?_
                refine r_lv (lv' := [(5, .int 0), (0, .ref (g.2.2 40))]) [2, 7] rfl ?_
                exact LW_tail g _ hL _ _ w0 n
              · exact absurd c_905 (by decide)
            · exact absurd c_896 (by decide)
        · exact absurd c_881 (by decide)
theorem d_Lw_law_734 : decode code 734 = .ok (.aload_n 1, 1) := by decide +kernel
theorem d_Lw_law_735 : decode code 735 = .ok (.aload_n 0, 1) := by decide +kernel
theorem d_Lw_law_736 : decode code 736 = .ok (.iload 5, 2) := by decide +kernel
theorem d_Lw_law_738 : decode code 738 = .ok (.iconst 1, 1) := by decide +kernel
theorem d_Lw_law_739 : decode code 739 = .ok (.iadd, 1) := by decide +kernel
theorem d_Lw_law_740 : decode code 740 = .ok (.iaload, 1) := by decide +kernel
theorem d_Lw_law_741 : decode code 741 = .ok (.aload_n 0, 1) := by decide +kernel
theorem d_Lw_law_742 : decode code 742 = .ok (.iload 5, 2) := by decide +kernel
theorem d_Lw_law_744 : decode code 744 = .ok (.iconst 2, 1) := by decide +kernel
theorem d_Lw_law_745 : decode code 745 = .ok (.iadd, 1) := by decide +kernel
theorem d_Lw_law_746 : decode code 746 = .ok (.iaload, 1) := by decide +kernel
theorem d_Lw_law_747 : decode code 747 = .ok (.aload_n 0, 1) := by decide +kernel
theorem d_Lw_law_748 : decode code 748 = .ok (.iload 5, 2) := by decide +kernel
theorem d_Lw_law_750 : decode code 750 = .ok (.iconst 3, 1) := by decide +kernel
theorem d_Lw_law_751 : decode code 751 = .ok (.iadd, 1) := by decide +kernel
theorem d_Lw_law_752 : decode code 752 = .ok (.iaload, 1) := by decide +kernel
theorem d_Lw_law_753 : decode code 753 = .ok (.aload_n 0, 1) := by decide +kernel
theorem d_Lw_law_754 : decode code 754 = .ok (.iload 5, 2) := by decide +kernel
theorem d_Lw_law_756 : decode code 756 = .ok (.iconst 4, 1) := by decide +kernel
theorem d_Lw_law_757 : decode code 757 = .ok (.iadd, 1) := by decide +kernel
theorem d_Lw_law_758 : decode code 758 = .ok (.iaload, 1) := by decide +kernel
theorem d_Lw_law_759 : decode code 759 = .ok (.aload_n 3, 1) := by decide +kernel
theorem d_Lw_law_760 : decode code 760 = .ok (.invokestatic 213, 3) := by decide +kernel
theorem ok_Lw_law_Lw_heatAt : z_okX M_Lw_law M_Lw_heatAt 6 := ⟨z_mem (i := 878) (by decide +kernel) (by decide +kernel), by decide, ⟨by decide +kernel, by decide +kernel, by decide +kernel⟩, ⟨by decide, by decide⟩, z_mem (i := 57) (by decide +kernel) (by decide +kernel), rfl⟩
theorem ln_Lw_213 : Cond.methodLink "IronpourLaw" 213 M_Lw_heatAt.1 ∈ z_gw := z_mem (i := 876) (by decide +kernel) (by decide +kernel)
theorem w_st_Lw_heatAt : Cond.static M_Lw_heatAt.1 ∈ z_gw := z_mem (i := 877) (by decide +kernel) (by decide +kernel)
theorem d_Lw_law_763 : decode code 763 = .ok (.istore 6, 2) := by decide +kernel
theorem d_Lw_law_765 : decode code 765 = .ok (.aload_n 2, 1) := by decide +kernel
theorem d_Lw_law_766 : decode code 766 = .ok (.aload_n 0, 1) := by decide +kernel
theorem d_Lw_law_767 : decode code 767 = .ok (.iload 5, 2) := by decide +kernel
theorem d_Lw_law_769 : decode code 769 = .ok (.iconst 1, 1) := by decide +kernel
theorem d_Lw_law_770 : decode code 770 = .ok (.iadd, 1) := by decide +kernel
theorem d_Lw_law_771 : decode code 771 = .ok (.iaload, 1) := by decide +kernel
theorem d_Lw_law_772 : decode code 772 = .ok (.aload_n 0, 1) := by decide +kernel
theorem d_Lw_law_773 : decode code 773 = .ok (.iload 5, 2) := by decide +kernel
theorem d_Lw_law_775 : decode code 775 = .ok (.iconst 2, 1) := by decide +kernel
theorem d_Lw_law_776 : decode code 776 = .ok (.iadd, 1) := by decide +kernel
theorem d_Lw_law_777 : decode code 777 = .ok (.iaload, 1) := by decide +kernel
theorem d_Lw_law_778 : decode code 778 = .ok (.aload_n 0, 1) := by decide +kernel
theorem d_Lw_law_779 : decode code 779 = .ok (.iload 5, 2) := by decide +kernel
theorem d_Lw_law_781 : decode code 781 = .ok (.iconst 3, 1) := by decide +kernel
theorem d_Lw_law_782 : decode code 782 = .ok (.iadd, 1) := by decide +kernel
theorem d_Lw_law_783 : decode code 783 = .ok (.iaload, 1) := by decide +kernel
theorem d_Lw_law_784 : decode code 784 = .ok (.aload_n 0, 1) := by decide +kernel
theorem d_Lw_law_785 : decode code 785 = .ok (.iload 5, 2) := by decide +kernel
theorem d_Lw_law_787 : decode code 787 = .ok (.iconst 4, 1) := by decide +kernel
theorem d_Lw_law_788 : decode code 788 = .ok (.iadd, 1) := by decide +kernel
theorem d_Lw_law_789 : decode code 789 = .ok (.iaload, 1) := by decide +kernel
theorem d_Lw_law_790 : decode code 790 = .ok (.invokevirtual 216, 3) := by decide +kernel
theorem ok_Lw_law_Mm_heatAt : z_ok M_Lw_law M_Mm_heatAt 4 := ⟨z_mem (i := 1797) (by decide +kernel) (by decide +kernel), rfl, ⟨by decide +kernel, by decide +kernel, by decide +kernel⟩, ⟨by decide, by decide⟩, z_mem (i := 71) (by decide +kernel) (by decide +kernel), rfl⟩
theorem ln_Lw_216 : Cond.methodLink "IronpourLaw" 216 M_Mm_heatAt.1 ∈ z_gw := z_mem (i := 1794) (by decide +kernel) (by decide +kernel)
theorem w_im_Mm_heatAt : Cond.instanceMethod M_Mm_heatAt.1 ∈ z_gw := z_mem (i := 1795) (by decide +kernel) (by decide +kernel)
theorem w_se_Mm_heatAt : Cond.selects M_Mm_heatAt.1.cls M_Mm_heatAt.1 M_Mm_heatAt.1 ∈ z_gw := z_mem (i := 1796) (by decide +kernel) (by decide +kernel)
theorem d_Lw_law_793 : decode code 793 = .ok (.istore 7, 2) := by decide +kernel
theorem d_Lw_law_795 : decode code 795 = .ok (.aload_n 2, 1) := by decide +kernel
theorem d_Lw_law_796 : decode code 796 = .ok (.invokevirtual 175, 3) := by decide +kernel
theorem d_Lw_law_799 : decode code 799 = .ok (.iload 6, 2) := by decide +kernel
theorem d_Lw_law_801 : decode code 801 = .ok (.if_icmp .eq 5, 3) := by decide +kernel
theorem d_Lw_law_806 : decode code 806 = .ok (.iload 6, 2) := by decide +kernel
theorem d_Lw_law_808 : decode code 808 = .ok (.ifCond .ne 15, 3) := by decide +kernel
theorem d_Lw_law_823 : decode code 823 = .ok (.goto 2196, 3) := by decide +kernel
set_option maxHeartbeats 4000000 in
set_option maxRecDepth 100000 in
theorem LW_heatAtE (g : zG) (a pa pa1 pa2 pa3 ta ta1 ta2 taz taz1 taz2 taz3 taz4 taz5 taz6 ta4 ta5 ta6 sa sa1 sa2 saz saz1 saz2 saz3 saz4 saz5 saz6 sa4 sa5 sa6 gs co co1 co2 co3 fu fub fubg fut1 fut2 fut3 la lab labg gy gyg du dug re wm ac m mp mf mh mn mt mz mc_ mq mgr ml mi mr mm mu mk mx o1 o2 : Nat) (hL : g.2.2 41 = 7) (hz : z_cl (zs g 1) (zs g 2) = none) (w0 : zW) (n : Nat) : DV g M_Lw_law (lwP) w0 n 734 [(5, .int 0), (4, .ref o2), (3, .ref o1), (2, .ref m), (1, .ref a), (0, .ref (g.2.2 40))] [] (lwCS g a pa pa1 pa2 pa3 ta ta1 ta2 taz taz1 taz2 taz3 taz4 taz5 taz6 ta4 ta5 ta6 sa sa1 sa2 saz saz1 saz2 saz3 saz4 saz5 saz6 sa4 sa5 sa6 gs co co1 co2 co3 fu fub fubg fut1 fut2 fut3 la lab labg gy gyg du dug re wm ac m mp mf mh mn mt mz mc_ mq mgr ml mi mr mm mu mk mx o1 o2) 100 1000 := by
  refine r_aload_n d_Lw_law_734 rfl 4 rfl ?_
  refine r_aload_n d_Lw_law_735 rfl 5 rfl ?_
  refine r_iload d_Lw_law_736 0 rfl ?_
  refine r_iconst d_Lw_law_738 (v := 1) (by decide) ?_
  refine r_iadd d_Lw_law_739 (v := 1) rfl ?_
  refine r_sld (v := zs g 1) d_Lw_law_740 (by rw [hL]; exact fun q => q.elim (by decide) (by decide)) rfl ?_
  refine r_aload_n d_Lw_law_741 rfl 5 rfl ?_
  refine r_iload d_Lw_law_742 0 rfl ?_
  refine r_iconst d_Lw_law_744 (v := 2) (by decide) ?_
  refine r_iadd d_Lw_law_745 (v := 2) rfl ?_
  refine r_sld (v := zs g 2) d_Lw_law_746 (by rw [hL]; exact fun q => q.elim (by decide) (by decide)) rfl ?_
  refine r_aload_n d_Lw_law_747 rfl 5 rfl ?_
  refine r_iload d_Lw_law_748 0 rfl ?_
  refine r_iconst d_Lw_law_750 (v := 3) (by decide) ?_
  refine r_iadd d_Lw_law_751 (v := 3) rfl ?_
  refine r_sld (v := zs g 3) d_Lw_law_752 (by rw [hL]; exact fun q => q.elim (by decide) (by decide)) rfl ?_
  refine r_aload_n d_Lw_law_753 rfl 5 rfl ?_
  refine r_iload d_Lw_law_754 0 rfl ?_
  refine r_iconst d_Lw_law_756 (v := 4) (by decide) ?_
  refine r_iadd d_Lw_law_757 (v := 4) rfl ?_
  refine r_sld (v := zs g 4) d_Lw_law_758 (by rw [hL]; exact fun q => q.elim (by decide) (by decide)) rfl ?_
  refine r_aload_n d_Lw_law_759 rfl 2 rfl ?_
  refine r_callSX (As := [.ref a, .int (zs g 1), .int (zs g 2), .int (zs g 3), .int (zs g 4), .ref o1]) (rest := []) (csC := [(a, .inr (11, [.ref pa, .ref ta, .ref sa, .ref gs, .ref co, .ref fu, .ref la, .ref gy, .ref du, .ref re, .ref wm, .ref ac])), (pa, .inr (8, [.ref pa1, .ref pa2, .ref pa3, .int (nI 4)])), (pa1, .inl (1, 108, .inl zFP)), (pa2, .inl (2, 108, .inl (fun _ => 0))), (pa3, .inl (0, 108, .inl (fun k => nI ((fun _ => 0) k)))), (sa, .inr (10, [.ref sa1, .ref sa2, .ref saz, .ref sa4, .ref sa5, .ref sa6, .int zX0.1.2.2.1, .int zX0.1.2.2.2])), (sa1, .inl (1, 108, .inl zX0.1.1)), (sa2, .inl (0, 108, .inl zX0.1.2.1)), (saz, .inr (2, [.ref saz1, .ref saz2, .ref saz3, .ref saz4, .ref saz5, .ref saz6, .int zX0.2.1.1.1.2.2.2])), (saz1, .inl (0, 108, .inl zX0.2.1.1.1.1)), (saz2, .inl (0, 108, .inl zX0.2.1.1.2)), (saz3, .inl (0, 108, .inl zX0.2.1.1.1.2.1)), (saz4, .inl (0, 108, .inl zX0.2.1.1.1.2.2.1)), (saz5, .inl (0, 108, .inl zX0.2.1.2.1)), (saz6, .inl (0, 108, .inl zX0.2.1.2.2)), (sa4, .inl (2, 108, .inl zX0.2.2.1)), (sa5, .inl (2, 108, .inl zX0.2.2.2.1)), (sa6, .inl (0, 108, .inl (fun k => nI (zX0.2.2.2.2 k)))), (o1, .inl (3, 1, .inr (.inl (fun _ => 0))))]) (is := [0, 1, 2, 3, 4, 18, 19, 20, 21, 22, 23, 24, 25, 26, 27, 28, 29, 30, 69]) ln_Lw_213 w_st_Lw_heatAt ok_Lw_law_Lw_heatAt d_Lw_law_760 (C_Lw_heatAtE g a pa ta sa gs co fu la gy du re wm ac pa1 pa2 pa3 zFP (fun _ => 0) (fun _ => 0) 4 sa1 sa2 saz saz1 saz2 saz3 saz4 saz5 saz6 sa4 sa5 sa6 zX0 (zs g 1) (zs g 2) (zs g 3) (zs g 4) hz o1 (fun _ => 0)) rfl rfl (Nat.le_of_ble_eq_true rfl) rfl (by decide) (by omega) (by omega) (fun E cs1 hx => ?_) (fun v cs1 hx => ?_)
  · exact absurd hx.1 (by simp)
  · obtain ⟨e1, rfl⟩ := hx
    cases e1
    refine ⟨rfl, ?_⟩
    refine r_st (st2 := [.int 1]) rfl ?_
    refine r_istore (lv' := [(6, .int 1), (5, .int 0), (4, .ref o2), (3, .ref o1), (2, .ref m), (1, .ref a), (0, .ref (g.2.2 40))]) d_Lw_law_763 (by decide) rfl ?_
    refine r_aload_n d_Lw_law_765 rfl 4 rfl ?_
    refine r_aload_n d_Lw_law_766 rfl 6 rfl ?_
    refine r_iload d_Lw_law_767 1 rfl ?_
    refine r_iconst d_Lw_law_769 (v := 1) (by decide) ?_
    refine r_iadd d_Lw_law_770 (v := 1) rfl ?_
    refine r_sld (v := zs g 1) d_Lw_law_771 (by rw [hL]; exact fun q => q.elim (by decide) (by decide)) rfl ?_
    refine r_aload_n d_Lw_law_772 rfl 6 rfl ?_
    refine r_iload d_Lw_law_773 1 rfl ?_
    refine r_iconst d_Lw_law_775 (v := 2) (by decide) ?_
    refine r_iadd d_Lw_law_776 (v := 2) rfl ?_
    refine r_sld (v := zs g 2) d_Lw_law_777 (by rw [hL]; exact fun q => q.elim (by decide) (by decide)) rfl ?_
    refine r_aload_n d_Lw_law_778 rfl 6 rfl ?_
    refine r_iload d_Lw_law_779 1 rfl ?_
    refine r_iconst d_Lw_law_781 (v := 3) (by decide) ?_
    refine r_iadd d_Lw_law_782 (v := 3) rfl ?_
    refine r_sld (v := zs g 3) d_Lw_law_783 (by rw [hL]; exact fun q => q.elim (by decide) (by decide)) rfl ?_
    refine r_aload_n d_Lw_law_784 rfl 6 rfl ?_
    refine r_iload d_Lw_law_785 1 rfl ?_
    refine r_iconst d_Lw_law_787 (v := 4) (by decide) ?_
    refine r_iadd d_Lw_law_788 (v := 4) rfl ?_
    refine r_sld (v := zs g 4) d_Lw_law_789 (by rw [hL]; exact fun q => q.elim (by decide) (by decide)) rfl ?_
    refine r_callV (As := [.int (zs g 1), .int (zs g 2), .int (zs g 3), .int (zs g 4)]) (rest := []) (csC := [(m, .inr (12, [.int 0, .ref mp, .int 4, .ref mf, .ref mh, .ref mn, .ref mt, .ref mz, .ref mc_, .ref mq, .ref mgr, .int 80, .int 35, .int 30, .int 50, .int 0, .int 0, .ref ml, .ref mi, .ref mr, .int 0, .int 0, .int 0, .int (-1), .int 0, .ref mm, .ref mu, .ref mk, .ref mx, .long 0, .long 0])), (mp, .inl (1, 108, .inl zFP))]) (is := [52, 53]) (q0 := 52) rfl rfl ln_Lw_216 w_im_Mm_heatAt w_se_Mm_heatAt ok_Lw_law_Mm_heatAt d_Lw_law_790 (C_Mm_heatAtE g m mp mf mh mn mt mz mc_ mq mgr ml mi mr mm mu mk mx 0 4 80 35 30 50 0 0 0 0 0 (-1) 0 0 0 zFP (zs g 1) (zs g 2) (zs g 3) (zs g 4) hz) rfl rfl (Nat.le_of_ble_eq_true rfl) rfl (by decide) (by omega) (by omega) (fun E cs1 hx => ?_) (fun v cs1 hx => ?_)
    · exact absurd hx.1 (by simp)
    · obtain ⟨e1, rfl⟩ := hx
      cases e1
      refine ⟨rfl, ?_⟩
      refine r_st (st2 := [.int 0]) rfl ?_
      refine r_istore (lv' := [(7, .int 0), (6, .int 1), (5, .int 0), (4, .ref o2), (3, .ref o1), (2, .ref m), (1, .ref a), (0, .ref (g.2.2 40))]) d_Lw_law_793 (by decide) rfl ?_
      refine r_aload_n d_Lw_law_795 rfl 5 rfl ?_
      refine r_callV (As := []) (rest := []) (csC := [(m, .inr (12, [.int 1, .ref mp, .int 4, .ref mf, .ref mh, .ref mn, .ref mt, .ref mz, .ref mc_, .ref mq, .ref mgr, .int 80, .int 35, .int 30, .int 50, .int 0, .int 0, .ref ml, .ref mi, .ref mr, .int 0, .int 0, .int 0, .int (-1), .int 0, .ref mm, .ref mu, .ref mk, .ref mx, .long 0, .long 0]))]) (is := [52]) (q0 := 52) rfl rfl ln_Lw_175 w_im_Mm_thrown w_se_Mm_thrown ok_Lw_law_Mm_thrown d_Lw_law_796 (C_Mm_thrown g m mp mf mh mn mt mz mc_ mq mgr ml mi mr mm mu mk mx 1 4 80 35 30 50 0 0 0 0 0 (-1) 0 0 0) rfl rfl (Nat.le_of_ble_eq_true rfl) rfl (by decide) (by omega) (by omega) (fun E cs1 hx => ?_) (fun v cs1 hx => ?_)
      · exact absurd hx.1 (by simp)
      · obtain ⟨e1, rfl⟩ := hx
        cases e1
        refine ⟨rfl, ?_⟩
        refine r_st (st2 := [.int 1]) rfl ?_
        refine r_iload d_Lw_law_799 1 rfl ?_
        refine r_icmp_eq (tgt := 806) d_Lw_law_801 (by decide) (fun c_801 => ?_) (fun c_801 => ?_)
        · refine r_iload d_Lw_law_806 1 rfl ?_
          refine r_if_ne (tgt := 823) d_Lw_law_808 (by decide) (fun c_808 => ?_) (fun c_808 => ?_)
          · refine r_goto (tgt := 3019) d_Lw_law_823 (by decide) ?_
            refine r_lv (lv' := [(5, .int 0), (0, .ref (g.2.2 40))]) [2, 7] rfl ?_
            exact LW_tail g _ hL _ _ w0 n
          · exact absurd c_808 (by decide)
        · exact absurd c_801 (by decide)
set_option maxHeartbeats 4000000 in
set_option maxRecDepth 100000 in
theorem LW_heatAtF (g : zG) (a pa pa1 pa2 pa3 ta ta1 ta2 taz taz1 taz2 taz3 taz4 taz5 taz6 ta4 ta5 ta6 sa sa1 sa2 saz saz1 saz2 saz3 saz4 saz5 saz6 sa4 sa5 sa6 gs co co1 co2 co3 fu fub fubg fut1 fut2 fut3 la lab labg gy gyg du dug re wm ac m mp mf mh mn mt mz mc_ mq mgr ml mi mr mm mu mk mx o1 o2 : Nat) (hL : g.2.2 41 = 7) (x y : Nat) (hx0 : x < 12) (hy0 : y < 9) (e1 : zs g 1 = nI x) (e2 : zs g 2 = nI y) (hh : ¬ (1200 ≤ (zs g 3) ∧ (zs g 3) ≤ 1500)) (w0 : zW) (n : Nat) : DV g M_Lw_law (lwP) w0 n 734 [(5, .int 0), (4, .ref o2), (3, .ref o1), (2, .ref m), (1, .ref a), (0, .ref (g.2.2 40))] [] (lwCS g a pa pa1 pa2 pa3 ta ta1 ta2 taz taz1 taz2 taz3 taz4 taz5 taz6 ta4 ta5 ta6 sa sa1 sa2 saz saz1 saz2 saz3 saz4 saz5 saz6 sa4 sa5 sa6 gs co co1 co2 co3 fu fub fubg fut1 fut2 fut3 la lab labg gy gyg du dug re wm ac m mp mf mh mn mt mz mc_ mq mgr ml mi mr mm mu mk mx o1 o2) 100 1000 := by
  refine r_aload_n d_Lw_law_734 rfl 4 rfl ?_
  refine r_aload_n d_Lw_law_735 rfl 5 rfl ?_
  refine r_iload d_Lw_law_736 0 rfl ?_
  refine r_iconst d_Lw_law_738 (v := 1) (by decide) ?_
  refine r_iadd d_Lw_law_739 (v := 1) rfl ?_
  refine r_sld (v := nI x) d_Lw_law_740 (by rw [hL]; exact fun q => q.elim (by decide) (by decide)) e1 ?_
  refine r_aload_n d_Lw_law_741 rfl 5 rfl ?_
  refine r_iload d_Lw_law_742 0 rfl ?_
  refine r_iconst d_Lw_law_744 (v := 2) (by decide) ?_
  refine r_iadd d_Lw_law_745 (v := 2) rfl ?_
  refine r_sld (v := nI y) d_Lw_law_746 (by rw [hL]; exact fun q => q.elim (by decide) (by decide)) e2 ?_
  refine r_aload_n d_Lw_law_747 rfl 5 rfl ?_
  refine r_iload d_Lw_law_748 0 rfl ?_
  refine r_iconst d_Lw_law_750 (v := 3) (by decide) ?_
  refine r_iadd d_Lw_law_751 (v := 3) rfl ?_
  refine r_sld (v := zs g 3) d_Lw_law_752 (by rw [hL]; exact fun q => q.elim (by decide) (by decide)) rfl ?_
  refine r_aload_n d_Lw_law_753 rfl 5 rfl ?_
  refine r_iload d_Lw_law_754 0 rfl ?_
  refine r_iconst d_Lw_law_756 (v := 4) (by decide) ?_
  refine r_iadd d_Lw_law_757 (v := 4) rfl ?_
  refine r_sld (v := zs g 4) d_Lw_law_758 (by rw [hL]; exact fun q => q.elim (by decide) (by decide)) rfl ?_
  refine r_aload_n d_Lw_law_759 rfl 2 rfl ?_
  refine r_callSX (As := [.ref a, .int (nI x), .int (nI y), .int (zs g 3), .int (zs g 4), .ref o1]) (rest := []) (csC := [(a, .inr (11, [.ref pa, .ref ta, .ref sa, .ref gs, .ref co, .ref fu, .ref la, .ref gy, .ref du, .ref re, .ref wm, .ref ac])), (pa, .inr (8, [.ref pa1, .ref pa2, .ref pa3, .int (nI 4)])), (pa1, .inl (1, 108, .inl zFP)), (pa2, .inl (2, 108, .inl (fun _ => 0))), (pa3, .inl (0, 108, .inl (fun k => nI ((fun _ => 0) k)))), (sa, .inr (10, [.ref sa1, .ref sa2, .ref saz, .ref sa4, .ref sa5, .ref sa6, .int zX0.1.2.2.1, .int zX0.1.2.2.2])), (sa1, .inl (1, 108, .inl zX0.1.1)), (sa2, .inl (0, 108, .inl zX0.1.2.1)), (saz, .inr (2, [.ref saz1, .ref saz2, .ref saz3, .ref saz4, .ref saz5, .ref saz6, .int zX0.2.1.1.1.2.2.2])), (saz1, .inl (0, 108, .inl zX0.2.1.1.1.1)), (saz2, .inl (0, 108, .inl zX0.2.1.1.2)), (saz3, .inl (0, 108, .inl zX0.2.1.1.1.2.1)), (saz4, .inl (0, 108, .inl zX0.2.1.1.1.2.2.1)), (saz5, .inl (0, 108, .inl zX0.2.1.2.1)), (saz6, .inl (0, 108, .inl zX0.2.1.2.2)), (sa4, .inl (2, 108, .inl zX0.2.2.1)), (sa5, .inl (2, 108, .inl zX0.2.2.2.1)), (sa6, .inl (0, 108, .inl (fun k => nI (zX0.2.2.2.2 k)))), (o1, .inl (3, 1, .inr (.inl (fun _ => 0))))]) (is := [0, 1, 2, 3, 4, 18, 19, 20, 21, 22, 23, 24, 25, 26, 27, 28, 29, 30, 69]) ln_Lw_213 w_st_Lw_heatAt ok_Lw_law_Lw_heatAt d_Lw_law_760 (C_Lw_heatAtF g a pa ta sa gs co fu la gy du re wm ac pa1 pa2 pa3 zFP (fun _ => 0) (fun _ => 0) 4 sa1 sa2 saz saz1 saz2 saz3 saz4 saz5 saz6 sa4 sa5 sa6 zX0 (nI x) (nI y) (zs g 3) (zs g 4) (12 * y + x) (z_clI hx0 hy0) hh o1 (fun _ => 0)) rfl rfl (Nat.le_of_ble_eq_true rfl) rfl (by decide) (by omega) (by omega) (fun E cs1 hx => ?_) (fun v cs1 hx => ?_)
  · exact absurd hx.1 (by simp)
  · obtain ⟨e1, rfl⟩ := hx
    cases e1
    refine ⟨rfl, ?_⟩
    refine r_st (st2 := [.int 2]) rfl ?_
    refine r_istore (lv' := [(6, .int 2), (5, .int 0), (4, .ref o2), (3, .ref o1), (2, .ref m), (1, .ref a), (0, .ref (g.2.2 40))]) d_Lw_law_763 (by decide) rfl ?_
    refine r_aload_n d_Lw_law_765 rfl 4 rfl ?_
    refine r_aload_n d_Lw_law_766 rfl 6 rfl ?_
    refine r_iload d_Lw_law_767 1 rfl ?_
    refine r_iconst d_Lw_law_769 (v := 1) (by decide) ?_
    refine r_iadd d_Lw_law_770 (v := 1) rfl ?_
    refine r_sld (v := nI x) d_Lw_law_771 (by rw [hL]; exact fun q => q.elim (by decide) (by decide)) e1 ?_
    refine r_aload_n d_Lw_law_772 rfl 6 rfl ?_
    refine r_iload d_Lw_law_773 1 rfl ?_
    refine r_iconst d_Lw_law_775 (v := 2) (by decide) ?_
    refine r_iadd d_Lw_law_776 (v := 2) rfl ?_
    refine r_sld (v := nI y) d_Lw_law_777 (by rw [hL]; exact fun q => q.elim (by decide) (by decide)) e2 ?_
    refine r_aload_n d_Lw_law_778 rfl 6 rfl ?_
    refine r_iload d_Lw_law_779 1 rfl ?_
    refine r_iconst d_Lw_law_781 (v := 3) (by decide) ?_
    refine r_iadd d_Lw_law_782 (v := 3) rfl ?_
    refine r_sld (v := zs g 3) d_Lw_law_783 (by rw [hL]; exact fun q => q.elim (by decide) (by decide)) rfl ?_
    refine r_aload_n d_Lw_law_784 rfl 6 rfl ?_
    refine r_iload d_Lw_law_785 1 rfl ?_
    refine r_iconst d_Lw_law_787 (v := 4) (by decide) ?_
    refine r_iadd d_Lw_law_788 (v := 4) rfl ?_
    refine r_sld (v := zs g 4) d_Lw_law_789 (by rw [hL]; exact fun q => q.elim (by decide) (by decide)) rfl ?_
    refine r_callV (As := [.int (nI x), .int (nI y), .int (zs g 3), .int (zs g 4)]) (rest := []) (csC := [(m, .inr (12, [.int 0, .ref mp, .int 4, .ref mf, .ref mh, .ref mn, .ref mt, .ref mz, .ref mc_, .ref mq, .ref mgr, .int 80, .int 35, .int 30, .int 50, .int 0, .int 0, .ref ml, .ref mi, .ref mr, .int 0, .int 0, .int 0, .int (-1), .int 0, .ref mm, .ref mu, .ref mk, .ref mx, .long 0, .long 0])), (mp, .inl (1, 108, .inl zFP))]) (is := [52, 53]) (q0 := 52) rfl rfl ln_Lw_216 w_im_Mm_heatAt w_se_Mm_heatAt ok_Lw_law_Mm_heatAt d_Lw_law_790 (C_Mm_heatAtF g m mp mf mh mn mt mz mc_ mq mgr ml mi mr mm mu mk mx 0 4 80 35 30 50 0 0 0 0 0 (-1) 0 0 0 zFP x y hx0 hy0 (zs g 3) (zs g 4) hh) rfl rfl (Nat.le_of_ble_eq_true rfl) rfl (by decide) (by omega) (by omega) (fun E cs1 hx => ?_) (fun v cs1 hx => ?_)
    · exact absurd hx.1 (by simp)
    · obtain ⟨e1, rfl⟩ := hx
      cases e1
      refine ⟨rfl, ?_⟩
      refine r_st (st2 := [.int 0]) rfl ?_
      refine r_istore (lv' := [(7, .int 0), (6, .int 2), (5, .int 0), (4, .ref o2), (3, .ref o1), (2, .ref m), (1, .ref a), (0, .ref (g.2.2 40))]) d_Lw_law_793 (by decide) rfl ?_
      refine r_aload_n d_Lw_law_795 rfl 5 rfl ?_
      refine r_callV (As := []) (rest := []) (csC := [(m, .inr (12, [.int 2, .ref mp, .int 4, .ref mf, .ref mh, .ref mn, .ref mt, .ref mz, .ref mc_, .ref mq, .ref mgr, .int 80, .int 35, .int 30, .int 50, .int 0, .int 0, .ref ml, .ref mi, .ref mr, .int 0, .int 0, .int 0, .int (-1), .int 0, .ref mm, .ref mu, .ref mk, .ref mx, .long 0, .long 0]))]) (is := [52]) (q0 := 52) rfl rfl ln_Lw_175 w_im_Mm_thrown w_se_Mm_thrown ok_Lw_law_Mm_thrown d_Lw_law_796 (C_Mm_thrown g m mp mf mh mn mt mz mc_ mq mgr ml mi mr mm mu mk mx 2 4 80 35 30 50 0 0 0 0 0 (-1) 0 0 0) rfl rfl (Nat.le_of_ble_eq_true rfl) rfl (by decide) (by omega) (by omega) (fun E cs1 hx => ?_) (fun v cs1 hx => ?_)
      · exact absurd hx.1 (by simp)
      · obtain ⟨e1, rfl⟩ := hx
        cases e1
        refine ⟨rfl, ?_⟩
        refine r_st (st2 := [.int 2]) rfl ?_
        refine r_iload d_Lw_law_799 1 rfl ?_
        refine r_icmp_eq (tgt := 806) d_Lw_law_801 (by decide) (fun c_801 => ?_) (fun c_801 => ?_)
        · refine r_iload d_Lw_law_806 1 rfl ?_
          refine r_if_ne (tgt := 823) d_Lw_law_808 (by decide) (fun c_808 => ?_) (fun c_808 => ?_)
          · refine r_goto (tgt := 3019) d_Lw_law_823 (by decide) ?_
            refine r_lv (lv' := [(5, .int 0), (0, .ref (g.2.2 40))]) [2, 7] rfl ?_
            exact LW_tail g _ hL _ _ w0 n
          · exact absurd c_808 (by decide)
        · exact absurd c_801 (by decide)
set_option maxHeartbeats 4000000 in
set_option maxRecDepth 100000 in
theorem LW_heatAtG (g : zG) (a pa pa1 pa2 pa3 ta ta1 ta2 taz taz1 taz2 taz3 taz4 taz5 taz6 ta4 ta5 ta6 sa sa1 sa2 saz saz1 saz2 saz3 saz4 saz5 saz6 sa4 sa5 sa6 gs co co1 co2 co3 fu fub fubg fut1 fut2 fut3 la lab labg gy gyg du dug re wm ac m mp mf mh mn mt mz mc_ mq mgr ml mi mr mm mu mk mx o1 o2 : Nat) (hL : g.2.2 41 = 7) (x y : Nat) (hx0 : x < 12) (hy0 : y < 9) (e1 : zs g 1 = nI x) (e2 : zs g 2 = nI y) (hh : (1200 ≤ (zs g 3) ∧ (zs g 3) ≤ 1500)) (hs : (zs g 4) < 0 ∨ 400 < (zs g 4)) (hs2 : ¬ (0 ≤ (zs g 4) ∧ (zs g 4) ≤ 400)) (w0 : zW) (n : Nat) : DV g M_Lw_law (lwP) w0 n 734 [(5, .int 0), (4, .ref o2), (3, .ref o1), (2, .ref m), (1, .ref a), (0, .ref (g.2.2 40))] [] (lwCS g a pa pa1 pa2 pa3 ta ta1 ta2 taz taz1 taz2 taz3 taz4 taz5 taz6 ta4 ta5 ta6 sa sa1 sa2 saz saz1 saz2 saz3 saz4 saz5 saz6 sa4 sa5 sa6 gs co co1 co2 co3 fu fub fubg fut1 fut2 fut3 la lab labg gy gyg du dug re wm ac m mp mf mh mn mt mz mc_ mq mgr ml mi mr mm mu mk mx o1 o2) 100 1000 := by
  refine r_aload_n d_Lw_law_734 rfl 4 rfl ?_
  refine r_aload_n d_Lw_law_735 rfl 5 rfl ?_
  refine r_iload d_Lw_law_736 0 rfl ?_
  refine r_iconst d_Lw_law_738 (v := 1) (by decide) ?_
  refine r_iadd d_Lw_law_739 (v := 1) rfl ?_
  refine r_sld (v := nI x) d_Lw_law_740 (by rw [hL]; exact fun q => q.elim (by decide) (by decide)) e1 ?_
  refine r_aload_n d_Lw_law_741 rfl 5 rfl ?_
  refine r_iload d_Lw_law_742 0 rfl ?_
  refine r_iconst d_Lw_law_744 (v := 2) (by decide) ?_
  refine r_iadd d_Lw_law_745 (v := 2) rfl ?_
  refine r_sld (v := nI y) d_Lw_law_746 (by rw [hL]; exact fun q => q.elim (by decide) (by decide)) e2 ?_
  refine r_aload_n d_Lw_law_747 rfl 5 rfl ?_
  refine r_iload d_Lw_law_748 0 rfl ?_
  refine r_iconst d_Lw_law_750 (v := 3) (by decide) ?_
  refine r_iadd d_Lw_law_751 (v := 3) rfl ?_
  refine r_sld (v := zs g 3) d_Lw_law_752 (by rw [hL]; exact fun q => q.elim (by decide) (by decide)) rfl ?_
  refine r_aload_n d_Lw_law_753 rfl 5 rfl ?_
  refine r_iload d_Lw_law_754 0 rfl ?_
  refine r_iconst d_Lw_law_756 (v := 4) (by decide) ?_
  refine r_iadd d_Lw_law_757 (v := 4) rfl ?_
  refine r_sld (v := zs g 4) d_Lw_law_758 (by rw [hL]; exact fun q => q.elim (by decide) (by decide)) rfl ?_
  refine r_aload_n d_Lw_law_759 rfl 2 rfl ?_
  refine r_callSX (As := [.ref a, .int (nI x), .int (nI y), .int (zs g 3), .int (zs g 4), .ref o1]) (rest := []) (csC := [(a, .inr (11, [.ref pa, .ref ta, .ref sa, .ref gs, .ref co, .ref fu, .ref la, .ref gy, .ref du, .ref re, .ref wm, .ref ac])), (pa, .inr (8, [.ref pa1, .ref pa2, .ref pa3, .int (nI 4)])), (pa1, .inl (1, 108, .inl zFP)), (pa2, .inl (2, 108, .inl (fun _ => 0))), (pa3, .inl (0, 108, .inl (fun k => nI ((fun _ => 0) k)))), (sa, .inr (10, [.ref sa1, .ref sa2, .ref saz, .ref sa4, .ref sa5, .ref sa6, .int zX0.1.2.2.1, .int zX0.1.2.2.2])), (sa1, .inl (1, 108, .inl zX0.1.1)), (sa2, .inl (0, 108, .inl zX0.1.2.1)), (saz, .inr (2, [.ref saz1, .ref saz2, .ref saz3, .ref saz4, .ref saz5, .ref saz6, .int zX0.2.1.1.1.2.2.2])), (saz1, .inl (0, 108, .inl zX0.2.1.1.1.1)), (saz2, .inl (0, 108, .inl zX0.2.1.1.2)), (saz3, .inl (0, 108, .inl zX0.2.1.1.1.2.1)), (saz4, .inl (0, 108, .inl zX0.2.1.1.1.2.2.1)), (saz5, .inl (0, 108, .inl zX0.2.1.2.1)), (saz6, .inl (0, 108, .inl zX0.2.1.2.2)), (sa4, .inl (2, 108, .inl zX0.2.2.1)), (sa5, .inl (2, 108, .inl zX0.2.2.2.1)), (sa6, .inl (0, 108, .inl (fun k => nI (zX0.2.2.2.2 k)))), (o1, .inl (3, 1, .inr (.inl (fun _ => 0))))]) (is := [0, 1, 2, 3, 4, 18, 19, 20, 21, 22, 23, 24, 25, 26, 27, 28, 29, 30, 69]) ln_Lw_213 w_st_Lw_heatAt ok_Lw_law_Lw_heatAt d_Lw_law_760 (C_Lw_heatAtG g a pa ta sa gs co fu la gy du re wm ac pa1 pa2 pa3 zFP (fun _ => 0) (fun _ => 0) 4 sa1 sa2 saz saz1 saz2 saz3 saz4 saz5 saz6 sa4 sa5 sa6 zX0 (nI x) (nI y) (zs g 3) (zs g 4) (12 * y + x) (z_clI hx0 hy0) hh hs o1 (fun _ => 0)) rfl rfl (Nat.le_of_ble_eq_true rfl) rfl (by decide) (by omega) (by omega) (fun E cs1 hx => ?_) (fun v cs1 hx => ?_)
  · exact absurd hx.1 (by simp)
  · obtain ⟨e1, rfl⟩ := hx
    cases e1
    refine ⟨rfl, ?_⟩
    refine r_st (st2 := [.int 2]) rfl ?_
    refine r_istore (lv' := [(6, .int 2), (5, .int 0), (4, .ref o2), (3, .ref o1), (2, .ref m), (1, .ref a), (0, .ref (g.2.2 40))]) d_Lw_law_763 (by decide) rfl ?_
    refine r_aload_n d_Lw_law_765 rfl 4 rfl ?_
    refine r_aload_n d_Lw_law_766 rfl 6 rfl ?_
    refine r_iload d_Lw_law_767 1 rfl ?_
    refine r_iconst d_Lw_law_769 (v := 1) (by decide) ?_
    refine r_iadd d_Lw_law_770 (v := 1) rfl ?_
    refine r_sld (v := nI x) d_Lw_law_771 (by rw [hL]; exact fun q => q.elim (by decide) (by decide)) e1 ?_
    refine r_aload_n d_Lw_law_772 rfl 6 rfl ?_
    refine r_iload d_Lw_law_773 1 rfl ?_
    refine r_iconst d_Lw_law_775 (v := 2) (by decide) ?_
    refine r_iadd d_Lw_law_776 (v := 2) rfl ?_
    refine r_sld (v := nI y) d_Lw_law_777 (by rw [hL]; exact fun q => q.elim (by decide) (by decide)) e2 ?_
    refine r_aload_n d_Lw_law_778 rfl 6 rfl ?_
    refine r_iload d_Lw_law_779 1 rfl ?_
    refine r_iconst d_Lw_law_781 (v := 3) (by decide) ?_
    refine r_iadd d_Lw_law_782 (v := 3) rfl ?_
    refine r_sld (v := zs g 3) d_Lw_law_783 (by rw [hL]; exact fun q => q.elim (by decide) (by decide)) rfl ?_
    refine r_aload_n d_Lw_law_784 rfl 6 rfl ?_
    refine r_iload d_Lw_law_785 1 rfl ?_
    refine r_iconst d_Lw_law_787 (v := 4) (by decide) ?_
    refine r_iadd d_Lw_law_788 (v := 4) rfl ?_
    refine r_sld (v := zs g 4) d_Lw_law_789 (by rw [hL]; exact fun q => q.elim (by decide) (by decide)) rfl ?_
    refine r_callV (As := [.int (nI x), .int (nI y), .int (zs g 3), .int (zs g 4)]) (rest := []) (csC := [(m, .inr (12, [.int 0, .ref mp, .int 4, .ref mf, .ref mh, .ref mn, .ref mt, .ref mz, .ref mc_, .ref mq, .ref mgr, .int 80, .int 35, .int 30, .int 50, .int 0, .int 0, .ref ml, .ref mi, .ref mr, .int 0, .int 0, .int 0, .int (-1), .int 0, .ref mm, .ref mu, .ref mk, .ref mx, .long 0, .long 0])), (mp, .inl (1, 108, .inl zFP))]) (is := [52, 53]) (q0 := 52) rfl rfl ln_Lw_216 w_im_Mm_heatAt w_se_Mm_heatAt ok_Lw_law_Mm_heatAt d_Lw_law_790 (C_Mm_heatAtG g m mp mf mh mn mt mz mc_ mq mgr ml mi mr mm mu mk mx 0 4 80 35 30 50 0 0 0 0 0 (-1) 0 0 0 zFP x y hx0 hy0 (zs g 3) (zs g 4) hh hs2) rfl rfl (Nat.le_of_ble_eq_true rfl) rfl (by decide) (by omega) (by omega) (fun E cs1 hx => ?_) (fun v cs1 hx => ?_)
    · exact absurd hx.1 (by simp)
    · obtain ⟨e1, rfl⟩ := hx
      cases e1
      refine ⟨rfl, ?_⟩
      refine r_st (st2 := [.int 0]) rfl ?_
      refine r_istore (lv' := [(7, .int 0), (6, .int 2), (5, .int 0), (4, .ref o2), (3, .ref o1), (2, .ref m), (1, .ref a), (0, .ref (g.2.2 40))]) d_Lw_law_793 (by decide) rfl ?_
      refine r_aload_n d_Lw_law_795 rfl 5 rfl ?_
      refine r_callV (As := []) (rest := []) (csC := [(m, .inr (12, [.int 2, .ref mp, .int 4, .ref mf, .ref mh, .ref mn, .ref mt, .ref mz, .ref mc_, .ref mq, .ref mgr, .int 80, .int 35, .int 30, .int 50, .int 0, .int 0, .ref ml, .ref mi, .ref mr, .int 0, .int 0, .int 0, .int (-1), .int 0, .ref mm, .ref mu, .ref mk, .ref mx, .long 0, .long 0]))]) (is := [52]) (q0 := 52) rfl rfl ln_Lw_175 w_im_Mm_thrown w_se_Mm_thrown ok_Lw_law_Mm_thrown d_Lw_law_796 (C_Mm_thrown g m mp mf mh mn mt mz mc_ mq mgr ml mi mr mm mu mk mx 2 4 80 35 30 50 0 0 0 0 0 (-1) 0 0 0) rfl rfl (Nat.le_of_ble_eq_true rfl) rfl (by decide) (by omega) (by omega) (fun E cs1 hx => ?_) (fun v cs1 hx => ?_)
      · exact absurd hx.1 (by simp)
      · obtain ⟨e1, rfl⟩ := hx
        cases e1
        refine ⟨rfl, ?_⟩
        refine r_st (st2 := [.int 2]) rfl ?_
        refine r_iload d_Lw_law_799 1 rfl ?_
        refine r_icmp_eq (tgt := 806) d_Lw_law_801 (by decide) (fun c_801 => ?_) (fun c_801 => ?_)
        · refine r_iload d_Lw_law_806 1 rfl ?_
          refine r_if_ne (tgt := 823) d_Lw_law_808 (by decide) (fun c_808 => ?_) (fun c_808 => ?_)
          · refine r_goto (tgt := 3019) d_Lw_law_823 (by decide) ?_
            refine r_lv (lv' := [(5, .int 0), (0, .ref (g.2.2 40))]) [2, 7] rfl ?_
            exact LW_tail g _ hL _ _ w0 n
          · exact absurd c_808 (by decide)
        · exact absurd c_801 (by decide)
theorem d_Lw_law_811 : decode code 811 = .ok (.aload_n 3, 1) := by decide +kernel
theorem d_Lw_law_812 : decode code 812 = .ok (.iconst 0, 1) := by decide +kernel
theorem d_Lw_law_813 : decode code 813 = .ok (.laload, 1) := by decide +kernel
theorem d_Lw_law_814 : decode code 814 = .ok (.iload 7, 2) := by decide +kernel
theorem d_Lw_law_816 : decode code 816 = .ok (.i2l, 1) := by decide +kernel
theorem d_Lw_law_817 : decode code 817 = .ok (.lcmp, 1) := by decide +kernel
theorem d_Lw_law_818 : decode code 818 = .ok (.ifCond .eq 5, 3) := by decide +kernel
set_option maxHeartbeats 4000000 in
set_option maxRecDepth 100000 in
theorem LW_heatAtN (g : zG) (a pa pa1 pa2 pa3 ta ta1 ta2 taz taz1 taz2 taz3 taz4 taz5 taz6 ta4 ta5 ta6 sa sa1 sa2 saz saz1 saz2 saz3 saz4 saz5 saz6 sa4 sa5 sa6 gs co co1 co2 co3 fu fub fubg fut1 fut2 fut3 la lab labg gy gyg du dug re wm ac m mp mf mh mn mt mz mc_ mq mgr ml mi mr mm mu mk mx o1 o2 : Nat) (hL : g.2.2 41 = 7) (x y : Nat) (hx0 : x < 12) (hy0 : y < 9) (e1 : zs g 1 = nI x) (e2 : zs g 2 = nI y) (hh : (1200 ≤ (zs g 3) ∧ (zs g 3) ≤ 1500)) (kd : Nat) (hkd : kd ≤ 400) (e4 : zs g 4 = nI kd) (w0 : zW) (n : Nat) : DV g M_Lw_law (lwP) w0 n 734 [(5, .int 0), (4, .ref o2), (3, .ref o1), (2, .ref m), (1, .ref a), (0, .ref (g.2.2 40))] [] (lwCS g a pa pa1 pa2 pa3 ta ta1 ta2 taz taz1 taz2 taz3 taz4 taz5 taz6 ta4 ta5 ta6 sa sa1 sa2 saz saz1 saz2 saz3 saz4 saz5 saz6 sa4 sa5 sa6 gs co co1 co2 co3 fu fub fubg fut1 fut2 fut3 la lab labg gy gyg du dug re wm ac m mp mf mh mn mt mz mc_ mq mgr ml mi mr mm mu mk mx o1 o2) 100 1000 := by
  refine r_aload_n d_Lw_law_734 rfl 4 rfl ?_
  refine r_aload_n d_Lw_law_735 rfl 5 rfl ?_
  refine r_iload d_Lw_law_736 0 rfl ?_
  refine r_iconst d_Lw_law_738 (v := 1) (by decide) ?_
  refine r_iadd d_Lw_law_739 (v := 1) rfl ?_
  refine r_sld (v := nI x) d_Lw_law_740 (by rw [hL]; exact fun q => q.elim (by decide) (by decide)) e1 ?_
  refine r_aload_n d_Lw_law_741 rfl 5 rfl ?_
  refine r_iload d_Lw_law_742 0 rfl ?_
  refine r_iconst d_Lw_law_744 (v := 2) (by decide) ?_
  refine r_iadd d_Lw_law_745 (v := 2) rfl ?_
  refine r_sld (v := nI y) d_Lw_law_746 (by rw [hL]; exact fun q => q.elim (by decide) (by decide)) e2 ?_
  refine r_aload_n d_Lw_law_747 rfl 5 rfl ?_
  refine r_iload d_Lw_law_748 0 rfl ?_
  refine r_iconst d_Lw_law_750 (v := 3) (by decide) ?_
  refine r_iadd d_Lw_law_751 (v := 3) rfl ?_
  refine r_sld (v := zs g 3) d_Lw_law_752 (by rw [hL]; exact fun q => q.elim (by decide) (by decide)) rfl ?_
  refine r_aload_n d_Lw_law_753 rfl 5 rfl ?_
  refine r_iload d_Lw_law_754 0 rfl ?_
  refine r_iconst d_Lw_law_756 (v := 4) (by decide) ?_
  refine r_iadd d_Lw_law_757 (v := 4) rfl ?_
  refine r_sld (v := nI kd) d_Lw_law_758 (by rw [hL]; exact fun q => q.elim (by decide) (by decide)) e4 ?_
  refine r_aload_n d_Lw_law_759 rfl 2 rfl ?_
  refine r_callSX (As := [.ref a, .int (nI x), .int (nI y), .int (zs g 3), .int (nI kd), .ref o1]) (rest := []) (csC := [(a, .inr (11, [.ref pa, .ref ta, .ref sa, .ref gs, .ref co, .ref fu, .ref la, .ref gy, .ref du, .ref re, .ref wm, .ref ac])), (pa, .inr (8, [.ref pa1, .ref pa2, .ref pa3, .int (nI 4)])), (pa1, .inl (1, 108, .inl zFP)), (pa2, .inl (2, 108, .inl (fun _ => 0))), (pa3, .inl (0, 108, .inl (fun k => nI ((fun _ => 0) k)))), (sa, .inr (10, [.ref sa1, .ref sa2, .ref saz, .ref sa4, .ref sa5, .ref sa6, .int zX0.1.2.2.1, .int zX0.1.2.2.2])), (sa1, .inl (1, 108, .inl zX0.1.1)), (sa2, .inl (0, 108, .inl zX0.1.2.1)), (saz, .inr (2, [.ref saz1, .ref saz2, .ref saz3, .ref saz4, .ref saz5, .ref saz6, .int zX0.2.1.1.1.2.2.2])), (saz1, .inl (0, 108, .inl zX0.2.1.1.1.1)), (saz2, .inl (0, 108, .inl zX0.2.1.1.2)), (saz3, .inl (0, 108, .inl zX0.2.1.1.1.2.1)), (saz4, .inl (0, 108, .inl zX0.2.1.1.1.2.2.1)), (saz5, .inl (0, 108, .inl zX0.2.1.2.1)), (saz6, .inl (0, 108, .inl zX0.2.1.2.2)), (sa4, .inl (2, 108, .inl zX0.2.2.1)), (sa5, .inl (2, 108, .inl zX0.2.2.2.1)), (sa6, .inl (0, 108, .inl (fun k => nI (zX0.2.2.2.2 k)))), (o1, .inl (3, 1, .inr (.inl (fun _ => 0))))]) (is := [0, 1, 2, 3, 4, 18, 19, 20, 21, 22, 23, 24, 25, 26, 27, 28, 29, 30, 69]) ln_Lw_213 w_st_Lw_heatAt ok_Lw_law_Lw_heatAt d_Lw_law_760 (C_Lw_heatAtN g a pa ta sa gs co fu la gy du re wm ac pa1 pa2 pa3 zFP (fun _ => 0) (fun _ => 0) 4 sa1 sa2 saz saz1 saz2 saz3 saz4 saz5 saz6 sa4 sa5 sa6 zX0 (nI x) (nI y) (zs g 3) kd hkd zFP_ch (12 * y + x) (z_clI hx0 hy0) hh o1 (fun _ => 0)) rfl rfl (Nat.le_of_ble_eq_true rfl) rfl (by decide) (by omega) (by omega) (fun E cs1 hx => ?_) (fun v cs1 hx => ?_)
  · exact absurd hx.1 (by simp)
  · obtain ⟨e1, rfl⟩ := hx
    cases e1
    refine ⟨rfl, ?_⟩
    refine r_st (st2 := [.int 0]) rfl ?_
    refine r_istore (lv' := [(6, .int 0), (5, .int 0), (4, .ref o2), (3, .ref o1), (2, .ref m), (1, .ref a), (0, .ref (g.2.2 40))]) d_Lw_law_763 (by decide) rfl ?_
    refine r_aload_n d_Lw_law_765 rfl 4 rfl ?_
    refine r_aload_n d_Lw_law_766 rfl 6 rfl ?_
    refine r_iload d_Lw_law_767 1 rfl ?_
    refine r_iconst d_Lw_law_769 (v := 1) (by decide) ?_
    refine r_iadd d_Lw_law_770 (v := 1) rfl ?_
    refine r_sld (v := nI x) d_Lw_law_771 (by rw [hL]; exact fun q => q.elim (by decide) (by decide)) e1 ?_
    refine r_aload_n d_Lw_law_772 rfl 6 rfl ?_
    refine r_iload d_Lw_law_773 1 rfl ?_
    refine r_iconst d_Lw_law_775 (v := 2) (by decide) ?_
    refine r_iadd d_Lw_law_776 (v := 2) rfl ?_
    refine r_sld (v := nI y) d_Lw_law_777 (by rw [hL]; exact fun q => q.elim (by decide) (by decide)) e2 ?_
    refine r_aload_n d_Lw_law_778 rfl 6 rfl ?_
    refine r_iload d_Lw_law_779 1 rfl ?_
    refine r_iconst d_Lw_law_781 (v := 3) (by decide) ?_
    refine r_iadd d_Lw_law_782 (v := 3) rfl ?_
    refine r_sld (v := zs g 3) d_Lw_law_783 (by rw [hL]; exact fun q => q.elim (by decide) (by decide)) rfl ?_
    refine r_aload_n d_Lw_law_784 rfl 6 rfl ?_
    refine r_iload d_Lw_law_785 1 rfl ?_
    refine r_iconst d_Lw_law_787 (v := 4) (by decide) ?_
    refine r_iadd d_Lw_law_788 (v := 4) rfl ?_
    refine r_sld (v := nI kd) d_Lw_law_789 (by rw [hL]; exact fun q => q.elim (by decide) (by decide)) e4 ?_
    refine r_callV (As := [.int (nI x), .int (nI y), .int (zs g 3), .int (nI kd)]) (rest := []) (csC := [(m, .inr (12, [.int 0, .ref mp, .int 4, .ref mf, .ref mh, .ref mn, .ref mt, .ref mz, .ref mc_, .ref mq, .ref mgr, .int 80, .int 35, .int 30, .int 50, .int 0, .int 0, .ref ml, .ref mi, .ref mr, .int 0, .int 0, .int 0, .int (-1), .int 0, .ref mm, .ref mu, .ref mk, .ref mx, .long 0, .long 0])), (mp, .inl (1, 108, .inl zFP)), (mf, .inl (0, 108, .inl (fun _ => 0))), (mh, .inl (0, 108, .inl (fun _ => 0))), (mn, .inl (0, 108, .inl (fun _ => 0))), (mt, .inl (0, 108, .inl (fun _ => 0))), (mz, .inl (0, 108, .inl (fun _ => 0)))]) (is := [52, 53, 54, 55, 56, 57, 58]) (q0 := 52) rfl rfl ln_Lw_216 w_im_Mm_heatAt w_se_Mm_heatAt ok_Lw_law_Mm_heatAt d_Lw_law_790 (C_Mm_heatAt0 g m mp mf mh mn mt mz mc_ mq mgr ml mi mr mm mu mk mx 0 4 80 35 30 50 0 0 0 0 0 (-1) 0 0 0 zFP (fun _ => 0) (fun _ => 0) (fun _ => 0) (fun _ => 0) (fun _ => 0) x y hx0 hy0 (zs g 3) kd hkd hh zFP_g) rfl rfl (Nat.le_of_ble_eq_true rfl) rfl (by decide) (by omega) (by omega) (fun E cs1 hx => ?_) (fun v cs1 hx => ?_)
    · exact absurd hx.1 (by simp)
    · obtain ⟨e1, rfl⟩ := hx
      cases e1
      refine ⟨rfl, ?_⟩
      refine r_st (st2 := [.int 20]) rfl ?_
      refine r_istore (lv' := [(7, .int 20), (6, .int 0), (5, .int 0), (4, .ref o2), (3, .ref o1), (2, .ref m), (1, .ref a), (0, .ref (g.2.2 40))]) d_Lw_law_793 (by decide) rfl ?_
      refine r_aload_n d_Lw_law_795 rfl 5 rfl ?_
      refine r_callV (As := []) (rest := []) (csC := [(m, .inr (12, [.int 0, .ref mp, .int 4, .ref mf, .ref mh, .ref mn, .ref mt, .ref mz, .ref mc_, .ref mq, .ref mgr, .int 80, .int 35, .int 30, .int 50, .int 0, .int 0, .ref ml, .ref mi, .ref mr, .int 0, .int 0, .int 0, .int (-1), .int 0, .ref mm, .ref mu, .ref mk, .ref mx, .long 0, .long 0]))]) (is := [52]) (q0 := 52) rfl rfl ln_Lw_175 w_im_Mm_thrown w_se_Mm_thrown ok_Lw_law_Mm_thrown d_Lw_law_796 (C_Mm_thrown g m mp mf mh mn mt mz mc_ mq mgr ml mi mr mm mu mk mx 0 4 80 35 30 50 0 0 0 0 0 (-1) 0 0 0) rfl rfl (Nat.le_of_ble_eq_true rfl) rfl (by decide) (by omega) (by omega) (fun E cs1 hx => ?_) (fun v cs1 hx => ?_)
      · exact absurd hx.1 (by simp)
      · obtain ⟨e1, rfl⟩ := hx
        cases e1
        refine ⟨rfl, ?_⟩
        refine r_st (st2 := [.int 0]) rfl ?_
        refine r_iload d_Lw_law_799 1 rfl ?_
        refine r_icmp_eq (tgt := 806) d_Lw_law_801 (by decide) (fun c_801 => ?_) (fun c_801 => ?_)
        · refine r_iload d_Lw_law_806 1 rfl ?_
          refine r_if_ne (tgt := 823) d_Lw_law_808 (by decide) (fun c_808 => ?_) (fun c_808 => ?_)
          · exact absurd c_808 (by decide)
          · refine r_aload_n d_Lw_law_811 rfl 4 rfl ?_
            refine r_iconst d_Lw_law_812 (v := 0) (by decide) ?_
            refine r_lald d_Lw_law_813 (q0 := 69) rfl (fun q => q.elim (by decide) (by decide)) (v := (vp_updL (fun _ => 0) 0 (((clT (zs g 3) kd (tkT zFP zX0)).2.1.1.1.1 (12 * y + x))).toInt64) 0) rfl ?_
            refine r_iload d_Lw_law_814 0 rfl ?_
            refine r_i2l d_Lw_law_816 (v := 20.toInt64) rfl ?_
            refine r_lcmp d_Lw_law_817 (v := 0) (zl_cmp (sHT sXt _ kd (by omega))) ?_
            refine r_if_eq (tgt := 823) d_Lw_law_818 (by decide) (fun c_818 => ?_) (fun c_818 => ?_)
            · refine r_goto (tgt := 3019) d_Lw_law_823 (by decide) ?_
              refine r_lv (lv' := [(5, .int 0), (0, .ref (g.2.2 40))]) [2, 7] rfl ?_
              exact LW_tail g _ hL _ _ w0 n
            · exact absurd c_818 (by decide)
        · exact absurd c_801 (by decide)
theorem d_Lw_law_913 : decode code 913 = .ok (.aload_n 1, 1) := by decide +kernel
theorem d_Lw_law_914 : decode code 914 = .ok (.aload_n 0, 1) := by decide +kernel
theorem d_Lw_law_915 : decode code 915 = .ok (.iload 5, 2) := by decide +kernel
theorem d_Lw_law_917 : decode code 917 = .ok (.iconst 1, 1) := by decide +kernel
theorem d_Lw_law_918 : decode code 918 = .ok (.iadd, 1) := by decide +kernel
theorem d_Lw_law_919 : decode code 919 = .ok (.iaload, 1) := by decide +kernel
theorem d_Lw_law_920 : decode code 920 = .ok (.aload_n 3, 1) := by decide +kernel
theorem d_Lw_law_921 : decode code 921 = .ok (.invokestatic 220, 3) := by decide +kernel
theorem ok_Lw_law_Lw_shrunk : z_okX M_Lw_law M_Lw_shrunk 3 := ⟨z_mem (i := 897) (by decide +kernel) (by decide +kernel), by decide, ⟨by decide +kernel, by decide +kernel, by decide +kernel⟩, ⟨by decide, by decide⟩, z_mem (i := 57) (by decide +kernel) (by decide +kernel), rfl⟩
theorem ln_Lw_220 : Cond.methodLink "IronpourLaw" 220 M_Lw_shrunk.1 ∈ z_gw := z_mem (i := 895) (by decide +kernel) (by decide +kernel)
theorem w_st_Lw_shrunk : Cond.static M_Lw_shrunk.1 ∈ z_gw := z_mem (i := 896) (by decide +kernel) (by decide +kernel)
theorem d_Lw_law_924 : decode code 924 = .ok (.istore 6, 2) := by decide +kernel
theorem d_Lw_law_926 : decode code 926 = .ok (.aload_n 2, 1) := by decide +kernel
theorem d_Lw_law_927 : decode code 927 = .ok (.aload_n 0, 1) := by decide +kernel
theorem d_Lw_law_928 : decode code 928 = .ok (.iload 5, 2) := by decide +kernel
theorem d_Lw_law_930 : decode code 930 = .ok (.iconst 1, 1) := by decide +kernel
theorem d_Lw_law_931 : decode code 931 = .ok (.iadd, 1) := by decide +kernel
theorem d_Lw_law_932 : decode code 932 = .ok (.iaload, 1) := by decide +kernel
theorem d_Lw_law_933 : decode code 933 = .ok (.invokevirtual 222, 3) := by decide +kernel
theorem ok_Lw_law_Mm_shrunk : z_ok M_Lw_law M_Mm_shrunk 1 := ⟨z_mem (i := 1809) (by decide +kernel) (by decide +kernel), rfl, ⟨by decide +kernel, by decide +kernel, by decide +kernel⟩, ⟨by decide, by decide⟩, z_mem (i := 71) (by decide +kernel) (by decide +kernel), rfl⟩
theorem ln_Lw_222 : Cond.methodLink "IronpourLaw" 222 M_Mm_shrunk.1 ∈ z_gw := z_mem (i := 1806) (by decide +kernel) (by decide +kernel)
theorem w_im_Mm_shrunk : Cond.instanceMethod M_Mm_shrunk.1 ∈ z_gw := z_mem (i := 1807) (by decide +kernel) (by decide +kernel)
theorem w_se_Mm_shrunk : Cond.selects M_Mm_shrunk.1.cls M_Mm_shrunk.1 M_Mm_shrunk.1 ∈ z_gw := z_mem (i := 1808) (by decide +kernel) (by decide +kernel)
theorem d_Lw_law_936 : decode code 936 = .ok (.istore 7, 2) := by decide +kernel
theorem d_Lw_law_938 : decode code 938 = .ok (.aload_n 2, 1) := by decide +kernel
theorem d_Lw_law_939 : decode code 939 = .ok (.invokevirtual 175, 3) := by decide +kernel
theorem d_Lw_law_942 : decode code 942 = .ok (.iload 6, 2) := by decide +kernel
theorem d_Lw_law_944 : decode code 944 = .ok (.if_icmp .eq 5, 3) := by decide +kernel
theorem d_Lw_law_949 : decode code 949 = .ok (.iload 6, 2) := by decide +kernel
theorem d_Lw_law_951 : decode code 951 = .ok (.ifCond .ne 15, 3) := by decide +kernel
theorem d_Lw_law_966 : decode code 966 = .ok (.goto 2053, 3) := by decide +kernel
set_option maxHeartbeats 4000000 in
set_option maxRecDepth 100000 in
theorem LW_shrunkE (g : zG) (a pa pa1 pa2 pa3 ta ta1 ta2 taz taz1 taz2 taz3 taz4 taz5 taz6 ta4 ta5 ta6 sa sa1 sa2 saz saz1 saz2 saz3 saz4 saz5 saz6 sa4 sa5 sa6 gs co co1 co2 co3 fu fub fubg fut1 fut2 fut3 la lab labg gy gyg du dug re wm ac m mp mf mh mn mt mz mc_ mq mgr ml mi mr mm mu mk mx o1 o2 : Nat) (hL : g.2.2 41 = 7) (hh : ¬ (1200 ≤ (zs g 1) ∧ (zs g 1) ≤ 1500)) (w0 : zW) (n : Nat) : DV g M_Lw_law (lwP) w0 n 913 [(5, .int 0), (4, .ref o2), (3, .ref o1), (2, .ref m), (1, .ref a), (0, .ref (g.2.2 40))] [] (lwCS g a pa pa1 pa2 pa3 ta ta1 ta2 taz taz1 taz2 taz3 taz4 taz5 taz6 ta4 ta5 ta6 sa sa1 sa2 saz saz1 saz2 saz3 saz4 saz5 saz6 sa4 sa5 sa6 gs co co1 co2 co3 fu fub fubg fut1 fut2 fut3 la lab labg gy gyg du dug re wm ac m mp mf mh mn mt mz mc_ mq mgr ml mi mr mm mu mk mx o1 o2) 100 1000 := by
  refine r_aload_n d_Lw_law_913 rfl 4 rfl ?_
  refine r_aload_n d_Lw_law_914 rfl 5 rfl ?_
  refine r_iload d_Lw_law_915 0 rfl ?_
  refine r_iconst d_Lw_law_917 (v := 1) (by decide) ?_
  refine r_iadd d_Lw_law_918 (v := 1) rfl ?_
  refine r_sld (v := zs g 1) d_Lw_law_919 (by rw [hL]; exact fun q => q.elim (by decide) (by decide)) rfl ?_
  refine r_aload_n d_Lw_law_920 rfl 2 rfl ?_
  refine r_callSX (As := [.ref a, .int (zs g 1), .ref o1]) (rest := []) (csC := [(a, .inr (11, [.ref pa, .ref ta, .ref sa, .ref gs, .ref co, .ref fu, .ref la, .ref gy, .ref du, .ref re, .ref wm, .ref ac])), (ta, .inr (10, [.ref ta1, .ref ta2, .ref taz, .ref ta4, .ref ta5, .ref ta6, .int zX0.1.2.2.1, .int zX0.1.2.2.2])), (ta1, .inl (1, 108, .inl zX0.1.1)), (ta2, .inl (0, 108, .inl zX0.1.2.1)), (taz, .inr (2, [.ref taz1, .ref taz2, .ref taz3, .ref taz4, .ref taz5, .ref taz6, .int zX0.2.1.1.1.2.2.2])), (taz1, .inl (0, 108, .inl zX0.2.1.1.1.1)), (taz2, .inl (0, 108, .inl zX0.2.1.1.2)), (taz3, .inl (0, 108, .inl zX0.2.1.1.1.2.1)), (taz4, .inl (0, 108, .inl zX0.2.1.1.1.2.2.1)), (taz5, .inl (0, 108, .inl zX0.2.1.2.1)), (taz6, .inl (0, 108, .inl zX0.2.1.2.2)), (ta4, .inl (2, 108, .inl zX0.2.2.1)), (ta5, .inl (2, 108, .inl zX0.2.2.2.1)), (ta6, .inl (0, 108, .inl (fun k => nI (zX0.2.2.2.2 k)))), (o1, .inl (3, 1, .inr (.inl (fun _ => 0))))]) (is := [0, 5, 6, 7, 8, 9, 10, 11, 12, 13, 14, 15, 16, 17, 69]) ln_Lw_220 w_st_Lw_shrunk ok_Lw_law_Lw_shrunk d_Lw_law_921 (C_Lw_shrunkE g a pa ta sa gs co fu la gy du re wm ac ta1 ta2 taz taz1 taz2 taz3 taz4 taz5 taz6 ta4 ta5 ta6 zX0 (zs g 1) hh o1 (fun _ => 0)) rfl rfl (Nat.le_of_ble_eq_true rfl) rfl (by decide) (by omega) (by omega) (fun E cs1 hx => ?_) (fun v cs1 hx => ?_)
  · exact absurd hx.1 (by simp)
  · obtain ⟨e1, rfl⟩ := hx
    cases e1
    refine ⟨rfl, ?_⟩
    refine r_st (st2 := [.int 1]) rfl ?_
    refine r_istore (lv' := [(6, .int 1), (5, .int 0), (4, .ref o2), (3, .ref o1), (2, .ref m), (1, .ref a), (0, .ref (g.2.2 40))]) d_Lw_law_924 (by decide) rfl ?_
    refine r_aload_n d_Lw_law_926 rfl 4 rfl ?_
    refine r_aload_n d_Lw_law_927 rfl 6 rfl ?_
    refine r_iload d_Lw_law_928 1 rfl ?_
    refine r_iconst d_Lw_law_930 (v := 1) (by decide) ?_
    refine r_iadd d_Lw_law_931 (v := 1) rfl ?_
    refine r_sld (v := zs g 1) d_Lw_law_932 (by rw [hL]; exact fun q => q.elim (by decide) (by decide)) rfl ?_
    refine r_callV (As := [.int (zs g 1)]) (rest := []) (csC := [(m, .inr (12, [.int 0, .ref mp, .int 4, .ref mf, .ref mh, .ref mn, .ref mt, .ref mz, .ref mc_, .ref mq, .ref mgr, .int 80, .int 35, .int 30, .int 50, .int 0, .int 0, .ref ml, .ref mi, .ref mr, .int 0, .int 0, .int 0, .int (-1), .int 0, .ref mm, .ref mu, .ref mk, .ref mx, .long 0, .long 0])), (mp, .inl (1, 108, .inl zFP))]) (is := [52, 53]) (q0 := 52) rfl rfl ln_Lw_222 w_im_Mm_shrunk w_se_Mm_shrunk ok_Lw_law_Mm_shrunk d_Lw_law_933 (C_Mm_shrunkE g m mp mf mh mn mt mz mc_ mq mgr ml mi mr mm mu mk mx 0 4 80 35 30 50 0 0 0 0 0 (-1) 0 0 0 zFP (zs g 1) hh) rfl rfl (Nat.le_of_ble_eq_true rfl) rfl (by decide) (by omega) (by omega) (fun E cs1 hx => ?_) (fun v cs1 hx => ?_)
    · exact absurd hx.1 (by simp)
    · obtain ⟨e1, rfl⟩ := hx
      cases e1
      refine ⟨rfl, ?_⟩
      refine r_st (st2 := [.int 0]) rfl ?_
      refine r_istore (lv' := [(7, .int 0), (6, .int 1), (5, .int 0), (4, .ref o2), (3, .ref o1), (2, .ref m), (1, .ref a), (0, .ref (g.2.2 40))]) d_Lw_law_936 (by decide) rfl ?_
      refine r_aload_n d_Lw_law_938 rfl 5 rfl ?_
      refine r_callV (As := []) (rest := []) (csC := [(m, .inr (12, [.int 1, .ref mp, .int 4, .ref mf, .ref mh, .ref mn, .ref mt, .ref mz, .ref mc_, .ref mq, .ref mgr, .int 80, .int 35, .int 30, .int 50, .int 0, .int 0, .ref ml, .ref mi, .ref mr, .int 0, .int 0, .int 0, .int (-1), .int 0, .ref mm, .ref mu, .ref mk, .ref mx, .long 0, .long 0]))]) (is := [52]) (q0 := 52) rfl rfl ln_Lw_175 w_im_Mm_thrown w_se_Mm_thrown ok_Lw_law_Mm_thrown d_Lw_law_939 (C_Mm_thrown g m mp mf mh mn mt mz mc_ mq mgr ml mi mr mm mu mk mx 1 4 80 35 30 50 0 0 0 0 0 (-1) 0 0 0) rfl rfl (Nat.le_of_ble_eq_true rfl) rfl (by decide) (by omega) (by omega) (fun E cs1 hx => ?_) (fun v cs1 hx => ?_)
      · exact absurd hx.1 (by simp)
      · obtain ⟨e1, rfl⟩ := hx
        cases e1
        refine ⟨rfl, ?_⟩
        refine r_st (st2 := [.int 1]) rfl ?_
        refine r_iload d_Lw_law_942 1 rfl ?_
        refine r_icmp_eq (tgt := 949) d_Lw_law_944 (by decide) (fun c_944 => ?_) (fun c_944 => ?_)
        · refine r_iload d_Lw_law_949 1 rfl ?_
          refine r_if_ne (tgt := 966) d_Lw_law_951 (by decide) (fun c_951 => ?_) (fun c_951 => ?_)
          · refine r_goto (tgt := 3019) d_Lw_law_966 (by decide) ?_
            refine r_lv (lv' := [(5, .int 0), (0, .ref (g.2.2 40))]) [2, 7] rfl ?_
            exact LW_tail g _ hL _ _ w0 n
          · exact absurd c_951 (by decide)
        · exact absurd c_944 (by decide)
theorem d_Lw_law_954 : decode code 954 = .ok (.aload_n 3, 1) := by decide +kernel
theorem d_Lw_law_955 : decode code 955 = .ok (.iconst 0, 1) := by decide +kernel
theorem d_Lw_law_956 : decode code 956 = .ok (.laload, 1) := by decide +kernel
theorem d_Lw_law_957 : decode code 957 = .ok (.iload 7, 2) := by decide +kernel
theorem d_Lw_law_959 : decode code 959 = .ok (.i2l, 1) := by decide +kernel
theorem d_Lw_law_960 : decode code 960 = .ok (.lcmp, 1) := by decide +kernel
theorem d_Lw_law_961 : decode code 961 = .ok (.ifCond .eq 5, 3) := by decide +kernel
set_option maxHeartbeats 4000000 in
set_option maxRecDepth 100000 in
theorem LW_shrunkN (g : zG) (a pa pa1 pa2 pa3 ta ta1 ta2 taz taz1 taz2 taz3 taz4 taz5 taz6 ta4 ta5 ta6 sa sa1 sa2 saz saz1 saz2 saz3 saz4 saz5 saz6 sa4 sa5 sa6 gs co co1 co2 co3 fu fub fubg fut1 fut2 fut3 la lab labg gy gyg du dug re wm ac m mp mf mh mn mt mz mc_ mq mgr ml mi mr mm mu mk mx o1 o2 : Nat) (hL : g.2.2 41 = 7) (hh : (1200 ≤ (zs g 1) ∧ (zs g 1) ≤ 1500)) (w0 : zW) (n : Nat) : DV g M_Lw_law (lwP) w0 n 913 [(5, .int 0), (4, .ref o2), (3, .ref o1), (2, .ref m), (1, .ref a), (0, .ref (g.2.2 40))] [] (lwCS g a pa pa1 pa2 pa3 ta ta1 ta2 taz taz1 taz2 taz3 taz4 taz5 taz6 ta4 ta5 ta6 sa sa1 sa2 saz saz1 saz2 saz3 saz4 saz5 saz6 sa4 sa5 sa6 gs co co1 co2 co3 fu fub fubg fut1 fut2 fut3 la lab labg gy gyg du dug re wm ac m mp mf mh mn mt mz mc_ mq mgr ml mi mr mm mu mk mx o1 o2) 100 1000 := by
  refine r_aload_n d_Lw_law_913 rfl 4 rfl ?_
  refine r_aload_n d_Lw_law_914 rfl 5 rfl ?_
  refine r_iload d_Lw_law_915 0 rfl ?_
  refine r_iconst d_Lw_law_917 (v := 1) (by decide) ?_
  refine r_iadd d_Lw_law_918 (v := 1) rfl ?_
  refine r_sld (v := zs g 1) d_Lw_law_919 (by rw [hL]; exact fun q => q.elim (by decide) (by decide)) rfl ?_
  refine r_aload_n d_Lw_law_920 rfl 2 rfl ?_
  refine r_callSX (As := [.ref a, .int (zs g 1), .ref o1]) (rest := []) (csC := [(a, .inr (11, [.ref pa, .ref ta, .ref sa, .ref gs, .ref co, .ref fu, .ref la, .ref gy, .ref du, .ref re, .ref wm, .ref ac])), (ta, .inr (10, [.ref ta1, .ref ta2, .ref taz, .ref ta4, .ref ta5, .ref ta6, .int zX0.1.2.2.1, .int zX0.1.2.2.2])), (ta1, .inl (1, 108, .inl zX0.1.1)), (ta2, .inl (0, 108, .inl zX0.1.2.1)), (taz, .inr (2, [.ref taz1, .ref taz2, .ref taz3, .ref taz4, .ref taz5, .ref taz6, .int zX0.2.1.1.1.2.2.2])), (taz1, .inl (0, 108, .inl zX0.2.1.1.1.1)), (taz2, .inl (0, 108, .inl zX0.2.1.1.2)), (taz3, .inl (0, 108, .inl zX0.2.1.1.1.2.1)), (taz4, .inl (0, 108, .inl zX0.2.1.1.1.2.2.1)), (taz5, .inl (0, 108, .inl zX0.2.1.2.1)), (taz6, .inl (0, 108, .inl zX0.2.1.2.2)), (ta4, .inl (2, 108, .inl zX0.2.2.1)), (ta5, .inl (2, 108, .inl zX0.2.2.2.1)), (ta6, .inl (0, 108, .inl (fun k => nI (zX0.2.2.2.2 k)))), (o1, .inl (3, 1, .inr (.inl (fun _ => 0))))]) (is := [0, 5, 6, 7, 8, 9, 10, 11, 12, 13, 14, 15, 16, 17, 69]) ln_Lw_220 w_st_Lw_shrunk ok_Lw_law_Lw_shrunk d_Lw_law_921 (C_Lw_shrunkN g a pa ta sa gs co fu la gy du re wm ac ta1 ta2 taz taz1 taz2 taz3 taz4 taz5 taz6 ta4 ta5 ta6 zX0 (zs g 1) hh o1 (fun _ => 0)) rfl rfl (Nat.le_of_ble_eq_true rfl) rfl (by decide) (by omega) (by omega) (fun E cs1 hx => ?_) (fun v cs1 hx => ?_)
  · exact absurd hx.1 (by simp)
  · obtain ⟨e1, rfl⟩ := hx
    cases e1
    refine ⟨rfl, ?_⟩
    refine r_st (st2 := [.int 0]) rfl ?_
    refine r_istore (lv' := [(6, .int 0), (5, .int 0), (4, .ref o2), (3, .ref o1), (2, .ref m), (1, .ref a), (0, .ref (g.2.2 40))]) d_Lw_law_924 (by decide) rfl ?_
    refine r_aload_n d_Lw_law_926 rfl 4 rfl ?_
    refine r_aload_n d_Lw_law_927 rfl 6 rfl ?_
    refine r_iload d_Lw_law_928 1 rfl ?_
    refine r_iconst d_Lw_law_930 (v := 1) (by decide) ?_
    refine r_iadd d_Lw_law_931 (v := 1) rfl ?_
    refine r_sld (v := zs g 1) d_Lw_law_932 (by rw [hL]; exact fun q => q.elim (by decide) (by decide)) rfl ?_
    refine r_callV (As := [.int (zs g 1)]) (rest := []) (csC := [(m, .inr (12, [.int 0, .ref mp, .int 4, .ref mf, .ref mh, .ref mn, .ref mt, .ref mz, .ref mc_, .ref mq, .ref mgr, .int 80, .int 35, .int 30, .int 50, .int 0, .int 0, .ref ml, .ref mi, .ref mr, .int 0, .int 0, .int 0, .int (-1), .int 0, .ref mm, .ref mu, .ref mk, .ref mx, .long 0, .long 0])), (mp, .inl (1, 108, .inl zFP)), (mf, .inl (0, 108, .inl (fun _ => 0))), (mh, .inl (0, 108, .inl (fun _ => 0))), (mn, .inl (0, 108, .inl (fun _ => 0))), (mt, .inl (0, 108, .inl (fun _ => 0))), (mz, .inl (0, 108, .inl (fun _ => 0))), (mc_, .inl (2, 108, .inl (fun _ => 0)))]) (is := [52, 53, 54, 55, 56, 57, 58, 59]) (q0 := 52) rfl rfl ln_Lw_222 w_im_Mm_shrunk w_se_Mm_shrunk ok_Lw_law_Mm_shrunk d_Lw_law_933 (C_Mm_shrunk0 g m mp mf mh mn mt mz mc_ mq mgr ml mi mr mm mu mk mx 0 4 80 35 30 50 0 0 0 0 0 (-1) 0 0 0 zFP (fun _ => 0) (fun _ => 0) (fun _ => 0) (fun _ => 0) (fun _ => 0) (fun _ => 0) (zs g 1) hh zFP_g zFP_at) rfl rfl (Nat.le_of_ble_eq_true rfl) rfl (by decide) (by omega) (by omega) (fun E cs1 hx => ?_) (fun v cs1 hx => ?_)
    · exact absurd hx.1 (by simp)
    · obtain ⟨e1, rfl⟩ := hx
      cases e1
      refine ⟨rfl, ?_⟩
      refine r_st (st2 := [.int 0]) rfl ?_
      refine r_istore (lv' := [(7, .int 0), (6, .int 0), (5, .int 0), (4, .ref o2), (3, .ref o1), (2, .ref m), (1, .ref a), (0, .ref (g.2.2 40))]) d_Lw_law_936 (by decide) rfl ?_
      refine r_aload_n d_Lw_law_938 rfl 5 rfl ?_
      refine r_callV (As := []) (rest := []) (csC := [(m, .inr (12, [.int 0, .ref mp, .int 4, .ref mf, .ref mh, .ref mn, .ref mt, .ref mz, .ref mc_, .ref mq, .ref mgr, .int 80, .int 35, .int 30, .int 50, .int 0, .int 0, .ref ml, .ref mi, .ref mr, .int 0, .int 0, .int 0, .int (-1), .int 0, .ref mm, .ref mu, .ref mk, .ref mx, .long 0, .long 0]))]) (is := [52]) (q0 := 52) rfl rfl ln_Lw_175 w_im_Mm_thrown w_se_Mm_thrown ok_Lw_law_Mm_thrown d_Lw_law_939 (C_Mm_thrown g m mp mf mh mn mt mz mc_ mq mgr ml mi mr mm mu mk mx 0 4 80 35 30 50 0 0 0 0 0 (-1) 0 0 0) rfl rfl (Nat.le_of_ble_eq_true rfl) rfl (by decide) (by omega) (by omega) (fun E cs1 hx => ?_) (fun v cs1 hx => ?_)
      · exact absurd hx.1 (by simp)
      · obtain ⟨e1, rfl⟩ := hx
        cases e1
        refine ⟨rfl, ?_⟩
        refine r_st (st2 := [.int 0]) rfl ?_
        refine r_iload d_Lw_law_942 1 rfl ?_
        refine r_icmp_eq (tgt := 949) d_Lw_law_944 (by decide) (fun c_944 => ?_) (fun c_944 => ?_)
        · refine r_iload d_Lw_law_949 1 rfl ?_
          refine r_if_ne (tgt := 966) d_Lw_law_951 (by decide) (fun c_951 => ?_) (fun c_951 => ?_)
          · exact absurd c_951 (by decide)
          · refine r_aload_n d_Lw_law_954 rfl 4 rfl ?_
            refine r_iconst d_Lw_law_955 (v := 0) (by decide) ?_
            refine r_lald d_Lw_law_956 (q0 := 69) rfl (fun q => q.elim (by decide) (by decide)) (v := (vp_updL (fun _ => 0) 0 ((nI (shN (frT (zs g 1) zX0)))).toInt64) 0) rfl ?_
            refine r_iload d_Lw_law_957 0 rfl ?_
            refine r_i2l d_Lw_law_959 (v := 0.toInt64) rfl ?_
            refine r_lcmp d_Lw_law_960 (v := 0) (zl_cmp (by rw [sSH sX0 hh.1]; rfl)) ?_
            refine r_if_eq (tgt := 966) d_Lw_law_961 (by decide) (fun c_961 => ?_) (fun c_961 => ?_)
            · refine r_goto (tgt := 3019) d_Lw_law_966 (by decide) ?_
              refine r_lv (lv' := [(5, .int 0), (0, .ref (g.2.2 40))]) [2, 7] rfl ?_
              exact LW_tail g _ hL _ _ w0 n
            · exact absurd c_961 (by decide)
        · exact absurd c_944 (by decide)
theorem d_Lw_law_969 : decode code 969 = .ok (.aload_n 1, 1) := by decide +kernel
theorem d_Lw_law_970 : decode code 970 = .ok (.aload_n 0, 1) := by decide +kernel
theorem d_Lw_law_971 : decode code 971 = .ok (.iload 5, 2) := by decide +kernel
theorem d_Lw_law_973 : decode code 973 = .ok (.iconst 1, 1) := by decide +kernel
theorem d_Lw_law_974 : decode code 974 = .ok (.iadd, 1) := by decide +kernel
theorem d_Lw_law_975 : decode code 975 = .ok (.iaload, 1) := by decide +kernel
theorem d_Lw_law_976 : decode code 976 = .ok (.aload_n 3, 1) := by decide +kernel
theorem d_Lw_law_977 : decode code 977 = .ok (.invokestatic 223, 3) := by decide +kernel
theorem ok_Lw_law_Lw_shrunkAnew : z_okX M_Lw_law M_Lw_shrunkAnew 3 := ⟨z_mem (i := 908) (by decide +kernel) (by decide +kernel), by decide, ⟨by decide +kernel, by decide +kernel, by decide +kernel⟩, ⟨by decide, by decide⟩, z_mem (i := 57) (by decide +kernel) (by decide +kernel), rfl⟩
theorem ln_Lw_223 : Cond.methodLink "IronpourLaw" 223 M_Lw_shrunkAnew.1 ∈ z_gw := z_mem (i := 906) (by decide +kernel) (by decide +kernel)
theorem w_st_Lw_shrunkAnew : Cond.static M_Lw_shrunkAnew.1 ∈ z_gw := z_mem (i := 907) (by decide +kernel) (by decide +kernel)
theorem d_Lw_law_980 : decode code 980 = .ok (.istore 6, 2) := by decide +kernel
theorem d_Lw_law_982 : decode code 982 = .ok (.aload_n 2, 1) := by decide +kernel
theorem d_Lw_law_983 : decode code 983 = .ok (.aload_n 0, 1) := by decide +kernel
theorem d_Lw_law_984 : decode code 984 = .ok (.iload 5, 2) := by decide +kernel
theorem d_Lw_law_986 : decode code 986 = .ok (.iconst 1, 1) := by decide +kernel
theorem d_Lw_law_987 : decode code 987 = .ok (.iadd, 1) := by decide +kernel
theorem d_Lw_law_988 : decode code 988 = .ok (.iaload, 1) := by decide +kernel
theorem d_Lw_law_989 : decode code 989 = .ok (.invokevirtual 225, 3) := by decide +kernel
theorem ok_Lw_law_Mm_shrunkAnew : z_ok M_Lw_law M_Mm_shrunkAnew 1 := ⟨z_mem (i := 1817) (by decide +kernel) (by decide +kernel), rfl, ⟨by decide +kernel, by decide +kernel, by decide +kernel⟩, ⟨by decide, by decide⟩, z_mem (i := 71) (by decide +kernel) (by decide +kernel), rfl⟩
theorem ln_Lw_225 : Cond.methodLink "IronpourLaw" 225 M_Mm_shrunkAnew.1 ∈ z_gw := z_mem (i := 1814) (by decide +kernel) (by decide +kernel)
theorem w_im_Mm_shrunkAnew : Cond.instanceMethod M_Mm_shrunkAnew.1 ∈ z_gw := z_mem (i := 1815) (by decide +kernel) (by decide +kernel)
theorem w_se_Mm_shrunkAnew : Cond.selects M_Mm_shrunkAnew.1.cls M_Mm_shrunkAnew.1 M_Mm_shrunkAnew.1 ∈ z_gw := z_mem (i := 1816) (by decide +kernel) (by decide +kernel)
theorem d_Lw_law_992 : decode code 992 = .ok (.istore 7, 2) := by decide +kernel
theorem d_Lw_law_994 : decode code 994 = .ok (.aload_n 2, 1) := by decide +kernel
theorem d_Lw_law_995 : decode code 995 = .ok (.invokevirtual 175, 3) := by decide +kernel
theorem d_Lw_law_998 : decode code 998 = .ok (.iload 6, 2) := by decide +kernel
theorem d_Lw_law_1000 : decode code 1000 = .ok (.if_icmp .eq 5, 3) := by decide +kernel
theorem d_Lw_law_1005 : decode code 1005 = .ok (.iload 6, 2) := by decide +kernel
theorem d_Lw_law_1007 : decode code 1007 = .ok (.ifCond .ne 15, 3) := by decide +kernel
theorem d_Lw_law_1022 : decode code 1022 = .ok (.goto 1997, 3) := by decide +kernel
set_option maxHeartbeats 4000000 in
set_option maxRecDepth 100000 in
theorem LW_shrunkAnewE (g : zG) (a pa pa1 pa2 pa3 ta ta1 ta2 taz taz1 taz2 taz3 taz4 taz5 taz6 ta4 ta5 ta6 sa sa1 sa2 saz saz1 saz2 saz3 saz4 saz5 saz6 sa4 sa5 sa6 gs co co1 co2 co3 fu fub fubg fut1 fut2 fut3 la lab labg gy gyg du dug re wm ac m mp mf mh mn mt mz mc_ mq mgr ml mi mr mm mu mk mx o1 o2 : Nat) (hL : g.2.2 41 = 7) (hh : ¬ (1200 ≤ (zs g 1) ∧ (zs g 1) ≤ 1500)) (w0 : zW) (n : Nat) : DV g M_Lw_law (lwP) w0 n 969 [(5, .int 0), (4, .ref o2), (3, .ref o1), (2, .ref m), (1, .ref a), (0, .ref (g.2.2 40))] [] (lwCS g a pa pa1 pa2 pa3 ta ta1 ta2 taz taz1 taz2 taz3 taz4 taz5 taz6 ta4 ta5 ta6 sa sa1 sa2 saz saz1 saz2 saz3 saz4 saz5 saz6 sa4 sa5 sa6 gs co co1 co2 co3 fu fub fubg fut1 fut2 fut3 la lab labg gy gyg du dug re wm ac m mp mf mh mn mt mz mc_ mq mgr ml mi mr mm mu mk mx o1 o2) 100 1000 := by
  refine r_aload_n d_Lw_law_969 rfl 4 rfl ?_
  refine r_aload_n d_Lw_law_970 rfl 5 rfl ?_
  refine r_iload d_Lw_law_971 0 rfl ?_
  refine r_iconst d_Lw_law_973 (v := 1) (by decide) ?_
  refine r_iadd d_Lw_law_974 (v := 1) rfl ?_
  refine r_sld (v := zs g 1) d_Lw_law_975 (by rw [hL]; exact fun q => q.elim (by decide) (by decide)) rfl ?_
  refine r_aload_n d_Lw_law_976 rfl 2 rfl ?_
  refine r_callSX (As := [.ref a, .int (zs g 1), .ref o1]) (rest := []) (csC := [(a, .inr (11, [.ref pa, .ref ta, .ref sa, .ref gs, .ref co, .ref fu, .ref la, .ref gy, .ref du, .ref re, .ref wm, .ref ac])), (ta, .inr (10, [.ref ta1, .ref ta2, .ref taz, .ref ta4, .ref ta5, .ref ta6, .int zX0.1.2.2.1, .int zX0.1.2.2.2])), (ta1, .inl (1, 108, .inl zX0.1.1)), (ta2, .inl (0, 108, .inl zX0.1.2.1)), (taz, .inr (2, [.ref taz1, .ref taz2, .ref taz3, .ref taz4, .ref taz5, .ref taz6, .int zX0.2.1.1.1.2.2.2])), (taz1, .inl (0, 108, .inl zX0.2.1.1.1.1)), (taz2, .inl (0, 108, .inl zX0.2.1.1.2)), (taz3, .inl (0, 108, .inl zX0.2.1.1.1.2.1)), (taz4, .inl (0, 108, .inl zX0.2.1.1.1.2.2.1)), (taz5, .inl (0, 108, .inl zX0.2.1.2.1)), (taz6, .inl (0, 108, .inl zX0.2.1.2.2)), (ta4, .inl (2, 108, .inl zX0.2.2.1)), (ta5, .inl (2, 108, .inl zX0.2.2.2.1)), (ta6, .inl (0, 108, .inl (fun k => nI (zX0.2.2.2.2 k)))), (o1, .inl (3, 1, .inr (.inl (fun _ => 0))))]) (is := [0, 5, 6, 7, 8, 9, 10, 11, 12, 13, 14, 15, 16, 17, 69]) ln_Lw_223 w_st_Lw_shrunkAnew ok_Lw_law_Lw_shrunkAnew d_Lw_law_977 (C_Lw_shrunkAnewE g a pa ta sa gs co fu la gy du re wm ac ta1 ta2 taz taz1 taz2 taz3 taz4 taz5 taz6 ta4 ta5 ta6 zX0 (zs g 1) hh o1 (fun _ => 0)) rfl rfl (Nat.le_of_ble_eq_true rfl) rfl (by decide) (by omega) (by omega) (fun E cs1 hx => ?_) (fun v cs1 hx => ?_)
  · exact absurd hx.1 (by simp)
  · obtain ⟨e1, rfl⟩ := hx
    cases e1
    refine ⟨rfl, ?_⟩
    refine r_st (st2 := [.int 1]) rfl ?_
    refine r_istore (lv' := [(6, .int 1), (5, .int 0), (4, .ref o2), (3, .ref o1), (2, .ref m), (1, .ref a), (0, .ref (g.2.2 40))]) d_Lw_law_980 (by decide) rfl ?_
    refine r_aload_n d_Lw_law_982 rfl 4 rfl ?_
    refine r_aload_n d_Lw_law_983 rfl 6 rfl ?_
    refine r_iload d_Lw_law_984 1 rfl ?_
    refine r_iconst d_Lw_law_986 (v := 1) (by decide) ?_
    refine r_iadd d_Lw_law_987 (v := 1) rfl ?_
    refine r_sld (v := zs g 1) d_Lw_law_988 (by rw [hL]; exact fun q => q.elim (by decide) (by decide)) rfl ?_
    refine r_callV (As := [.int (zs g 1)]) (rest := []) (csC := [(m, .inr (12, [.int 0, .ref mp, .int 4, .ref mf, .ref mh, .ref mn, .ref mt, .ref mz, .ref mc_, .ref mq, .ref mgr, .int 80, .int 35, .int 30, .int 50, .int 0, .int 0, .ref ml, .ref mi, .ref mr, .int 0, .int 0, .int 0, .int (-1), .int 0, .ref mm, .ref mu, .ref mk, .ref mx, .long 0, .long 0])), (mp, .inl (1, 108, .inl zFP))]) (is := [52, 53]) (q0 := 52) rfl rfl ln_Lw_225 w_im_Mm_shrunkAnew w_se_Mm_shrunkAnew ok_Lw_law_Mm_shrunkAnew d_Lw_law_989 (C_Mm_shrunkAnewE g m mp mf mh mn mt mz mc_ mq mgr ml mi mr mm mu mk mx 0 4 80 35 30 50 0 0 0 0 0 (-1) 0 0 0 zFP (zs g 1) hh) rfl rfl (Nat.le_of_ble_eq_true rfl) rfl (by decide) (by omega) (by omega) (fun E cs1 hx => ?_) (fun v cs1 hx => ?_)
    · exact absurd hx.1 (by simp)
    · obtain ⟨e1, rfl⟩ := hx
      cases e1
      refine ⟨rfl, ?_⟩
      refine r_st (st2 := [.int 0]) rfl ?_
      refine r_istore (lv' := [(7, .int 0), (6, .int 1), (5, .int 0), (4, .ref o2), (3, .ref o1), (2, .ref m), (1, .ref a), (0, .ref (g.2.2 40))]) d_Lw_law_992 (by decide) rfl ?_
      refine r_aload_n d_Lw_law_994 rfl 5 rfl ?_
      refine r_callV (As := []) (rest := []) (csC := [(m, .inr (12, [.int 1, .ref mp, .int 4, .ref mf, .ref mh, .ref mn, .ref mt, .ref mz, .ref mc_, .ref mq, .ref mgr, .int 80, .int 35, .int 30, .int 50, .int 0, .int 0, .ref ml, .ref mi, .ref mr, .int 0, .int 0, .int 0, .int (-1), .int 0, .ref mm, .ref mu, .ref mk, .ref mx, .long 0, .long 0]))]) (is := [52]) (q0 := 52) rfl rfl ln_Lw_175 w_im_Mm_thrown w_se_Mm_thrown ok_Lw_law_Mm_thrown d_Lw_law_995 (C_Mm_thrown g m mp mf mh mn mt mz mc_ mq mgr ml mi mr mm mu mk mx 1 4 80 35 30 50 0 0 0 0 0 (-1) 0 0 0) rfl rfl (Nat.le_of_ble_eq_true rfl) rfl (by decide) (by omega) (by omega) (fun E cs1 hx => ?_) (fun v cs1 hx => ?_)
      · exact absurd hx.1 (by simp)
      · obtain ⟨e1, rfl⟩ := hx
        cases e1
        refine ⟨rfl, ?_⟩
        refine r_st (st2 := [.int 1]) rfl ?_
        refine r_iload d_Lw_law_998 1 rfl ?_
        refine r_icmp_eq (tgt := 1005) d_Lw_law_1000 (by decide) (fun c_1000 => ?_) (fun c_1000 => ?_)
        · refine r_iload d_Lw_law_1005 1 rfl ?_
          refine r_if_ne (tgt := 1022) d_Lw_law_1007 (by decide) (fun c_1007 => ?_) (fun c_1007 => ?_)
          · refine r_goto (tgt := 3019) d_Lw_law_1022 (by decide) ?_
            refine r_lv (lv' := [(5, .int 0), (0, .ref (g.2.2 40))]) [2, 7] rfl ?_
            exact LW_tail g _ hL _ _ w0 n
          · exact absurd c_1007 (by decide)
        · exact absurd c_1000 (by decide)
theorem d_Lw_law_1010 : decode code 1010 = .ok (.aload_n 3, 1) := by decide +kernel
theorem d_Lw_law_1011 : decode code 1011 = .ok (.iconst 0, 1) := by decide +kernel
theorem d_Lw_law_1012 : decode code 1012 = .ok (.laload, 1) := by decide +kernel
theorem d_Lw_law_1013 : decode code 1013 = .ok (.iload 7, 2) := by decide +kernel
theorem d_Lw_law_1015 : decode code 1015 = .ok (.i2l, 1) := by decide +kernel
theorem d_Lw_law_1016 : decode code 1016 = .ok (.lcmp, 1) := by decide +kernel
theorem d_Lw_law_1017 : decode code 1017 = .ok (.ifCond .eq 5, 3) := by decide +kernel
set_option maxHeartbeats 4000000 in
set_option maxRecDepth 100000 in
theorem LW_shrunkAnewN (g : zG) (a pa pa1 pa2 pa3 ta ta1 ta2 taz taz1 taz2 taz3 taz4 taz5 taz6 ta4 ta5 ta6 sa sa1 sa2 saz saz1 saz2 saz3 saz4 saz5 saz6 sa4 sa5 sa6 gs co co1 co2 co3 fu fub fubg fut1 fut2 fut3 la lab labg gy gyg du dug re wm ac m mp mf mh mn mt mz mc_ mq mgr ml mi mr mm mu mk mx o1 o2 : Nat) (hL : g.2.2 41 = 7) (hh : (1200 ≤ (zs g 1) ∧ (zs g 1) ≤ 1500)) (w0 : zW) (n : Nat) : DV g M_Lw_law (lwP) w0 n 969 [(5, .int 0), (4, .ref o2), (3, .ref o1), (2, .ref m), (1, .ref a), (0, .ref (g.2.2 40))] [] (lwCS g a pa pa1 pa2 pa3 ta ta1 ta2 taz taz1 taz2 taz3 taz4 taz5 taz6 ta4 ta5 ta6 sa sa1 sa2 saz saz1 saz2 saz3 saz4 saz5 saz6 sa4 sa5 sa6 gs co co1 co2 co3 fu fub fubg fut1 fut2 fut3 la lab labg gy gyg du dug re wm ac m mp mf mh mn mt mz mc_ mq mgr ml mi mr mm mu mk mx o1 o2) 100 1000 := by
  refine r_aload_n d_Lw_law_969 rfl 4 rfl ?_
  refine r_aload_n d_Lw_law_970 rfl 5 rfl ?_
  refine r_iload d_Lw_law_971 0 rfl ?_
  refine r_iconst d_Lw_law_973 (v := 1) (by decide) ?_
  refine r_iadd d_Lw_law_974 (v := 1) rfl ?_
  refine r_sld (v := zs g 1) d_Lw_law_975 (by rw [hL]; exact fun q => q.elim (by decide) (by decide)) rfl ?_
  refine r_aload_n d_Lw_law_976 rfl 2 rfl ?_
  refine r_callSX (As := [.ref a, .int (zs g 1), .ref o1]) (rest := []) (csC := [(a, .inr (11, [.ref pa, .ref ta, .ref sa, .ref gs, .ref co, .ref fu, .ref la, .ref gy, .ref du, .ref re, .ref wm, .ref ac])), (ta, .inr (10, [.ref ta1, .ref ta2, .ref taz, .ref ta4, .ref ta5, .ref ta6, .int zX0.1.2.2.1, .int zX0.1.2.2.2])), (ta1, .inl (1, 108, .inl zX0.1.1)), (ta2, .inl (0, 108, .inl zX0.1.2.1)), (taz, .inr (2, [.ref taz1, .ref taz2, .ref taz3, .ref taz4, .ref taz5, .ref taz6, .int zX0.2.1.1.1.2.2.2])), (taz1, .inl (0, 108, .inl zX0.2.1.1.1.1)), (taz2, .inl (0, 108, .inl zX0.2.1.1.2)), (taz3, .inl (0, 108, .inl zX0.2.1.1.1.2.1)), (taz4, .inl (0, 108, .inl zX0.2.1.1.1.2.2.1)), (taz5, .inl (0, 108, .inl zX0.2.1.2.1)), (taz6, .inl (0, 108, .inl zX0.2.1.2.2)), (ta4, .inl (2, 108, .inl zX0.2.2.1)), (ta5, .inl (2, 108, .inl zX0.2.2.2.1)), (ta6, .inl (0, 108, .inl (fun k => nI (zX0.2.2.2.2 k)))), (o1, .inl (3, 1, .inr (.inl (fun _ => 0))))]) (is := [0, 5, 6, 7, 8, 9, 10, 11, 12, 13, 14, 15, 16, 17, 69]) ln_Lw_223 w_st_Lw_shrunkAnew ok_Lw_law_Lw_shrunkAnew d_Lw_law_977 (C_Lw_shrunkAnewN g a pa ta sa gs co fu la gy du re wm ac ta1 ta2 taz taz1 taz2 taz3 taz4 taz5 taz6 ta4 ta5 ta6 zX0 (zs g 1) hh o1 (fun _ => 0)) rfl rfl (Nat.le_of_ble_eq_true rfl) rfl (by decide) (by omega) (by omega) (fun E cs1 hx => ?_) (fun v cs1 hx => ?_)
  · exact absurd hx.1 (by simp)
  · obtain ⟨e1, rfl⟩ := hx
    cases e1
    refine ⟨rfl, ?_⟩
    refine r_st (st2 := [.int 0]) rfl ?_
    refine r_istore (lv' := [(6, .int 0), (5, .int 0), (4, .ref o2), (3, .ref o1), (2, .ref m), (1, .ref a), (0, .ref (g.2.2 40))]) d_Lw_law_980 (by decide) rfl ?_
    refine r_aload_n d_Lw_law_982 rfl 4 rfl ?_
    refine r_aload_n d_Lw_law_983 rfl 6 rfl ?_
    refine r_iload d_Lw_law_984 1 rfl ?_
    refine r_iconst d_Lw_law_986 (v := 1) (by decide) ?_
    refine r_iadd d_Lw_law_987 (v := 1) rfl ?_
    refine r_sld (v := zs g 1) d_Lw_law_988 (by rw [hL]; exact fun q => q.elim (by decide) (by decide)) rfl ?_
    refine r_callV (As := [.int (zs g 1)]) (rest := []) (csC := [(m, .inr (12, [.int 0, .ref mp, .int 4, .ref mf, .ref mh, .ref mn, .ref mt, .ref mz, .ref mc_, .ref mq, .ref mgr, .int 80, .int 35, .int 30, .int 50, .int 0, .int 0, .ref ml, .ref mi, .ref mr, .int 0, .int 0, .int 0, .int (-1), .int 0, .ref mm, .ref mu, .ref mk, .ref mx, .long 0, .long 0])), (mp, .inl (1, 108, .inl zFP)), (mf, .inl (0, 108, .inl (fun _ => 0))), (mh, .inl (0, 108, .inl (fun _ => 0))), (mn, .inl (0, 108, .inl (fun _ => 0))), (mt, .inl (0, 108, .inl (fun _ => 0))), (mz, .inl (0, 108, .inl (fun _ => 0)))]) (is := [52, 53, 54, 55, 56, 57, 58]) (q0 := 52) rfl rfl ln_Lw_225 w_im_Mm_shrunkAnew w_se_Mm_shrunkAnew ok_Lw_law_Mm_shrunkAnew d_Lw_law_989 (C_Mm_shrunkAnew0 g m mp mf mh mn mt mz mc_ mq mgr ml mi mr mm mu mk mx 0 4 80 35 30 50 0 0 0 0 0 (-1) 0 0 0 zFP (fun _ => 0) (fun _ => 0) (fun _ => 0) (fun _ => 0) (fun _ => 0) (zs g 1) hh zFP_g zFP_at) rfl rfl (Nat.le_of_ble_eq_true rfl) rfl (by decide) (by omega) (by omega) (fun E cs1 hx => ?_) (fun v cs1 hx => ?_)
    · exact absurd hx.1 (by simp)
    · obtain ⟨e1, rfl⟩ := hx
      cases e1
      refine ⟨rfl, ?_⟩
      refine r_st (st2 := [.int 0]) rfl ?_
      refine r_istore (lv' := [(7, .int 0), (6, .int 0), (5, .int 0), (4, .ref o2), (3, .ref o1), (2, .ref m), (1, .ref a), (0, .ref (g.2.2 40))]) d_Lw_law_992 (by decide) rfl ?_
      refine r_aload_n d_Lw_law_994 rfl 5 rfl ?_
      refine r_callV (As := []) (rest := []) (csC := [(m, .inr (12, [.int 0, .ref mp, .int 4, .ref mf, .ref mh, .ref mn, .ref mt, .ref mz, .ref mc_, .ref mq, .ref mgr, .int 80, .int 35, .int 30, .int 50, .int 0, .int 0, .ref ml, .ref mi, .ref mr, .int 0, .int 0, .int 0, .int (-1), .int 0, .ref mm, .ref mu, .ref mk, .ref mx, .long 0, .long 0]))]) (is := [52]) (q0 := 52) rfl rfl ln_Lw_175 w_im_Mm_thrown w_se_Mm_thrown ok_Lw_law_Mm_thrown d_Lw_law_995 (C_Mm_thrown g m mp mf mh mn mt mz mc_ mq mgr ml mi mr mm mu mk mx 0 4 80 35 30 50 0 0 0 0 0 (-1) 0 0 0) rfl rfl (Nat.le_of_ble_eq_true rfl) rfl (by decide) (by omega) (by omega) (fun E cs1 hx => ?_) (fun v cs1 hx => ?_)
      · exact absurd hx.1 (by simp)
      · obtain ⟨e1, rfl⟩ := hx
        cases e1
        refine ⟨rfl, ?_⟩
        refine r_st (st2 := [.int 0]) rfl ?_
        refine r_iload d_Lw_law_998 1 rfl ?_
        refine r_icmp_eq (tgt := 1005) d_Lw_law_1000 (by decide) (fun c_1000 => ?_) (fun c_1000 => ?_)
        · refine r_iload d_Lw_law_1005 1 rfl ?_
          refine r_if_ne (tgt := 1022) d_Lw_law_1007 (by decide) (fun c_1007 => ?_) (fun c_1007 => ?_)
          · exact absurd c_1007 (by decide)
          · refine r_aload_n d_Lw_law_1010 rfl 4 rfl ?_
            refine r_iconst d_Lw_law_1011 (v := 0) (by decide) ?_
            refine r_lald d_Lw_law_1012 (q0 := 69) rfl (fun q => q.elim (by decide) (by decide)) (v := (vp_updL (fun _ => 0) 0 ((nI (cwX (frT (zs g 1) zX0)).2.2)).toInt64) 0) rfl ?_
            refine r_iload d_Lw_law_1013 0 rfl ?_
            refine r_i2l d_Lw_law_1015 (v := 0.toInt64) rfl ?_
            refine r_lcmp d_Lw_law_1016 (v := 0) (zl_cmp (by rw [sCW sX0 hh.1]; rfl)) ?_
            refine r_if_eq (tgt := 1022) d_Lw_law_1017 (by decide) (fun c_1017 => ?_) (fun c_1017 => ?_)
            · refine r_goto (tgt := 3019) d_Lw_law_1022 (by decide) ?_
              refine r_lv (lv' := [(5, .int 0), (0, .ref (g.2.2 40))]) [2, 7] rfl ?_
              exact LW_tail g _ hL _ _ w0 n
            · exact absurd c_1017 (by decide)
        · exact absurd c_1000 (by decide)
theorem d_Lw_law_1025 : decode code 1025 = .ok (.aload_n 1, 1) := by decide +kernel
theorem d_Lw_law_1026 : decode code 1026 = .ok (.aload_n 0, 1) := by decide +kernel
theorem d_Lw_law_1027 : decode code 1027 = .ok (.iload 5, 2) := by decide +kernel
theorem d_Lw_law_1029 : decode code 1029 = .ok (.iconst 1, 1) := by decide +kernel
theorem d_Lw_law_1030 : decode code 1030 = .ok (.iadd, 1) := by decide +kernel
theorem d_Lw_law_1031 : decode code 1031 = .ok (.iaload, 1) := by decide +kernel
theorem d_Lw_law_1032 : decode code 1032 = .ok (.aload_n 3, 1) := by decide +kernel
theorem d_Lw_law_1033 : decode code 1033 = .ok (.invokestatic 226, 3) := by decide +kernel
theorem ok_Lw_law_Lw_lastPlace : z_okX M_Lw_law M_Lw_lastPlace 3 := ⟨z_mem (i := 919) (by decide +kernel) (by decide +kernel), by decide, ⟨by decide +kernel, by decide +kernel, by decide +kernel⟩, ⟨by decide, by decide⟩, z_mem (i := 57) (by decide +kernel) (by decide +kernel), rfl⟩
theorem ln_Lw_226 : Cond.methodLink "IronpourLaw" 226 M_Lw_lastPlace.1 ∈ z_gw := z_mem (i := 917) (by decide +kernel) (by decide +kernel)
theorem w_st_Lw_lastPlace : Cond.static M_Lw_lastPlace.1 ∈ z_gw := z_mem (i := 918) (by decide +kernel) (by decide +kernel)
theorem d_Lw_law_1036 : decode code 1036 = .ok (.istore 6, 2) := by decide +kernel
theorem d_Lw_law_1038 : decode code 1038 = .ok (.aload_n 2, 1) := by decide +kernel
theorem d_Lw_law_1039 : decode code 1039 = .ok (.aload_n 0, 1) := by decide +kernel
theorem d_Lw_law_1040 : decode code 1040 = .ok (.iload 5, 2) := by decide +kernel
theorem d_Lw_law_1042 : decode code 1042 = .ok (.iconst 1, 1) := by decide +kernel
theorem d_Lw_law_1043 : decode code 1043 = .ok (.iadd, 1) := by decide +kernel
theorem d_Lw_law_1044 : decode code 1044 = .ok (.iaload, 1) := by decide +kernel
theorem d_Lw_law_1045 : decode code 1045 = .ok (.invokevirtual 228, 3) := by decide +kernel
theorem ok_Lw_law_Mm_lastPlace : z_ok M_Lw_law M_Mm_lastPlace 1 := ⟨z_mem (i := 1825) (by decide +kernel) (by decide +kernel), rfl, ⟨by decide +kernel, by decide +kernel, by decide +kernel⟩, ⟨by decide, by decide⟩, z_mem (i := 71) (by decide +kernel) (by decide +kernel), rfl⟩
theorem ln_Lw_228 : Cond.methodLink "IronpourLaw" 228 M_Mm_lastPlace.1 ∈ z_gw := z_mem (i := 1822) (by decide +kernel) (by decide +kernel)
theorem w_im_Mm_lastPlace : Cond.instanceMethod M_Mm_lastPlace.1 ∈ z_gw := z_mem (i := 1823) (by decide +kernel) (by decide +kernel)
theorem w_se_Mm_lastPlace : Cond.selects M_Mm_lastPlace.1.cls M_Mm_lastPlace.1 M_Mm_lastPlace.1 ∈ z_gw := z_mem (i := 1824) (by decide +kernel) (by decide +kernel)
theorem d_Lw_law_1048 : decode code 1048 = .ok (.istore 7, 2) := by decide +kernel
theorem d_Lw_law_1050 : decode code 1050 = .ok (.aload_n 2, 1) := by decide +kernel
theorem d_Lw_law_1051 : decode code 1051 = .ok (.invokevirtual 175, 3) := by decide +kernel
theorem d_Lw_law_1054 : decode code 1054 = .ok (.iload 6, 2) := by decide +kernel
theorem d_Lw_law_1056 : decode code 1056 = .ok (.if_icmp .eq 5, 3) := by decide +kernel
theorem d_Lw_law_1061 : decode code 1061 = .ok (.iload 6, 2) := by decide +kernel
theorem d_Lw_law_1063 : decode code 1063 = .ok (.ifCond .ne 15, 3) := by decide +kernel
theorem d_Lw_law_1078 : decode code 1078 = .ok (.goto 1941, 3) := by decide +kernel
set_option maxHeartbeats 4000000 in
set_option maxRecDepth 100000 in
theorem LW_lastPlaceE (g : zG) (a pa pa1 pa2 pa3 ta ta1 ta2 taz taz1 taz2 taz3 taz4 taz5 taz6 ta4 ta5 ta6 sa sa1 sa2 saz saz1 saz2 saz3 saz4 saz5 saz6 sa4 sa5 sa6 gs co co1 co2 co3 fu fub fubg fut1 fut2 fut3 la lab labg gy gyg du dug re wm ac m mp mf mh mn mt mz mc_ mq mgr ml mi mr mm mu mk mx o1 o2 : Nat) (hL : g.2.2 41 = 7) (hh : ¬ (1200 ≤ (zs g 1) ∧ (zs g 1) ≤ 1500)) (w0 : zW) (n : Nat) : DV g M_Lw_law (lwP) w0 n 1025 [(5, .int 0), (4, .ref o2), (3, .ref o1), (2, .ref m), (1, .ref a), (0, .ref (g.2.2 40))] [] (lwCS g a pa pa1 pa2 pa3 ta ta1 ta2 taz taz1 taz2 taz3 taz4 taz5 taz6 ta4 ta5 ta6 sa sa1 sa2 saz saz1 saz2 saz3 saz4 saz5 saz6 sa4 sa5 sa6 gs co co1 co2 co3 fu fub fubg fut1 fut2 fut3 la lab labg gy gyg du dug re wm ac m mp mf mh mn mt mz mc_ mq mgr ml mi mr mm mu mk mx o1 o2) 100 1000 := by
  refine r_aload_n d_Lw_law_1025 rfl 4 rfl ?_
  refine r_aload_n d_Lw_law_1026 rfl 5 rfl ?_
  refine r_iload d_Lw_law_1027 0 rfl ?_
  refine r_iconst d_Lw_law_1029 (v := 1) (by decide) ?_
  refine r_iadd d_Lw_law_1030 (v := 1) rfl ?_
  refine r_sld (v := zs g 1) d_Lw_law_1031 (by rw [hL]; exact fun q => q.elim (by decide) (by decide)) rfl ?_
  refine r_aload_n d_Lw_law_1032 rfl 2 rfl ?_
  refine r_callSX (As := [.ref a, .int (zs g 1), .ref o1]) (rest := []) (csC := [(a, .inr (11, [.ref pa, .ref ta, .ref sa, .ref gs, .ref co, .ref fu, .ref la, .ref gy, .ref du, .ref re, .ref wm, .ref ac])), (ta, .inr (10, [.ref ta1, .ref ta2, .ref taz, .ref ta4, .ref ta5, .ref ta6, .int zX0.1.2.2.1, .int zX0.1.2.2.2])), (ta1, .inl (1, 108, .inl zX0.1.1)), (ta2, .inl (0, 108, .inl zX0.1.2.1)), (taz, .inr (2, [.ref taz1, .ref taz2, .ref taz3, .ref taz4, .ref taz5, .ref taz6, .int zX0.2.1.1.1.2.2.2])), (taz1, .inl (0, 108, .inl zX0.2.1.1.1.1)), (taz2, .inl (0, 108, .inl zX0.2.1.1.2)), (taz3, .inl (0, 108, .inl zX0.2.1.1.1.2.1)), (taz4, .inl (0, 108, .inl zX0.2.1.1.1.2.2.1)), (taz5, .inl (0, 108, .inl zX0.2.1.2.1)), (taz6, .inl (0, 108, .inl zX0.2.1.2.2)), (ta4, .inl (2, 108, .inl zX0.2.2.1)), (ta5, .inl (2, 108, .inl zX0.2.2.2.1)), (ta6, .inl (0, 108, .inl (fun k => nI (zX0.2.2.2.2 k)))), (o1, .inl (3, 1, .inr (.inl (fun _ => 0))))]) (is := [0, 5, 6, 7, 8, 9, 10, 11, 12, 13, 14, 15, 16, 17, 69]) ln_Lw_226 w_st_Lw_lastPlace ok_Lw_law_Lw_lastPlace d_Lw_law_1033 (C_Lw_lastPlaceE g a pa ta sa gs co fu la gy du re wm ac ta1 ta2 taz taz1 taz2 taz3 taz4 taz5 taz6 ta4 ta5 ta6 zX0 (zs g 1) hh o1 (fun _ => 0)) rfl rfl (Nat.le_of_ble_eq_true rfl) rfl (by decide) (by omega) (by omega) (fun E cs1 hx => ?_) (fun v cs1 hx => ?_)
  · exact absurd hx.1 (by simp)
  · obtain ⟨e1, rfl⟩ := hx
    cases e1
    refine ⟨rfl, ?_⟩
    refine r_st (st2 := [.int 1]) rfl ?_
    refine r_istore (lv' := [(6, .int 1), (5, .int 0), (4, .ref o2), (3, .ref o1), (2, .ref m), (1, .ref a), (0, .ref (g.2.2 40))]) d_Lw_law_1036 (by decide) rfl ?_
    refine r_aload_n d_Lw_law_1038 rfl 4 rfl ?_
    refine r_aload_n d_Lw_law_1039 rfl 6 rfl ?_
    refine r_iload d_Lw_law_1040 1 rfl ?_
    refine r_iconst d_Lw_law_1042 (v := 1) (by decide) ?_
    refine r_iadd d_Lw_law_1043 (v := 1) rfl ?_
    refine r_sld (v := zs g 1) d_Lw_law_1044 (by rw [hL]; exact fun q => q.elim (by decide) (by decide)) rfl ?_
    refine r_callV (As := [.int (zs g 1)]) (rest := []) (csC := [(m, .inr (12, [.int 0, .ref mp, .int 4, .ref mf, .ref mh, .ref mn, .ref mt, .ref mz, .ref mc_, .ref mq, .ref mgr, .int 80, .int 35, .int 30, .int 50, .int 0, .int 0, .ref ml, .ref mi, .ref mr, .int 0, .int 0, .int 0, .int (-1), .int 0, .ref mm, .ref mu, .ref mk, .ref mx, .long 0, .long 0])), (mp, .inl (1, 108, .inl zFP))]) (is := [52, 53]) (q0 := 52) rfl rfl ln_Lw_228 w_im_Mm_lastPlace w_se_Mm_lastPlace ok_Lw_law_Mm_lastPlace d_Lw_law_1045 (C_Mm_lastPlaceE g m mp mf mh mn mt mz mc_ mq mgr ml mi mr mm mu mk mx 0 4 80 35 30 50 0 0 0 0 0 (-1) 0 0 0 zFP (zs g 1) hh) rfl rfl (Nat.le_of_ble_eq_true rfl) rfl (by decide) (by omega) (by omega) (fun E cs1 hx => ?_) (fun v cs1 hx => ?_)
    · exact absurd hx.1 (by simp)
    · obtain ⟨e1, rfl⟩ := hx
      cases e1
      refine ⟨rfl, ?_⟩
      refine r_st (st2 := [.int 0]) rfl ?_
      refine r_istore (lv' := [(7, .int 0), (6, .int 1), (5, .int 0), (4, .ref o2), (3, .ref o1), (2, .ref m), (1, .ref a), (0, .ref (g.2.2 40))]) d_Lw_law_1048 (by decide) rfl ?_
      refine r_aload_n d_Lw_law_1050 rfl 5 rfl ?_
      refine r_callV (As := []) (rest := []) (csC := [(m, .inr (12, [.int 1, .ref mp, .int 4, .ref mf, .ref mh, .ref mn, .ref mt, .ref mz, .ref mc_, .ref mq, .ref mgr, .int 80, .int 35, .int 30, .int 50, .int 0, .int 0, .ref ml, .ref mi, .ref mr, .int 0, .int 0, .int 0, .int (-1), .int 0, .ref mm, .ref mu, .ref mk, .ref mx, .long 0, .long 0]))]) (is := [52]) (q0 := 52) rfl rfl ln_Lw_175 w_im_Mm_thrown w_se_Mm_thrown ok_Lw_law_Mm_thrown d_Lw_law_1051 (C_Mm_thrown g m mp mf mh mn mt mz mc_ mq mgr ml mi mr mm mu mk mx 1 4 80 35 30 50 0 0 0 0 0 (-1) 0 0 0) rfl rfl (Nat.le_of_ble_eq_true rfl) rfl (by decide) (by omega) (by omega) (fun E cs1 hx => ?_) (fun v cs1 hx => ?_)
      · exact absurd hx.1 (by simp)
      · obtain ⟨e1, rfl⟩ := hx
        cases e1
        refine ⟨rfl, ?_⟩
        refine r_st (st2 := [.int 1]) rfl ?_
        refine r_iload d_Lw_law_1054 1 rfl ?_
        refine r_icmp_eq (tgt := 1061) d_Lw_law_1056 (by decide) (fun c_1056 => ?_) (fun c_1056 => ?_)
        · refine r_iload d_Lw_law_1061 1 rfl ?_
          refine r_if_ne (tgt := 1078) d_Lw_law_1063 (by decide) (fun c_1063 => ?_) (fun c_1063 => ?_)
          · refine r_goto (tgt := 3019) d_Lw_law_1078 (by decide) ?_
            refine r_lv (lv' := [(5, .int 0), (0, .ref (g.2.2 40))]) [2, 7] rfl ?_
            exact LW_tail g _ hL _ _ w0 n
          · exact absurd c_1063 (by decide)
        · exact absurd c_1056 (by decide)
set_option maxHeartbeats 4000000 in
set_option maxRecDepth 100000 in
theorem LW_lastPlaceF (g : zG) (a pa pa1 pa2 pa3 ta ta1 ta2 taz taz1 taz2 taz3 taz4 taz5 taz6 ta4 ta5 ta6 sa sa1 sa2 saz saz1 saz2 saz3 saz4 saz5 saz6 sa4 sa5 sa6 gs co co1 co2 co3 fu fub fubg fut1 fut2 fut3 la lab labg gy gyg du dug re wm ac m mp mf mh mn mt mz mc_ mq mgr ml mi mr mm mu mk mx o1 o2 : Nat) (hL : g.2.2 41 = 7) (hh : (1200 ≤ (zs g 1) ∧ (zs g 1) ≤ 1500)) (w0 : zW) (n : Nat) : DV g M_Lw_law (lwP) w0 n 1025 [(5, .int 0), (4, .ref o2), (3, .ref o1), (2, .ref m), (1, .ref a), (0, .ref (g.2.2 40))] [] (lwCS g a pa pa1 pa2 pa3 ta ta1 ta2 taz taz1 taz2 taz3 taz4 taz5 taz6 ta4 ta5 ta6 sa sa1 sa2 saz saz1 saz2 saz3 saz4 saz5 saz6 sa4 sa5 sa6 gs co co1 co2 co3 fu fub fubg fut1 fut2 fut3 la lab labg gy gyg du dug re wm ac m mp mf mh mn mt mz mc_ mq mgr ml mi mr mm mu mk mx o1 o2) 100 1000 := by
  refine r_aload_n d_Lw_law_1025 rfl 4 rfl ?_
  refine r_aload_n d_Lw_law_1026 rfl 5 rfl ?_
  refine r_iload d_Lw_law_1027 0 rfl ?_
  refine r_iconst d_Lw_law_1029 (v := 1) (by decide) ?_
  refine r_iadd d_Lw_law_1030 (v := 1) rfl ?_
  refine r_sld (v := zs g 1) d_Lw_law_1031 (by rw [hL]; exact fun q => q.elim (by decide) (by decide)) rfl ?_
  refine r_aload_n d_Lw_law_1032 rfl 2 rfl ?_
  refine r_callSX (As := [.ref a, .int (zs g 1), .ref o1]) (rest := []) (csC := [(a, .inr (11, [.ref pa, .ref ta, .ref sa, .ref gs, .ref co, .ref fu, .ref la, .ref gy, .ref du, .ref re, .ref wm, .ref ac])), (ta, .inr (10, [.ref ta1, .ref ta2, .ref taz, .ref ta4, .ref ta5, .ref ta6, .int zX0.1.2.2.1, .int zX0.1.2.2.2])), (ta1, .inl (1, 108, .inl zX0.1.1)), (ta2, .inl (0, 108, .inl zX0.1.2.1)), (taz, .inr (2, [.ref taz1, .ref taz2, .ref taz3, .ref taz4, .ref taz5, .ref taz6, .int zX0.2.1.1.1.2.2.2])), (taz1, .inl (0, 108, .inl zX0.2.1.1.1.1)), (taz2, .inl (0, 108, .inl zX0.2.1.1.2)), (taz3, .inl (0, 108, .inl zX0.2.1.1.1.2.1)), (taz4, .inl (0, 108, .inl zX0.2.1.1.1.2.2.1)), (taz5, .inl (0, 108, .inl zX0.2.1.2.1)), (taz6, .inl (0, 108, .inl zX0.2.1.2.2)), (ta4, .inl (2, 108, .inl zX0.2.2.1)), (ta5, .inl (2, 108, .inl zX0.2.2.2.1)), (ta6, .inl (0, 108, .inl (fun k => nI (zX0.2.2.2.2 k)))), (o1, .inl (3, 1, .inr (.inl (fun _ => 0))))]) (is := [0, 5, 6, 7, 8, 9, 10, 11, 12, 13, 14, 15, 16, 17, 69]) ln_Lw_226 w_st_Lw_lastPlace ok_Lw_law_Lw_lastPlace d_Lw_law_1033 (C_Lw_lastPlaceF g a pa ta sa gs co fu la gy du re wm ac ta1 ta2 taz taz1 taz2 taz3 taz4 taz5 taz6 ta4 ta5 ta6 zX0 (zs g 1) hh (sLF sX0 hh.1) o1 (fun _ => 0)) rfl rfl (Nat.le_of_ble_eq_true rfl) rfl (by decide) (by omega) (by omega) (fun E cs1 hx => ?_) (fun v cs1 hx => ?_)
  · exact absurd hx.1 (by simp)
  · obtain ⟨e1, rfl⟩ := hx
    cases e1
    refine ⟨rfl, ?_⟩
    refine r_st (st2 := [.int 2]) rfl ?_
    refine r_istore (lv' := [(6, .int 2), (5, .int 0), (4, .ref o2), (3, .ref o1), (2, .ref m), (1, .ref a), (0, .ref (g.2.2 40))]) d_Lw_law_1036 (by decide) rfl ?_
    refine r_aload_n d_Lw_law_1038 rfl 4 rfl ?_
    refine r_aload_n d_Lw_law_1039 rfl 6 rfl ?_
    refine r_iload d_Lw_law_1040 1 rfl ?_
    refine r_iconst d_Lw_law_1042 (v := 1) (by decide) ?_
    refine r_iadd d_Lw_law_1043 (v := 1) rfl ?_
    refine r_sld (v := zs g 1) d_Lw_law_1044 (by rw [hL]; exact fun q => q.elim (by decide) (by decide)) rfl ?_
    refine r_callV (As := [.int (zs g 1)]) (rest := []) (csC := [(m, .inr (12, [.int 0, .ref mp, .int 4, .ref mf, .ref mh, .ref mn, .ref mt, .ref mz, .ref mc_, .ref mq, .ref mgr, .int 80, .int 35, .int 30, .int 50, .int 0, .int 0, .ref ml, .ref mi, .ref mr, .int 0, .int 0, .int 0, .int (-1), .int 0, .ref mm, .ref mu, .ref mk, .ref mx, .long 0, .long 0])), (mp, .inl (1, 108, .inl zFP)), (mf, .inl (0, 108, .inl (fun _ => 0))), (mh, .inl (0, 108, .inl (fun _ => 0))), (mn, .inl (0, 108, .inl (fun _ => 0))), (mt, .inl (0, 108, .inl (fun _ => 0))), (mz, .inl (0, 108, .inl (fun _ => 0)))]) (is := [52, 53, 54, 55, 56, 57, 58]) (q0 := 52) rfl rfl ln_Lw_228 w_im_Mm_lastPlace w_se_Mm_lastPlace ok_Lw_law_Mm_lastPlace d_Lw_law_1045 (C_Mm_lastPlace0 g m mp mf mh mn mt mz mc_ mq mgr ml mi mr mm mu mk mx 0 4 80 35 30 50 0 0 0 0 0 (-1) 0 0 0 zFP (fun _ => 0) (fun _ => 0) (fun _ => 0) (fun _ => 0) (fun _ => 0) (zs g 1) hh zFP_g zFP_at) rfl rfl (Nat.le_of_ble_eq_true rfl) rfl (by decide) (by omega) (by omega) (fun E cs1 hx => ?_) (fun v cs1 hx => ?_)
    · exact absurd hx.1 (by simp)
    · obtain ⟨e1, rfl⟩ := hx
      cases e1
      refine ⟨rfl, ?_⟩
      refine r_st (st2 := [.int 0]) rfl ?_
      refine r_istore (lv' := [(7, .int 0), (6, .int 2), (5, .int 0), (4, .ref o2), (3, .ref o1), (2, .ref m), (1, .ref a), (0, .ref (g.2.2 40))]) d_Lw_law_1048 (by decide) rfl ?_
      refine r_aload_n d_Lw_law_1050 rfl 5 rfl ?_
      refine r_callV (As := []) (rest := []) (csC := [(m, .inr (12, [.int 2, .ref mp, .int 4, .ref mf, .ref mh, .ref mn, .ref mt, .ref mz, .ref mc_, .ref mq, .ref mgr, .int 80, .int 35, .int 30, .int 50, .int 0, .int 0, .ref ml, .ref mi, .ref mr, .int 0, .int 0, .int 0, .int (-1), .int 0, .ref mm, .ref mu, .ref mk, .ref mx, .long 0, .long 0]))]) (is := [52]) (q0 := 52) rfl rfl ln_Lw_175 w_im_Mm_thrown w_se_Mm_thrown ok_Lw_law_Mm_thrown d_Lw_law_1051 (C_Mm_thrown g m mp mf mh mn mt mz mc_ mq mgr ml mi mr mm mu mk mx 2 4 80 35 30 50 0 0 0 0 0 (-1) 0 0 0) rfl rfl (Nat.le_of_ble_eq_true rfl) rfl (by decide) (by omega) (by omega) (fun E cs1 hx => ?_) (fun v cs1 hx => ?_)
      · exact absurd hx.1 (by simp)
      · obtain ⟨e1, rfl⟩ := hx
        cases e1
        refine ⟨rfl, ?_⟩
        refine r_st (st2 := [.int 2]) rfl ?_
        refine r_iload d_Lw_law_1054 1 rfl ?_
        refine r_icmp_eq (tgt := 1061) d_Lw_law_1056 (by decide) (fun c_1056 => ?_) (fun c_1056 => ?_)
        · refine r_iload d_Lw_law_1061 1 rfl ?_
          refine r_if_ne (tgt := 1078) d_Lw_law_1063 (by decide) (fun c_1063 => ?_) (fun c_1063 => ?_)
          · refine r_goto (tgt := 3019) d_Lw_law_1078 (by decide) ?_
            refine r_lv (lv' := [(5, .int 0), (0, .ref (g.2.2 40))]) [2, 7] rfl ?_
            exact LW_tail g _ hL _ _ w0 n
          · exact absurd c_1063 (by decide)
        · exact absurd c_1056 (by decide)
theorem d_Lw_law_1081 : decode code 1081 = .ok (.aload_n 1, 1) := by decide +kernel
theorem d_Lw_law_1082 : decode code 1082 = .ok (.aload_n 0, 1) := by decide +kernel
theorem d_Lw_law_1083 : decode code 1083 = .ok (.iload 5, 2) := by decide +kernel
theorem d_Lw_law_1085 : decode code 1085 = .ok (.iconst 1, 1) := by decide +kernel
theorem d_Lw_law_1086 : decode code 1086 = .ok (.iadd, 1) := by decide +kernel
theorem d_Lw_law_1087 : decode code 1087 = .ok (.iaload, 1) := by decide +kernel
theorem d_Lw_law_1088 : decode code 1088 = .ok (.aload_n 3, 1) := by decide +kernel
theorem d_Lw_law_1089 : decode code 1089 = .ok (.invokestatic 229, 3) := by decide +kernel
theorem ok_Lw_law_Lw_bestFeeder : z_okX M_Lw_law M_Lw_bestFeeder 3 := ⟨z_mem (i := 931) (by decide +kernel) (by decide +kernel), by decide, ⟨by decide +kernel, by decide +kernel, by decide +kernel⟩, ⟨by decide, by decide⟩, z_mem (i := 57) (by decide +kernel) (by decide +kernel), rfl⟩
theorem ln_Lw_229 : Cond.methodLink "IronpourLaw" 229 M_Lw_bestFeeder.1 ∈ z_gw := z_mem (i := 929) (by decide +kernel) (by decide +kernel)
theorem w_st_Lw_bestFeeder : Cond.static M_Lw_bestFeeder.1 ∈ z_gw := z_mem (i := 930) (by decide +kernel) (by decide +kernel)
theorem d_Lw_law_1092 : decode code 1092 = .ok (.istore 6, 2) := by decide +kernel
theorem d_Lw_law_1094 : decode code 1094 = .ok (.aload_n 2, 1) := by decide +kernel
theorem d_Lw_law_1095 : decode code 1095 = .ok (.aload_n 0, 1) := by decide +kernel
theorem d_Lw_law_1096 : decode code 1096 = .ok (.iload 5, 2) := by decide +kernel
theorem d_Lw_law_1098 : decode code 1098 = .ok (.iconst 1, 1) := by decide +kernel
theorem d_Lw_law_1099 : decode code 1099 = .ok (.iadd, 1) := by decide +kernel
theorem d_Lw_law_1100 : decode code 1100 = .ok (.iaload, 1) := by decide +kernel
theorem d_Lw_law_1101 : decode code 1101 = .ok (.invokevirtual 231, 3) := by decide +kernel
theorem ok_Lw_law_Mm_bestFeeder : z_ok M_Lw_law M_Mm_bestFeeder 1 := ⟨z_mem (i := 1829) (by decide +kernel) (by decide +kernel), rfl, ⟨by decide +kernel, by decide +kernel, by decide +kernel⟩, ⟨by decide, by decide⟩, z_mem (i := 71) (by decide +kernel) (by decide +kernel), rfl⟩
theorem ln_Lw_231 : Cond.methodLink "IronpourLaw" 231 M_Mm_bestFeeder.1 ∈ z_gw := z_mem (i := 1826) (by decide +kernel) (by decide +kernel)
theorem w_im_Mm_bestFeeder : Cond.instanceMethod M_Mm_bestFeeder.1 ∈ z_gw := z_mem (i := 1827) (by decide +kernel) (by decide +kernel)
theorem w_se_Mm_bestFeeder : Cond.selects M_Mm_bestFeeder.1.cls M_Mm_bestFeeder.1 M_Mm_bestFeeder.1 ∈ z_gw := z_mem (i := 1828) (by decide +kernel) (by decide +kernel)
theorem d_Lw_law_1104 : decode code 1104 = .ok (.istore 7, 2) := by decide +kernel
theorem d_Lw_law_1106 : decode code 1106 = .ok (.aload_n 2, 1) := by decide +kernel
theorem d_Lw_law_1107 : decode code 1107 = .ok (.invokevirtual 175, 3) := by decide +kernel
theorem d_Lw_law_1110 : decode code 1110 = .ok (.iload 6, 2) := by decide +kernel
theorem d_Lw_law_1112 : decode code 1112 = .ok (.if_icmp .eq 5, 3) := by decide +kernel
theorem d_Lw_law_1117 : decode code 1117 = .ok (.iload 6, 2) := by decide +kernel
theorem d_Lw_law_1119 : decode code 1119 = .ok (.ifCond .ne 15, 3) := by decide +kernel
theorem d_Lw_law_1134 : decode code 1134 = .ok (.goto 1885, 3) := by decide +kernel
set_option maxHeartbeats 4000000 in
set_option maxRecDepth 100000 in
theorem LW_bestFeederE (g : zG) (a pa pa1 pa2 pa3 ta ta1 ta2 taz taz1 taz2 taz3 taz4 taz5 taz6 ta4 ta5 ta6 sa sa1 sa2 saz saz1 saz2 saz3 saz4 saz5 saz6 sa4 sa5 sa6 gs co co1 co2 co3 fu fub fubg fut1 fut2 fut3 la lab labg gy gyg du dug re wm ac m mp mf mh mn mt mz mc_ mq mgr ml mi mr mm mu mk mx o1 o2 : Nat) (hL : g.2.2 41 = 7) (hh : ¬ (1200 ≤ (zs g 1) ∧ (zs g 1) ≤ 1500)) (w0 : zW) (n : Nat) : DV g M_Lw_law (lwP) w0 n 1081 [(5, .int 0), (4, .ref o2), (3, .ref o1), (2, .ref m), (1, .ref a), (0, .ref (g.2.2 40))] [] (lwCS g a pa pa1 pa2 pa3 ta ta1 ta2 taz taz1 taz2 taz3 taz4 taz5 taz6 ta4 ta5 ta6 sa sa1 sa2 saz saz1 saz2 saz3 saz4 saz5 saz6 sa4 sa5 sa6 gs co co1 co2 co3 fu fub fubg fut1 fut2 fut3 la lab labg gy gyg du dug re wm ac m mp mf mh mn mt mz mc_ mq mgr ml mi mr mm mu mk mx o1 o2) 100 1000 := by
  refine r_aload_n d_Lw_law_1081 rfl 4 rfl ?_
  refine r_aload_n d_Lw_law_1082 rfl 5 rfl ?_
  refine r_iload d_Lw_law_1083 0 rfl ?_
  refine r_iconst d_Lw_law_1085 (v := 1) (by decide) ?_
  refine r_iadd d_Lw_law_1086 (v := 1) rfl ?_
  refine r_sld (v := zs g 1) d_Lw_law_1087 (by rw [hL]; exact fun q => q.elim (by decide) (by decide)) rfl ?_
  refine r_aload_n d_Lw_law_1088 rfl 2 rfl ?_
  refine r_callSX (As := [.ref a, .int (zs g 1), .ref o1]) (rest := []) (csC := [(a, .inr (11, [.ref pa, .ref ta, .ref sa, .ref gs, .ref co, .ref fu, .ref la, .ref gy, .ref du, .ref re, .ref wm, .ref ac])), (ta, .inr (10, [.ref ta1, .ref ta2, .ref taz, .ref ta4, .ref ta5, .ref ta6, .int zX0.1.2.2.1, .int zX0.1.2.2.2])), (ta1, .inl (1, 108, .inl zX0.1.1)), (ta2, .inl (0, 108, .inl zX0.1.2.1)), (taz, .inr (2, [.ref taz1, .ref taz2, .ref taz3, .ref taz4, .ref taz5, .ref taz6, .int zX0.2.1.1.1.2.2.2])), (taz1, .inl (0, 108, .inl zX0.2.1.1.1.1)), (taz2, .inl (0, 108, .inl zX0.2.1.1.2)), (taz3, .inl (0, 108, .inl zX0.2.1.1.1.2.1)), (taz4, .inl (0, 108, .inl zX0.2.1.1.1.2.2.1)), (taz5, .inl (0, 108, .inl zX0.2.1.2.1)), (taz6, .inl (0, 108, .inl zX0.2.1.2.2)), (ta4, .inl (2, 108, .inl zX0.2.2.1)), (ta5, .inl (2, 108, .inl zX0.2.2.2.1)), (ta6, .inl (0, 108, .inl (fun k => nI (zX0.2.2.2.2 k)))), (o1, .inl (3, 1, .inr (.inl (fun _ => 0))))]) (is := [0, 5, 6, 7, 8, 9, 10, 11, 12, 13, 14, 15, 16, 17, 69]) ln_Lw_229 w_st_Lw_bestFeeder ok_Lw_law_Lw_bestFeeder d_Lw_law_1089 (C_Lw_bestFeederE g a pa ta sa gs co fu la gy du re wm ac ta1 ta2 taz taz1 taz2 taz3 taz4 taz5 taz6 ta4 ta5 ta6 zX0 (zs g 1) hh o1 (fun _ => 0)) rfl rfl (Nat.le_of_ble_eq_true rfl) rfl (by decide) (by omega) (by omega) (fun E cs1 hx => ?_) (fun v cs1 hx => ?_)
  · exact absurd hx.1 (by simp)
  · obtain ⟨e1, rfl⟩ := hx
    cases e1
    refine ⟨rfl, ?_⟩
    refine r_st (st2 := [.int 1]) rfl ?_
    refine r_istore (lv' := [(6, .int 1), (5, .int 0), (4, .ref o2), (3, .ref o1), (2, .ref m), (1, .ref a), (0, .ref (g.2.2 40))]) d_Lw_law_1092 (by decide) rfl ?_
    refine r_aload_n d_Lw_law_1094 rfl 4 rfl ?_
    refine r_aload_n d_Lw_law_1095 rfl 6 rfl ?_
    refine r_iload d_Lw_law_1096 1 rfl ?_
    refine r_iconst d_Lw_law_1098 (v := 1) (by decide) ?_
    refine r_iadd d_Lw_law_1099 (v := 1) rfl ?_
    refine r_sld (v := zs g 1) d_Lw_law_1100 (by rw [hL]; exact fun q => q.elim (by decide) (by decide)) rfl ?_
    refine r_callV (As := [.int (zs g 1)]) (rest := []) (csC := [(m, .inr (12, [.int 0, .ref mp, .int 4, .ref mf, .ref mh, .ref mn, .ref mt, .ref mz, .ref mc_, .ref mq, .ref mgr, .int 80, .int 35, .int 30, .int 50, .int 0, .int 0, .ref ml, .ref mi, .ref mr, .int 0, .int 0, .int 0, .int (-1), .int 0, .ref mm, .ref mu, .ref mk, .ref mx, .long 0, .long 0])), (mp, .inl (1, 108, .inl zFP))]) (is := [52, 53]) (q0 := 52) rfl rfl ln_Lw_231 w_im_Mm_bestFeeder w_se_Mm_bestFeeder ok_Lw_law_Mm_bestFeeder d_Lw_law_1101 (C_Mm_bestFeederE g m mp mf mh mn mt mz mc_ mq mgr ml mi mr mm mu mk mx 0 4 80 35 30 50 0 0 0 0 0 (-1) 0 0 0 zFP (zs g 1) hh) rfl rfl (Nat.le_of_ble_eq_true rfl) rfl (by decide) (by omega) (by omega) (fun E cs1 hx => ?_) (fun v cs1 hx => ?_)
    · exact absurd hx.1 (by simp)
    · obtain ⟨e1, rfl⟩ := hx
      cases e1
      refine ⟨rfl, ?_⟩
      refine r_st (st2 := [.int 0]) rfl ?_
      refine r_istore (lv' := [(7, .int 0), (6, .int 1), (5, .int 0), (4, .ref o2), (3, .ref o1), (2, .ref m), (1, .ref a), (0, .ref (g.2.2 40))]) d_Lw_law_1104 (by decide) rfl ?_
      refine r_aload_n d_Lw_law_1106 rfl 5 rfl ?_
      refine r_callV (As := []) (rest := []) (csC := [(m, .inr (12, [.int 1, .ref mp, .int 4, .ref mf, .ref mh, .ref mn, .ref mt, .ref mz, .ref mc_, .ref mq, .ref mgr, .int 80, .int 35, .int 30, .int 50, .int 0, .int 0, .ref ml, .ref mi, .ref mr, .int 0, .int 0, .int 0, .int (-1), .int 0, .ref mm, .ref mu, .ref mk, .ref mx, .long 0, .long 0]))]) (is := [52]) (q0 := 52) rfl rfl ln_Lw_175 w_im_Mm_thrown w_se_Mm_thrown ok_Lw_law_Mm_thrown d_Lw_law_1107 (C_Mm_thrown g m mp mf mh mn mt mz mc_ mq mgr ml mi mr mm mu mk mx 1 4 80 35 30 50 0 0 0 0 0 (-1) 0 0 0) rfl rfl (Nat.le_of_ble_eq_true rfl) rfl (by decide) (by omega) (by omega) (fun E cs1 hx => ?_) (fun v cs1 hx => ?_)
      · exact absurd hx.1 (by simp)
      · obtain ⟨e1, rfl⟩ := hx
        cases e1
        refine ⟨rfl, ?_⟩
        refine r_st (st2 := [.int 1]) rfl ?_
        refine r_iload d_Lw_law_1110 1 rfl ?_
        refine r_icmp_eq (tgt := 1117) d_Lw_law_1112 (by decide) (fun c_1112 => ?_) (fun c_1112 => ?_)
        · refine r_iload d_Lw_law_1117 1 rfl ?_
          refine r_if_ne (tgt := 1134) d_Lw_law_1119 (by decide) (fun c_1119 => ?_) (fun c_1119 => ?_)
          · refine r_goto (tgt := 3019) d_Lw_law_1134 (by decide) ?_
            refine r_lv (lv' := [(5, .int 0), (0, .ref (g.2.2 40))]) [2, 7] rfl ?_
            exact LW_tail g _ hL _ _ w0 n
          · exact absurd c_1119 (by decide)
        · exact absurd c_1112 (by decide)
set_option maxHeartbeats 4000000 in
set_option maxRecDepth 100000 in
theorem LW_bestFeeder0 (g : zG) (a pa pa1 pa2 pa3 ta ta1 ta2 taz taz1 taz2 taz3 taz4 taz5 taz6 ta4 ta5 ta6 sa sa1 sa2 saz saz1 saz2 saz3 saz4 saz5 saz6 sa4 sa5 sa6 gs co co1 co2 co3 fu fub fubg fut1 fut2 fut3 la lab labg gy gyg du dug re wm ac m mp mf mh mn mt mz mc_ mq mgr ml mi mr mm mu mk mx o1 o2 : Nat) (hL : g.2.2 41 = 7) (hh : (1200 ≤ (zs g 1) ∧ (zs g 1) ≤ 1500)) (w0 : zW) (n : Nat) : DV g M_Lw_law (lwP) w0 n 1081 [(5, .int 0), (4, .ref o2), (3, .ref o1), (2, .ref m), (1, .ref a), (0, .ref (g.2.2 40))] [] (lwCS g a pa pa1 pa2 pa3 ta ta1 ta2 taz taz1 taz2 taz3 taz4 taz5 taz6 ta4 ta5 ta6 sa sa1 sa2 saz saz1 saz2 saz3 saz4 saz5 saz6 sa4 sa5 sa6 gs co co1 co2 co3 fu fub fubg fut1 fut2 fut3 la lab labg gy gyg du dug re wm ac m mp mf mh mn mt mz mc_ mq mgr ml mi mr mm mu mk mx o1 o2) 100 1000 := by
  refine r_aload_n d_Lw_law_1081 rfl 4 rfl ?_
  refine r_aload_n d_Lw_law_1082 rfl 5 rfl ?_
  refine r_iload d_Lw_law_1083 0 rfl ?_
  refine r_iconst d_Lw_law_1085 (v := 1) (by decide) ?_
  refine r_iadd d_Lw_law_1086 (v := 1) rfl ?_
  refine r_sld (v := zs g 1) d_Lw_law_1087 (by rw [hL]; exact fun q => q.elim (by decide) (by decide)) rfl ?_
  refine r_aload_n d_Lw_law_1088 rfl 2 rfl ?_
  refine r_callSX (As := [.ref a, .int (zs g 1), .ref o1]) (rest := []) (csC := [(a, .inr (11, [.ref pa, .ref ta, .ref sa, .ref gs, .ref co, .ref fu, .ref la, .ref gy, .ref du, .ref re, .ref wm, .ref ac])), (ta, .inr (10, [.ref ta1, .ref ta2, .ref taz, .ref ta4, .ref ta5, .ref ta6, .int zX0.1.2.2.1, .int zX0.1.2.2.2])), (ta1, .inl (1, 108, .inl zX0.1.1)), (ta2, .inl (0, 108, .inl zX0.1.2.1)), (taz, .inr (2, [.ref taz1, .ref taz2, .ref taz3, .ref taz4, .ref taz5, .ref taz6, .int zX0.2.1.1.1.2.2.2])), (taz1, .inl (0, 108, .inl zX0.2.1.1.1.1)), (taz2, .inl (0, 108, .inl zX0.2.1.1.2)), (taz3, .inl (0, 108, .inl zX0.2.1.1.1.2.1)), (taz4, .inl (0, 108, .inl zX0.2.1.1.1.2.2.1)), (taz5, .inl (0, 108, .inl zX0.2.1.2.1)), (taz6, .inl (0, 108, .inl zX0.2.1.2.2)), (ta4, .inl (2, 108, .inl zX0.2.2.1)), (ta5, .inl (2, 108, .inl zX0.2.2.2.1)), (ta6, .inl (0, 108, .inl (fun k => nI (zX0.2.2.2.2 k)))), (o1, .inl (3, 1, .inr (.inl (fun _ => 0))))]) (is := [0, 5, 6, 7, 8, 9, 10, 11, 12, 13, 14, 15, 16, 17, 69]) ln_Lw_229 w_st_Lw_bestFeeder ok_Lw_law_Lw_bestFeeder d_Lw_law_1089 (C_Lw_bestFeeder0 g a pa ta sa gs co fu la gy du re wm ac ta1 ta2 taz taz1 taz2 taz3 taz4 taz5 taz6 ta4 ta5 ta6 zX0 (zs g 1) hh (sSH sX0 hh.1) o1 (fun _ => 0)) rfl rfl (Nat.le_of_ble_eq_true rfl) rfl (by decide) (by omega) (by omega) (fun E cs1 hx => ?_) (fun v cs1 hx => ?_)
  · exact absurd hx.1 (by simp)
  · obtain ⟨e1, rfl⟩ := hx
    cases e1
    refine ⟨rfl, ?_⟩
    refine r_st (st2 := [.int 2]) rfl ?_
    refine r_istore (lv' := [(6, .int 2), (5, .int 0), (4, .ref o2), (3, .ref o1), (2, .ref m), (1, .ref a), (0, .ref (g.2.2 40))]) d_Lw_law_1092 (by decide) rfl ?_
    refine r_aload_n d_Lw_law_1094 rfl 4 rfl ?_
    refine r_aload_n d_Lw_law_1095 rfl 6 rfl ?_
    refine r_iload d_Lw_law_1096 1 rfl ?_
    refine r_iconst d_Lw_law_1098 (v := 1) (by decide) ?_
    refine r_iadd d_Lw_law_1099 (v := 1) rfl ?_
    refine r_sld (v := zs g 1) d_Lw_law_1100 (by rw [hL]; exact fun q => q.elim (by decide) (by decide)) rfl ?_
    refine r_callV (As := [.int (zs g 1)]) (rest := []) (csC := [(m, .inr (12, [.int 0, .ref mp, .int 4, .ref mf, .ref mh, .ref mn, .ref mt, .ref mz, .ref mc_, .ref mq, .ref mgr, .int 80, .int 35, .int 30, .int 50, .int 0, .int 0, .ref ml, .ref mi, .ref mr, .int 0, .int 0, .int 0, .int (-1), .int 0, .ref mm, .ref mu, .ref mk, .ref mx, .long 0, .long 0])), (mp, .inl (1, 108, .inl zFP)), (mf, .inl (0, 108, .inl (fun _ => 0))), (mh, .inl (0, 108, .inl (fun _ => 0))), (mn, .inl (0, 108, .inl (fun _ => 0))), (mt, .inl (0, 108, .inl (fun _ => 0))), (mz, .inl (0, 108, .inl (fun _ => 0))), (mc_, .inl (2, 108, .inl (fun _ => 0)))]) (is := [52, 53, 54, 55, 56, 57, 58, 59]) (q0 := 52) rfl rfl ln_Lw_231 w_im_Mm_bestFeeder w_se_Mm_bestFeeder ok_Lw_law_Mm_bestFeeder d_Lw_law_1101 (C_Mm_bestFeeder0 g m mp mf mh mn mt mz mc_ mq mgr ml mi mr mm mu mk mx 0 4 80 35 30 50 0 0 0 0 0 (-1) 0 0 0 zFP (fun _ => 0) (fun _ => 0) (fun _ => 0) (fun _ => 0) (fun _ => 0) (fun _ => 0) (zs g 1) hh zFP_g zFP_at) rfl rfl (Nat.le_of_ble_eq_true rfl) rfl (by decide) (by omega) (by omega) (fun E cs1 hx => ?_) (fun v cs1 hx => ?_)
    · exact absurd hx.1 (by simp)
    · obtain ⟨e1, rfl⟩ := hx
      cases e1
      refine ⟨rfl, ?_⟩
      refine r_st (st2 := [.int 0]) rfl ?_
      refine r_istore (lv' := [(7, .int 0), (6, .int 2), (5, .int 0), (4, .ref o2), (3, .ref o1), (2, .ref m), (1, .ref a), (0, .ref (g.2.2 40))]) d_Lw_law_1104 (by decide) rfl ?_
      refine r_aload_n d_Lw_law_1106 rfl 5 rfl ?_
      refine r_callV (As := []) (rest := []) (csC := [(m, .inr (12, [.int 2, .ref mp, .int 4, .ref mf, .ref mh, .ref mn, .ref mt, .ref mz, .ref mc_, .ref mq, .ref mgr, .int 80, .int 35, .int 30, .int 50, .int 0, .int 0, .ref ml, .ref mi, .ref mr, .int 0, .int 0, .int 0, .int (-1), .int 0, .ref mm, .ref mu, .ref mk, .ref mx, .long 0, .long 0]))]) (is := [52]) (q0 := 52) rfl rfl ln_Lw_175 w_im_Mm_thrown w_se_Mm_thrown ok_Lw_law_Mm_thrown d_Lw_law_1107 (C_Mm_thrown g m mp mf mh mn mt mz mc_ mq mgr ml mi mr mm mu mk mx 2 4 80 35 30 50 0 0 0 0 0 (-1) 0 0 0) rfl rfl (Nat.le_of_ble_eq_true rfl) rfl (by decide) (by omega) (by omega) (fun E cs1 hx => ?_) (fun v cs1 hx => ?_)
      · exact absurd hx.1 (by simp)
      · obtain ⟨e1, rfl⟩ := hx
        cases e1
        refine ⟨rfl, ?_⟩
        refine r_st (st2 := [.int 2]) rfl ?_
        refine r_iload d_Lw_law_1110 1 rfl ?_
        refine r_icmp_eq (tgt := 1117) d_Lw_law_1112 (by decide) (fun c_1112 => ?_) (fun c_1112 => ?_)
        · refine r_iload d_Lw_law_1117 1 rfl ?_
          refine r_if_ne (tgt := 1134) d_Lw_law_1119 (by decide) (fun c_1119 => ?_) (fun c_1119 => ?_)
          · refine r_goto (tgt := 3019) d_Lw_law_1134 (by decide) ?_
            refine r_lv (lv' := [(5, .int 0), (0, .ref (g.2.2 40))]) [2, 7] rfl ?_
            exact LW_tail g _ hL _ _ w0 n
          · exact absurd c_1119 (by decide)
        · exact absurd c_1112 (by decide)
theorem d_Lw_law_1137 : decode code 1137 = .ok (.aload_n 1, 1) := by decide +kernel
theorem d_Lw_law_1138 : decode code 1138 = .ok (.aload_n 0, 1) := by decide +kernel
theorem d_Lw_law_1139 : decode code 1139 = .ok (.iload 5, 2) := by decide +kernel
theorem d_Lw_law_1141 : decode code 1141 = .ok (.iconst 1, 1) := by decide +kernel
theorem d_Lw_law_1142 : decode code 1142 = .ok (.iadd, 1) := by decide +kernel
theorem d_Lw_law_1143 : decode code 1143 = .ok (.iaload, 1) := by decide +kernel
theorem d_Lw_law_1144 : decode code 1144 = .ok (.aload_n 0, 1) := by decide +kernel
theorem d_Lw_law_1145 : decode code 1145 = .ok (.iload 5, 2) := by decide +kernel
theorem d_Lw_law_1147 : decode code 1147 = .ok (.iconst 2, 1) := by decide +kernel
theorem d_Lw_law_1148 : decode code 1148 = .ok (.iadd, 1) := by decide +kernel
theorem d_Lw_law_1149 : decode code 1149 = .ok (.iaload, 1) := by decide +kernel
theorem d_Lw_law_1150 : decode code 1150 = .ok (.aload_n 0, 1) := by decide +kernel
theorem d_Lw_law_1151 : decode code 1151 = .ok (.iload 5, 2) := by decide +kernel
theorem d_Lw_law_1153 : decode code 1153 = .ok (.iconst 3, 1) := by decide +kernel
theorem d_Lw_law_1154 : decode code 1154 = .ok (.iadd, 1) := by decide +kernel
theorem d_Lw_law_1155 : decode code 1155 = .ok (.iaload, 1) := by decide +kernel
theorem d_Lw_law_1156 : decode code 1156 = .ok (.aload_n 0, 1) := by decide +kernel
theorem d_Lw_law_1157 : decode code 1157 = .ok (.iload 5, 2) := by decide +kernel
theorem d_Lw_law_1159 : decode code 1159 = .ok (.iconst 4, 1) := by decide +kernel
theorem d_Lw_law_1160 : decode code 1160 = .ok (.iadd, 1) := by decide +kernel
theorem d_Lw_law_1161 : decode code 1161 = .ok (.iaload, 1) := by decide +kernel
theorem d_Lw_law_1162 : decode code 1162 = .ok (.aload_n 3, 1) := by decide +kernel
theorem d_Lw_law_1163 : decode code 1163 = .ok (.invokestatic 232, 3) := by decide +kernel
theorem ok_Lw_law_Lw_mill : z_okX M_Lw_law M_Lw_mill 6 := ⟨z_mem (i := 947) (by decide +kernel) (by decide +kernel), by decide, ⟨by decide +kernel, by decide +kernel, by decide +kernel⟩, ⟨by decide, by decide⟩, z_mem (i := 57) (by decide +kernel) (by decide +kernel), rfl⟩
theorem ln_Lw_232 : Cond.methodLink "IronpourLaw" 232 M_Lw_mill.1 ∈ z_gw := z_mem (i := 945) (by decide +kernel) (by decide +kernel)
theorem w_st_Lw_mill : Cond.static M_Lw_mill.1 ∈ z_gw := z_mem (i := 946) (by decide +kernel) (by decide +kernel)
theorem d_Lw_law_1166 : decode code 1166 = .ok (.istore 6, 2) := by decide +kernel
theorem d_Lw_law_1168 : decode code 1168 = .ok (.aload_n 2, 1) := by decide +kernel
theorem d_Lw_law_1169 : decode code 1169 = .ok (.aload_n 0, 1) := by decide +kernel
theorem d_Lw_law_1170 : decode code 1170 = .ok (.iload 5, 2) := by decide +kernel
theorem d_Lw_law_1172 : decode code 1172 = .ok (.iconst 1, 1) := by decide +kernel
theorem d_Lw_law_1173 : decode code 1173 = .ok (.iadd, 1) := by decide +kernel
theorem d_Lw_law_1174 : decode code 1174 = .ok (.iaload, 1) := by decide +kernel
theorem d_Lw_law_1175 : decode code 1175 = .ok (.aload_n 0, 1) := by decide +kernel
theorem d_Lw_law_1176 : decode code 1176 = .ok (.iload 5, 2) := by decide +kernel
theorem d_Lw_law_1178 : decode code 1178 = .ok (.iconst 2, 1) := by decide +kernel
theorem d_Lw_law_1179 : decode code 1179 = .ok (.iadd, 1) := by decide +kernel
theorem d_Lw_law_1180 : decode code 1180 = .ok (.iaload, 1) := by decide +kernel
theorem d_Lw_law_1181 : decode code 1181 = .ok (.aload_n 0, 1) := by decide +kernel
theorem d_Lw_law_1182 : decode code 1182 = .ok (.iload 5, 2) := by decide +kernel
theorem d_Lw_law_1184 : decode code 1184 = .ok (.iconst 3, 1) := by decide +kernel
theorem d_Lw_law_1185 : decode code 1185 = .ok (.iadd, 1) := by decide +kernel
theorem d_Lw_law_1186 : decode code 1186 = .ok (.iaload, 1) := by decide +kernel
theorem d_Lw_law_1187 : decode code 1187 = .ok (.aload_n 0, 1) := by decide +kernel
theorem d_Lw_law_1188 : decode code 1188 = .ok (.iload 5, 2) := by decide +kernel
theorem d_Lw_law_1190 : decode code 1190 = .ok (.iconst 4, 1) := by decide +kernel
theorem d_Lw_law_1191 : decode code 1191 = .ok (.iadd, 1) := by decide +kernel
theorem d_Lw_law_1192 : decode code 1192 = .ok (.iaload, 1) := by decide +kernel
theorem d_Lw_law_1193 : decode code 1193 = .ok (.invokevirtual 234, 3) := by decide +kernel
theorem ok_Lw_law_Mm_mill : z_ok M_Lw_law M_Mm_mill 4 := ⟨z_mem (i := 1838) (by decide +kernel) (by decide +kernel), rfl, ⟨by decide +kernel, by decide +kernel, by decide +kernel⟩, ⟨by decide, by decide⟩, z_mem (i := 71) (by decide +kernel) (by decide +kernel), rfl⟩
theorem ln_Lw_234 : Cond.methodLink "IronpourLaw" 234 M_Mm_mill.1 ∈ z_gw := z_mem (i := 1835) (by decide +kernel) (by decide +kernel)
theorem w_im_Mm_mill : Cond.instanceMethod M_Mm_mill.1 ∈ z_gw := z_mem (i := 1836) (by decide +kernel) (by decide +kernel)
theorem w_se_Mm_mill : Cond.selects M_Mm_mill.1.cls M_Mm_mill.1 M_Mm_mill.1 ∈ z_gw := z_mem (i := 1837) (by decide +kernel) (by decide +kernel)
theorem d_Lw_law_1196 : decode code 1196 = .ok (.istore 7, 2) := by decide +kernel
theorem d_Lw_law_1198 : decode code 1198 = .ok (.aload_n 2, 1) := by decide +kernel
theorem d_Lw_law_1199 : decode code 1199 = .ok (.invokevirtual 175, 3) := by decide +kernel
theorem d_Lw_law_1202 : decode code 1202 = .ok (.iload 6, 2) := by decide +kernel
theorem d_Lw_law_1204 : decode code 1204 = .ok (.if_icmp .eq 5, 3) := by decide +kernel
theorem d_Lw_law_1209 : decode code 1209 = .ok (.iload 6, 2) := by decide +kernel
theorem d_Lw_law_1211 : decode code 1211 = .ok (.ifCond .ne 15, 3) := by decide +kernel
theorem d_Lw_law_1226 : decode code 1226 = .ok (.goto 1793, 3) := by decide +kernel
set_option maxHeartbeats 4000000 in
set_option maxRecDepth 100000 in
theorem LW_millE (g : zG) (a pa pa1 pa2 pa3 ta ta1 ta2 taz taz1 taz2 taz3 taz4 taz5 taz6 ta4 ta5 ta6 sa sa1 sa2 saz saz1 saz2 saz3 saz4 saz5 saz6 sa4 sa5 sa6 gs co co1 co2 co3 fu fub fubg fut1 fut2 fut3 la lab labg gy gyg du dug re wm ac m mp mf mh mn mt mz mc_ mq mgr ml mi mr mm mu mk mx o1 o2 : Nat) (hL : g.2.2 41 = 7) (hw : ¬ ((0 ≤ (zs g 1) ∧ (zs g 1) ≤ 20) ∧ (0 ≤ (zs g 2) ∧ (zs g 2) ≤ 20) ∧ (0 ≤ (zs g 3) ∧ (zs g 3) ≤ 20) ∧ (0 ≤ (zs g 4) ∧ (zs g 4) ≤ 50))) (w0 : zW) (n : Nat) : DV g M_Lw_law (lwP) w0 n 1137 [(5, .int 0), (4, .ref o2), (3, .ref o1), (2, .ref m), (1, .ref a), (0, .ref (g.2.2 40))] [] (lwCS g a pa pa1 pa2 pa3 ta ta1 ta2 taz taz1 taz2 taz3 taz4 taz5 taz6 ta4 ta5 ta6 sa sa1 sa2 saz saz1 saz2 saz3 saz4 saz5 saz6 sa4 sa5 sa6 gs co co1 co2 co3 fu fub fubg fut1 fut2 fut3 la lab labg gy gyg du dug re wm ac m mp mf mh mn mt mz mc_ mq mgr ml mi mr mm mu mk mx o1 o2) 100 1000 := by
  refine r_aload_n d_Lw_law_1137 rfl 4 rfl ?_
  refine r_aload_n d_Lw_law_1138 rfl 5 rfl ?_
  refine r_iload d_Lw_law_1139 0 rfl ?_
  refine r_iconst d_Lw_law_1141 (v := 1) (by decide) ?_
  refine r_iadd d_Lw_law_1142 (v := 1) rfl ?_
  refine r_sld (v := zs g 1) d_Lw_law_1143 (by rw [hL]; exact fun q => q.elim (by decide) (by decide)) rfl ?_
  refine r_aload_n d_Lw_law_1144 rfl 5 rfl ?_
  refine r_iload d_Lw_law_1145 0 rfl ?_
  refine r_iconst d_Lw_law_1147 (v := 2) (by decide) ?_
  refine r_iadd d_Lw_law_1148 (v := 2) rfl ?_
  refine r_sld (v := zs g 2) d_Lw_law_1149 (by rw [hL]; exact fun q => q.elim (by decide) (by decide)) rfl ?_
  refine r_aload_n d_Lw_law_1150 rfl 5 rfl ?_
  refine r_iload d_Lw_law_1151 0 rfl ?_
  refine r_iconst d_Lw_law_1153 (v := 3) (by decide) ?_
  refine r_iadd d_Lw_law_1154 (v := 3) rfl ?_
  refine r_sld (v := zs g 3) d_Lw_law_1155 (by rw [hL]; exact fun q => q.elim (by decide) (by decide)) rfl ?_
  refine r_aload_n d_Lw_law_1156 rfl 5 rfl ?_
  refine r_iload d_Lw_law_1157 0 rfl ?_
  refine r_iconst d_Lw_law_1159 (v := 4) (by decide) ?_
  refine r_iadd d_Lw_law_1160 (v := 4) rfl ?_
  refine r_sld (v := zs g 4) d_Lw_law_1161 (by rw [hL]; exact fun q => q.elim (by decide) (by decide)) rfl ?_
  refine r_aload_n d_Lw_law_1162 rfl 2 rfl ?_
  refine r_callSX (As := [.ref a, .int (zs g 1), .int (zs g 2), .int (zs g 3), .int (zs g 4), .ref o1]) (rest := []) (csC := [(a, .inr (11, [.ref pa, .ref ta, .ref sa, .ref gs, .ref co, .ref fu, .ref la, .ref gy, .ref du, .ref re, .ref wm, .ref ac])), (gs, .inr (4, [.int 80, .int 35, .int 30, .int 50, .int 0])), (o1, .inl (3, 1, .inr (.inl (fun _ => 0))))]) (is := [0, 31, 69]) ln_Lw_232 w_st_Lw_mill ok_Lw_law_Lw_mill d_Lw_law_1163 (C_Lw_millE g a pa ta sa gs co fu la gy du re wm ac 80 35 30 50 0 (zs g 1) (zs g 2) (zs g 3) (zs g 4) hw o1 (fun _ => 0)) rfl rfl (Nat.le_of_ble_eq_true rfl) rfl (by decide) (by omega) (by omega) (fun E cs1 hx => ?_) (fun v cs1 hx => ?_)
  · exact absurd hx.1 (by simp)
  · obtain ⟨e1, rfl⟩ := hx
    cases e1
    refine ⟨rfl, ?_⟩
    refine r_st (st2 := [.int 1]) rfl ?_
    refine r_istore (lv' := [(6, .int 1), (5, .int 0), (4, .ref o2), (3, .ref o1), (2, .ref m), (1, .ref a), (0, .ref (g.2.2 40))]) d_Lw_law_1166 (by decide) rfl ?_
    refine r_aload_n d_Lw_law_1168 rfl 4 rfl ?_
    refine r_aload_n d_Lw_law_1169 rfl 6 rfl ?_
    refine r_iload d_Lw_law_1170 1 rfl ?_
    refine r_iconst d_Lw_law_1172 (v := 1) (by decide) ?_
    refine r_iadd d_Lw_law_1173 (v := 1) rfl ?_
    refine r_sld (v := zs g 1) d_Lw_law_1174 (by rw [hL]; exact fun q => q.elim (by decide) (by decide)) rfl ?_
    refine r_aload_n d_Lw_law_1175 rfl 6 rfl ?_
    refine r_iload d_Lw_law_1176 1 rfl ?_
    refine r_iconst d_Lw_law_1178 (v := 2) (by decide) ?_
    refine r_iadd d_Lw_law_1179 (v := 2) rfl ?_
    refine r_sld (v := zs g 2) d_Lw_law_1180 (by rw [hL]; exact fun q => q.elim (by decide) (by decide)) rfl ?_
    refine r_aload_n d_Lw_law_1181 rfl 6 rfl ?_
    refine r_iload d_Lw_law_1182 1 rfl ?_
    refine r_iconst d_Lw_law_1184 (v := 3) (by decide) ?_
    refine r_iadd d_Lw_law_1185 (v := 3) rfl ?_
    refine r_sld (v := zs g 3) d_Lw_law_1186 (by rw [hL]; exact fun q => q.elim (by decide) (by decide)) rfl ?_
    refine r_aload_n d_Lw_law_1187 rfl 6 rfl ?_
    refine r_iload d_Lw_law_1188 1 rfl ?_
    refine r_iconst d_Lw_law_1190 (v := 4) (by decide) ?_
    refine r_iadd d_Lw_law_1191 (v := 4) rfl ?_
    refine r_sld (v := zs g 4) d_Lw_law_1192 (by rw [hL]; exact fun q => q.elim (by decide) (by decide)) rfl ?_
    refine r_callV (As := [.int (zs g 1), .int (zs g 2), .int (zs g 3), .int (zs g 4)]) (rest := []) (csC := [(m, .inr (12, [.int 0, .ref mp, .int 4, .ref mf, .ref mh, .ref mn, .ref mt, .ref mz, .ref mc_, .ref mq, .ref mgr, .int 80, .int 35, .int 30, .int 50, .int 0, .int 0, .ref ml, .ref mi, .ref mr, .int 0, .int 0, .int 0, .int (-1), .int 0, .ref mm, .ref mu, .ref mk, .ref mx, .long 0, .long 0]))]) (is := [52]) (q0 := 52) rfl rfl ln_Lw_234 w_im_Mm_mill w_se_Mm_mill ok_Lw_law_Mm_mill d_Lw_law_1193 (C_Mm_millE g m mp mf mh mn mt mz mc_ mq mgr ml mi mr mm mu mk mx 0 4 80 35 30 50 0 0 0 0 0 (-1) 0 0 0 (zs g 1) (zs g 2) (zs g 3) (zs g 4) hw) rfl rfl (Nat.le_of_ble_eq_true rfl) rfl (by decide) (by omega) (by omega) (fun E cs1 hx => ?_) (fun v cs1 hx => ?_)
    · exact absurd hx.1 (by simp)
    · obtain ⟨e1, rfl⟩ := hx
      cases e1
      refine ⟨rfl, ?_⟩
      refine r_st (st2 := [.int 0]) rfl ?_
      refine r_istore (lv' := [(7, .int 0), (6, .int 1), (5, .int 0), (4, .ref o2), (3, .ref o1), (2, .ref m), (1, .ref a), (0, .ref (g.2.2 40))]) d_Lw_law_1196 (by decide) rfl ?_
      refine r_aload_n d_Lw_law_1198 rfl 5 rfl ?_
      refine r_callV (As := []) (rest := []) (csC := [(m, .inr (12, [.int 1, .ref mp, .int 4, .ref mf, .ref mh, .ref mn, .ref mt, .ref mz, .ref mc_, .ref mq, .ref mgr, .int 80, .int 35, .int 30, .int 50, .int 0, .int 0, .ref ml, .ref mi, .ref mr, .int 0, .int 0, .int 0, .int (-1), .int 0, .ref mm, .ref mu, .ref mk, .ref mx, .long 0, .long 0]))]) (is := [52]) (q0 := 52) rfl rfl ln_Lw_175 w_im_Mm_thrown w_se_Mm_thrown ok_Lw_law_Mm_thrown d_Lw_law_1199 (C_Mm_thrown g m mp mf mh mn mt mz mc_ mq mgr ml mi mr mm mu mk mx 1 4 80 35 30 50 0 0 0 0 0 (-1) 0 0 0) rfl rfl (Nat.le_of_ble_eq_true rfl) rfl (by decide) (by omega) (by omega) (fun E cs1 hx => ?_) (fun v cs1 hx => ?_)
      · exact absurd hx.1 (by simp)
      · obtain ⟨e1, rfl⟩ := hx
        cases e1
        refine ⟨rfl, ?_⟩
        refine r_st (st2 := [.int 1]) rfl ?_
        refine r_iload d_Lw_law_1202 1 rfl ?_
        refine r_icmp_eq (tgt := 1209) d_Lw_law_1204 (by decide) (fun c_1204 => ?_) (fun c_1204 => ?_)
        · refine r_iload d_Lw_law_1209 1 rfl ?_
          refine r_if_ne (tgt := 1226) d_Lw_law_1211 (by decide) (fun c_1211 => ?_) (fun c_1211 => ?_)
          · refine r_goto (tgt := 3019) d_Lw_law_1226 (by decide) ?_
            refine r_lv (lv' := [(5, .int 0), (0, .ref (g.2.2 40))]) [2, 7] rfl ?_
            exact LW_tail g _ hL _ _ w0 n
          · exact absurd c_1211 (by decide)
        · exact absurd c_1204 (by decide)
