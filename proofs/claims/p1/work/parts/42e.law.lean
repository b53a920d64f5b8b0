theorem d_Lw_law_1819 : decode code 1819 = .ok (.aload_n 3, 1) := by decide +kernel
theorem d_Lw_law_1820 : decode code 1820 = .ok (.iconst 0, 1) := by decide +kernel
theorem d_Lw_law_1821 : decode code 1821 = .ok (.laload, 1) := by decide +kernel
theorem d_Lw_law_1822 : decode code 1822 = .ok (.iload 7, 2) := by decide +kernel
theorem d_Lw_law_1824 : decode code 1824 = .ok (.i2l, 1) := by decide +kernel
theorem d_Lw_law_1825 : decode code 1825 = .ok (.lcmp, 1) := by decide +kernel
theorem d_Lw_law_1826 : decode code 1826 = .ok (.ifCond .eq 5, 3) := by decide +kernel
set_option maxHeartbeats 4000000 in
set_option maxRecDepth 100000 in
theorem LW_ladle0 (g : zG) (a pa pa1 pa2 pa3 ta ta1 ta2 taz taz1 taz2 taz3 taz4 taz5 taz6 ta4 ta5 ta6 sa sa1 sa2 saz saz1 saz2 saz3 saz4 saz5 saz6 sa4 sa5 sa6 gs co co1 co2 co3 fu fub fubg fut1 fut2 fut3 la lab labg gy gyg du dug re wm ac m mp mf mh mn mt mz mc_ mq mgr ml mi mr mm mu mk mx o1 o2 : Nat) (hL : g.2.2 41 = 7) (hw : ¬ z_ix 3 (zc g 1) < 0) (w0 : zW) (n : Nat) : DV g M_Lw_law (lwP) w0 n 1776 [(5, .int 0), (4, .ref o2), (3, .ref o1), (2, .ref m), (1, .ref a), (0, .ref (g.2.2 40))] [] (lwCS g a pa pa1 pa2 pa3 ta ta1 ta2 taz taz1 taz2 taz3 taz4 taz5 taz6 ta4 ta5 ta6 sa sa1 sa2 saz saz1 saz2 saz3 saz4 saz5 saz6 sa4 sa5 sa6 gs co co1 co2 co3 fu fub fubg fut1 fut2 fut3 la lab labg gy gyg du dug re wm ac m mp mf mh mn mt mz mc_ mq mgr ml mi mr mm mu mk mx o1 o2) 100 1000 := by
  refine r_aload_n d_Lw_law_1776 rfl 4 rfl ?_
  refine r_aload_n d_Lw_law_1777 rfl 5 rfl ?_
  refine r_iload d_Lw_law_1778 0 rfl ?_
  refine r_iconst d_Lw_law_1780 (v := 1) (by decide) ?_
  refine r_iadd d_Lw_law_1781 (v := 1) rfl ?_
  refine r_sld (v := zs g 1) d_Lw_law_1782 (by rw [hL]; exact fun q => q.elim (by decide) (by decide)) rfl ?_
  refine r_i2c d_Lw_law_1783 (v := zc g 1) rfl ?_
  refine r_aload_n d_Lw_law_1784 rfl 2 rfl ?_
  refine r_callSX (As := [.ref a, .int (zc g 1), .ref o1]) (rest := []) (csC := [(a, .inr (11, [.ref pa, .ref ta, .ref sa, .ref gs, .ref co, .ref fu, .ref la, .ref gy, .ref du, .ref re, .ref wm, .ref ac])), (la, .inr (5, [.ref lab, .int 0, .int 0, .int 0])), (lab, .inr (6, [.ref labg, .int 0])), (labg, .inl (3, 4, .inr (.inl (fun _ => 0)))), (o1, .inl (3, 1, .inr (.inl (fun _ => 0))))]) (is := [0, 42, 43, 44, 69]) ln_Lw_268 w_st_Lw_ladle ok_Lw_law_Lw_ladle d_Lw_law_1785 (C_Lw_ladle0 g a pa ta sa gs co fu la gy du re wm ac lab labg (fun _ => 0) 0 0 0 0 (zc g 1) hw rfl o1 (fun _ => 0)) rfl rfl (Nat.le_of_ble_eq_true rfl) rfl (by decide) (by omega) (by omega) (fun E cs1 hx => ?_) (fun v cs1 hx => ?_)
  · exact absurd hx.1 (by simp)
  · obtain ⟨e1, rfl⟩ := hx
    cases e1
    refine ⟨rfl, ?_⟩
    refine r_st (st2 := [.int 0]) rfl ?_
    refine r_istore (lv' := [(6, .int 0), (5, .int 0), (4, .ref o2), (3, .ref o1), (2, .ref m), (1, .ref a), (0, .ref (g.2.2 40))]) d_Lw_law_1788 (by decide) rfl ?_
    refine r_aload_n d_Lw_law_1790 rfl 4 rfl ?_
    refine r_aload_n d_Lw_law_1791 rfl 6 rfl ?_
    refine r_iload d_Lw_law_1792 1 rfl ?_
    refine r_iconst d_Lw_law_1794 (v := 1) (by decide) ?_
    refine r_iadd d_Lw_law_1795 (v := 1) rfl ?_
    refine r_sld (v := zs g 1) d_Lw_law_1796 (by rw [hL]; exact fun q => q.elim (by decide) (by decide)) rfl ?_
    refine r_i2c d_Lw_law_1797 (v := zc g 1) rfl ?_
    refine r_callV (As := [.int (zc g 1)]) (rest := []) (csC := [(m, .inr (12, [.int 0, .ref mp, .int 4, .ref mf, .ref mh, .ref mn, .ref mt, .ref mz, .ref mc_, .ref mq, .ref mgr, .int 80, .int 35, .int 30, .int 50, .int 0, .int 0, .ref ml, .ref mi, .ref mr, .int 0, .int 0, .int 0, .int (-1), .int 0, .ref mm, .ref mu, .ref mk, .ref mx, .long 0, .long 0])), (mi, .inl (0, 4, .inl (fun _ => 0)))]) (is := [52, 63]) (q0 := 52) rfl rfl ln_Lw_270 w_im_Mm_ladle w_se_Mm_ladle ok_Lw_law_Mm_ladle d_Lw_law_1798 (C_Mm_ladle0 g m mp mf mh mn mt mz mc_ mq mgr ml mi mr mm mu mk mx 0 4 80 35 30 50 0 0 0 0 0 (-1) 0 0 0 (fun _ => 0) (zc g 1) hw rfl) rfl rfl (Nat.le_of_ble_eq_true rfl) rfl (by decide) (by omega) (by omega) (fun E cs1 hx => ?_) (fun v cs1 hx => ?_)
    · exact absurd hx.1 (by simp)
    · obtain ⟨e1, rfl⟩ := hx
      cases e1
      refine ⟨rfl, ?_⟩
      refine r_st (st2 := [.int 0]) rfl ?_
      refine r_istore (lv' := [(7, .int 0), (6, .int 0), (5, .int 0), (4, .ref o2), (3, .ref o1), (2, .ref m), (1, .ref a), (0, .ref (g.2.2 40))]) d_Lw_law_1801 (by decide) rfl ?_
      refine r_aload_n d_Lw_law_1803 rfl 5 rfl ?_
      refine r_callV (As := []) (rest := []) (csC := [(m, .inr (12, [.int 0, .ref mp, .int 4, .ref mf, .ref mh, .ref mn, .ref mt, .ref mz, .ref mc_, .ref mq, .ref mgr, .int 80, .int 35, .int 30, .int 50, .int 0, .int 0, .ref ml, .ref mi, .ref mr, .int 0, .int 0, .int 0, .int (-1), .int 0, .ref mm, .ref mu, .ref mk, .ref mx, .long 0, .long 0]))]) (is := [52]) (q0 := 52) rfl rfl ln_Lw_175 w_im_Mm_thrown w_se_Mm_thrown ok_Lw_law_Mm_thrown d_Lw_law_1804 (C_Mm_thrown g m mp mf mh mn mt mz mc_ mq mgr ml mi mr mm mu mk mx 0 4 80 35 30 50 0 0 0 0 0 (-1) 0 0 0) rfl rfl (Nat.le_of_ble_eq_true rfl) rfl (by decide) (by omega) (by omega) (fun E cs1 hx => ?_) (fun v cs1 hx => ?_)
      · exact absurd hx.1 (by simp)
      · obtain ⟨e1, rfl⟩ := hx
        cases e1
        refine ⟨rfl, ?_⟩
        refine r_st (st2 := [.int 0]) rfl ?_
        refine r_iload d_Lw_law_1807 1 rfl ?_
        refine r_icmp_eq (tgt := 1814) d_Lw_law_1809 (by decide) (fun c_1809 => ?_) (fun c_1809 => ?_)
        · refine r_iload d_Lw_law_1814 1 rfl ?_
          refine r_if_ne (tgt := 1831) d_Lw_law_1816 (by decide) (fun c_1816 => ?_) (fun c_1816 => ?_)
          · exact absurd c_1816 (by decide)
          · refine r_aload_n d_Lw_law_1819 rfl 4 rfl ?_
            refine r_iconst d_Lw_law_1820 (v := 0) (by decide) ?_
            refine r_lald d_Lw_law_1821 (q0 := 69) rfl (fun q => q.elim (by decide) (by decide)) (v := (vp_updL (fun _ => 0) 0 (0).toInt64) 0) rfl ?_
            refine r_iload d_Lw_law_1822 0 rfl ?_
            refine r_i2l d_Lw_law_1824 (v := 0.toInt64) rfl ?_
            refine r_lcmp d_Lw_law_1825 (v := 0) (zl_cmp (rfl)) ?_
            refine r_if_eq (tgt := 1831) d_Lw_law_1826 (by decide) (fun c_1826 => ?_) (fun c_1826 => ?_)
            · refine r_goto (tgt := 3019) d_Lw_law_1831 (by decide) ?_
              refine r_lv (lv' := [(5, .int 0), (0, .ref (g.2.2 40))]) [2, 7] rfl ?_
              exact LW_tail g _ hL _ _ w0 n
            · exact absurd c_1826 (by decide)
        · exact absurd c_1809 (by decide)
theorem d_Lw_law_1834 : decode code 1834 = .ok (.aload_n 1, 1) := by decide +kernel
theorem d_Lw_law_1835 : decode code 1835 = .ok (.aload_n 3, 1) := by decide +kernel
theorem d_Lw_law_1836 : decode code 1836 = .ok (.invokestatic 271, 3) := by decide +kernel
theorem ok_Lw_law_Lw_pig : z_okX M_Lw_law M_Lw_pig 2 := ⟨z_mem (i := 1174) (by decide +kernel) (by decide +kernel), by decide, ⟨by decide +kernel, by decide +kernel, by decide +kernel⟩, ⟨by decide, by decide⟩, z_mem (i := 57) (by decide +kernel) (by decide +kernel), rfl⟩
theorem ln_Lw_271 : Cond.methodLink "IronpourLaw" 271 M_Lw_pig.1 ∈ z_gw := z_mem (i := 1172) (by decide +kernel) (by decide +kernel)
theorem w_st_Lw_pig : Cond.static M_Lw_pig.1 ∈ z_gw := z_mem (i := 1173) (by decide +kernel) (by decide +kernel)
theorem d_Lw_law_1839 : decode code 1839 = .ok (.istore 6, 2) := by decide +kernel
theorem d_Lw_law_1841 : decode code 1841 = .ok (.aload_n 2, 1) := by decide +kernel
theorem d_Lw_law_1842 : decode code 1842 = .ok (.invokevirtual 273, 3) := by decide +kernel
theorem ok_Lw_law_Mm_pig : z_ok M_Lw_law M_Mm_pig 0 := ⟨z_mem (i := 1933) (by decide +kernel) (by decide +kernel), rfl, ⟨by decide +kernel, by decide +kernel, by decide +kernel⟩, ⟨by decide, by decide⟩, z_mem (i := 71) (by decide +kernel) (by decide +kernel), rfl⟩
theorem ln_Lw_273 : Cond.methodLink "IronpourLaw" 273 M_Mm_pig.1 ∈ z_gw := z_mem (i := 1930) (by decide +kernel) (by decide +kernel)
theorem w_im_Mm_pig : Cond.instanceMethod M_Mm_pig.1 ∈ z_gw := z_mem (i := 1931) (by decide +kernel) (by decide +kernel)
theorem w_se_Mm_pig : Cond.selects M_Mm_pig.1.cls M_Mm_pig.1 M_Mm_pig.1 ∈ z_gw := z_mem (i := 1932) (by decide +kernel) (by decide +kernel)
theorem d_Lw_law_1845 : decode code 1845 = .ok (.istore 7, 2) := by decide +kernel
theorem d_Lw_law_1847 : decode code 1847 = .ok (.aload_n 2, 1) := by decide +kernel
theorem d_Lw_law_1848 : decode code 1848 = .ok (.invokevirtual 175, 3) := by decide +kernel
theorem d_Lw_law_1851 : decode code 1851 = .ok (.iload 6, 2) := by decide +kernel
theorem d_Lw_law_1853 : decode code 1853 = .ok (.if_icmp .eq 5, 3) := by decide +kernel
theorem d_Lw_law_1858 : decode code 1858 = .ok (.iload 6, 2) := by decide +kernel
theorem d_Lw_law_1860 : decode code 1860 = .ok (.ifCond .ne 15, 3) := by decide +kernel
theorem d_Lw_law_1875 : decode code 1875 = .ok (.goto 1144, 3) := by decide +kernel
set_option maxHeartbeats 4000000 in
set_option maxRecDepth 100000 in
theorem LW_pigE (g : zG) (a pa pa1 pa2 pa3 ta ta1 ta2 taz taz1 taz2 taz3 taz4 taz5 taz6 ta4 ta5 ta6 sa sa1 sa2 saz saz1 saz2 saz3 saz4 saz5 saz6 sa4 sa5 sa6 gs co co1 co2 co3 fu fub fubg fut1 fut2 fut3 la lab labg gy gyg du dug re wm ac m mp mf mh mn mt mz mc_ mq mgr ml mi mr mm mu mk mx o1 o2 : Nat) (hL : g.2.2 41 = 7) (w0 : zW) (n : Nat) : DV g M_Lw_law (lwP) w0 n 1834 [(5, .int 0), (4, .ref o2), (3, .ref o1), (2, .ref m), (1, .ref a), (0, .ref (g.2.2 40))] [] (lwCS g a pa pa1 pa2 pa3 ta ta1 ta2 taz taz1 taz2 taz3 taz4 taz5 taz6 ta4 ta5 ta6 sa sa1 sa2 saz saz1 saz2 saz3 saz4 saz5 saz6 sa4 sa5 sa6 gs co co1 co2 co3 fu fub fubg fut1 fut2 fut3 la lab labg gy gyg du dug re wm ac m mp mf mh mn mt mz mc_ mq mgr ml mi mr mm mu mk mx o1 o2) 100 1000 := by
  refine r_aload_n d_Lw_law_1834 rfl 4 rfl ?_
  refine r_aload_n d_Lw_law_1835 rfl 2 rfl ?_
  refine r_callSX (As := [.ref a, .ref o1]) (rest := []) (csC := [(a, .inr (11, [.ref pa, .ref ta, .ref sa, .ref gs, .ref co, .ref fu, .ref la, .ref gy, .ref du, .ref re, .ref wm, .ref ac])), (la, .inr (5, [.ref lab, .int 0, .int 0, .int 0])), (lab, .inr (6, [.ref labg, .int 0])), (labg, .inl (3, 4, .inr (.inl (fun _ => 0)))), (gy, .inr (6, [.ref gyg, .int 0])), (gyg, .inl (3, 4, .inr (.inl (fun _ => 0)))), (du, .inr (6, [.ref dug, .int 0])), (dug, .inl (3, 4, .inr (.inl (fun _ => 0)))), (o1, .inl (3, 1, .inr (.inl (fun _ => 0))))]) (is := [0, 42, 43, 44, 45, 46, 47, 48, 69]) ln_Lw_271 w_st_Lw_pig ok_Lw_law_Lw_pig d_Lw_law_1836 (C_Lw_pigE g a pa ta sa gs co fu la gy du re wm ac lab labg gyg dug (fun _ => 0) (fun _ => 0) (fun _ => 0) 0 0 0 0 0 0 rfl o1 (fun _ => 0)) rfl rfl (Nat.le_of_ble_eq_true rfl) rfl (by decide) (by omega) (by omega) (fun E cs1 hx => ?_) (fun v cs1 hx => ?_)
  · exact absurd hx.1 (by simp)
  · obtain ⟨e1, rfl⟩ := hx
    cases e1
    refine ⟨rfl, ?_⟩
    refine r_st (st2 := [.int 1]) rfl ?_
    refine r_istore (lv' := [(6, .int 1), (5, .int 0), (4, .ref o2), (3, .ref o1), (2, .ref m), (1, .ref a), (0, .ref (g.2.2 40))]) d_Lw_law_1839 (by decide) rfl ?_
    refine r_aload_n d_Lw_law_1841 rfl 4 rfl ?_
    refine r_callV (As := []) (rest := []) (csC := [(m, .inr (12, [.int 0, .ref mp, .int 4, .ref mf, .ref mh, .ref mn, .ref mt, .ref mz, .ref mc_, .ref mq, .ref mgr, .int 80, .int 35, .int 30, .int 50, .int 0, .int 0, .ref ml, .ref mi, .ref mr, .int 0, .int 0, .int 0, .int (-1), .int 0, .ref mm, .ref mu, .ref mk, .ref mx, .long 0, .long 0])), (mi, .inl (0, 4, .inl (fun _ => 0)))]) (is := [52, 63]) (q0 := 52) rfl rfl ln_Lw_273 w_im_Mm_pig w_se_Mm_pig ok_Lw_law_Mm_pig d_Lw_law_1842 (C_Mm_pigE g m mp mf mh mn mt mz mc_ mq mgr ml mi mr mm mu mk mx 0 4 80 35 30 50 0 0 0 0 0 (-1) 0 0 0 (fun _ => 0) rfl) rfl rfl (Nat.le_of_ble_eq_true rfl) rfl (by decide) (by omega) (by omega) (fun E cs1 hx => ?_) (fun v cs1 hx => ?_)
    · exact absurd hx.1 (by simp)
    · obtain ⟨e1, rfl⟩ := hx
      cases e1
      refine ⟨rfl, ?_⟩
      refine r_st (st2 := [.int 0]) rfl ?_
      refine r_istore (lv' := [(7, .int 0), (6, .int 1), (5, .int 0), (4, .ref o2), (3, .ref o1), (2, .ref m), (1, .ref a), (0, .ref (g.2.2 40))]) d_Lw_law_1845 (by decide) rfl ?_
      refine r_aload_n d_Lw_law_1847 rfl 5 rfl ?_
      refine r_callV (As := []) (rest := []) (csC := [(m, .inr (12, [.int 1, .ref mp, .int 4, .ref mf, .ref mh, .ref mn, .ref mt, .ref mz, .ref mc_, .ref mq, .ref mgr, .int 80, .int 35, .int 30, .int 50, .int 0, .int 0, .ref ml, .ref mi, .ref mr, .int 0, .int 0, .int 0, .int (-1), .int 0, .ref mm, .ref mu, .ref mk, .ref mx, .long 0, .long 0]))]) (is := [52]) (q0 := 52) rfl rfl ln_Lw_175 w_im_Mm_thrown w_se_Mm_thrown ok_Lw_law_Mm_thrown d_Lw_law_1848 (C_Mm_thrown g m mp mf mh mn mt mz mc_ mq mgr ml mi mr mm mu mk mx 1 4 80 35 30 50 0 0 0 0 0 (-1) 0 0 0) rfl rfl (Nat.le_of_ble_eq_true rfl) rfl (by decide) (by omega) (by omega) (fun E cs1 hx => ?_) (fun v cs1 hx => ?_)
      · exact absurd hx.1 (by simp)
      · obtain ⟨e1, rfl⟩ := hx
        cases e1
        refine ⟨rfl, ?_⟩
        refine r_st (st2 := [.int 1]) rfl ?_
        refine r_iload d_Lw_law_1851 1 rfl ?_
        refine r_icmp_eq (tgt := 1858) d_Lw_law_1853 (by decide) (fun c_1853 => ?_) (fun c_1853 => ?_)
        · refine r_iload d_Lw_law_1858 1 rfl ?_
          refine r_if_ne (tgt := 1875) d_Lw_law_1860 (by decide) (fun c_1860 => ?_) (fun c_1860 => ?_)
          · refine r_goto (tgt := 3019) d_Lw_law_1875 (by decide) ?_
            refine r_lv (lv' := [(5, .int 0), (0, .ref (g.2.2 40))]) [2, 7] rfl ?_
            exact LW_tail g _ hL _ _ w0 n
          · exact absurd c_1860 (by decide)
        · exact absurd c_1853 (by decide)
theorem d_Lw_law_1878 : decode code 1878 = .ok (.aload_n 1, 1) := by decide +kernel
theorem d_Lw_law_1879 : decode code 1879 = .ok (.aload_n 0, 1) := by decide +kernel
theorem d_Lw_law_1880 : decode code 1880 = .ok (.iload 5, 2) := by decide +kernel
theorem d_Lw_law_1882 : decode code 1882 = .ok (.iconst 1, 1) := by decide +kernel
theorem d_Lw_law_1883 : decode code 1883 = .ok (.iadd, 1) := by decide +kernel
theorem d_Lw_law_1884 : decode code 1884 = .ok (.iaload, 1) := by decide +kernel
theorem d_Lw_law_1885 : decode code 1885 = .ok (.i2c, 1) := by decide +kernel
theorem d_Lw_law_1886 : decode code 1886 = .ok (.aload_n 3, 1) := by decide +kernel
theorem d_Lw_law_1887 : decode code 1887 = .ok (.invokestatic 274, 3) := by decide +kernel
theorem ok_Lw_law_Lw_pool : z_okX M_Lw_law M_Lw_pool 3 := ⟨z_mem (i := 1181) (by decide +kernel) (by decide +kernel), by decide, ⟨by decide +kernel, by decide +kernel, by decide +kernel⟩, ⟨by decide, by decide⟩, z_mem (i := 57) (by decide +kernel) (by decide +kernel), rfl⟩
theorem ln_Lw_274 : Cond.methodLink "IronpourLaw" 274 M_Lw_pool.1 ∈ z_gw := z_mem (i := 1179) (by decide +kernel) (by decide +kernel)
theorem w_st_Lw_pool : Cond.static M_Lw_pool.1 ∈ z_gw := z_mem (i := 1180) (by decide +kernel) (by decide +kernel)
theorem d_Lw_law_1890 : decode code 1890 = .ok (.istore 6, 2) := by decide +kernel
theorem d_Lw_law_1892 : decode code 1892 = .ok (.aload_n 2, 1) := by decide +kernel
theorem d_Lw_law_1893 : decode code 1893 = .ok (.aload_n 0, 1) := by decide +kernel
theorem d_Lw_law_1894 : decode code 1894 = .ok (.iload 5, 2) := by decide +kernel
theorem d_Lw_law_1896 : decode code 1896 = .ok (.iconst 1, 1) := by decide +kernel
theorem d_Lw_law_1897 : decode code 1897 = .ok (.iadd, 1) := by decide +kernel
theorem d_Lw_law_1898 : decode code 1898 = .ok (.iaload, 1) := by decide +kernel
theorem d_Lw_law_1899 : decode code 1899 = .ok (.i2c, 1) := by decide +kernel
theorem d_Lw_law_1900 : decode code 1900 = .ok (.invokevirtual 276, 3) := by decide +kernel
theorem ok_Lw_law_Mm_pool : z_ok M_Lw_law M_Mm_pool 1 := ⟨z_mem (i := 1937) (by decide +kernel) (by decide +kernel), rfl, ⟨by decide +kernel, by decide +kernel, by decide +kernel⟩, ⟨by decide, by decide⟩, z_mem (i := 71) (by decide +kernel) (by decide +kernel), rfl⟩
theorem ln_Lw_276 : Cond.methodLink "IronpourLaw" 276 M_Mm_pool.1 ∈ z_gw := z_mem (i := 1934) (by decide +kernel) (by decide +kernel)
theorem w_im_Mm_pool : Cond.instanceMethod M_Mm_pool.1 ∈ z_gw := z_mem (i := 1935) (by decide +kernel) (by decide +kernel)
theorem w_se_Mm_pool : Cond.selects M_Mm_pool.1.cls M_Mm_pool.1 M_Mm_pool.1 ∈ z_gw := z_mem (i := 1936) (by decide +kernel) (by decide +kernel)
theorem d_Lw_law_1903 : decode code 1903 = .ok (.istore 7, 2) := by decide +kernel
theorem d_Lw_law_1905 : decode code 1905 = .ok (.aload_n 2, 1) := by decide +kernel
theorem d_Lw_law_1906 : decode code 1906 = .ok (.invokevirtual 175, 3) := by decide +kernel
theorem d_Lw_law_1909 : decode code 1909 = .ok (.iload 6, 2) := by decide +kernel
theorem d_Lw_law_1911 : decode code 1911 = .ok (.if_icmp .eq 5, 3) := by decide +kernel
theorem d_Lw_law_1916 : decode code 1916 = .ok (.iload 6, 2) := by decide +kernel
theorem d_Lw_law_1918 : decode code 1918 = .ok (.ifCond .ne 15, 3) := by decide +kernel
theorem d_Lw_law_1933 : decode code 1933 = .ok (.goto 1086, 3) := by decide +kernel
set_option maxHeartbeats 4000000 in
set_option maxRecDepth 100000 in
theorem LW_poolE (g : zG) (a pa pa1 pa2 pa3 ta ta1 ta2 taz taz1 taz2 taz3 taz4 taz5 taz6 ta4 ta5 ta6 sa sa1 sa2 saz saz1 saz2 saz3 saz4 saz5 saz6 sa4 sa5 sa6 gs co co1 co2 co3 fu fub fubg fut1 fut2 fut3 la lab labg gy gyg du dug re wm ac m mp mf mh mn mt mz mc_ mq mgr ml mi mr mm mu mk mx o1 o2 : Nat) (hL : g.2.2 41 = 7) (h1 : ¬ (zc g 1) = 103) (h2 : ¬ (zc g 1) = 100) (w0 : zW) (n : Nat) : DV g M_Lw_law (lwP) w0 n 1878 [(5, .int 0), (4, .ref o2), (3, .ref o1), (2, .ref m), (1, .ref a), (0, .ref (g.2.2 40))] [] (lwCS g a pa pa1 pa2 pa3 ta ta1 ta2 taz taz1 taz2 taz3 taz4 taz5 taz6 ta4 ta5 ta6 sa sa1 sa2 saz saz1 saz2 saz3 saz4 saz5 saz6 sa4 sa5 sa6 gs co co1 co2 co3 fu fub fubg fut1 fut2 fut3 la lab labg gy gyg du dug re wm ac m mp mf mh mn mt mz mc_ mq mgr ml mi mr mm mu mk mx o1 o2) 100 1000 := by
  refine r_aload_n d_Lw_law_1878 rfl 4 rfl ?_
  refine r_aload_n d_Lw_law_1879 rfl 5 rfl ?_
  refine r_iload d_Lw_law_1880 0 rfl ?_
  refine r_iconst d_Lw_law_1882 (v := 1) (by decide) ?_
  refine r_iadd d_Lw_law_1883 (v := 1) rfl ?_
  refine r_sld (v := zs g 1) d_Lw_law_1884 (by rw [hL]; exact fun q => q.elim (by decide) (by decide)) rfl ?_
  refine r_i2c d_Lw_law_1885 (v := zc g 1) rfl ?_
  refine r_aload_n d_Lw_law_1886 rfl 2 rfl ?_
  refine r_callSX (As := [.ref a, .int (zc g 1), .ref o1]) (rest := []) (csC := [(a, .inr (11, [.ref pa, .ref ta, .ref sa, .ref gs, .ref co, .ref fu, .ref la, .ref gy, .ref du, .ref re, .ref wm, .ref ac])), (o1, .inl (3, 1, .inr (.inl (fun _ => 0))))]) (is := [0, 69]) ln_Lw_274 w_st_Lw_pool ok_Lw_law_Lw_pool d_Lw_law_1887 (C_Lw_poolE g a pa ta sa gs co fu la gy du re wm ac (zc g 1) h1 h2 o1 (fun _ => 0)) rfl rfl (Nat.le_of_ble_eq_true rfl) rfl (by decide) (by omega) (by omega) (fun E cs1 hx => ?_) (fun v cs1 hx => ?_)
  · exact absurd hx.1 (by simp)
  · obtain ⟨e1, rfl⟩ := hx
    cases e1
    refine ⟨rfl, ?_⟩
    refine r_st (st2 := [.int 1]) rfl ?_
    refine r_istore (lv' := [(6, .int 1), (5, .int 0), (4, .ref o2), (3, .ref o1), (2, .ref m), (1, .ref a), (0, .ref (g.2.2 40))]) d_Lw_law_1890 (by decide) rfl ?_
    refine r_aload_n d_Lw_law_1892 rfl 4 rfl ?_
    refine r_aload_n d_Lw_law_1893 rfl 6 rfl ?_
    refine r_iload d_Lw_law_1894 1 rfl ?_
    refine r_iconst d_Lw_law_1896 (v := 1) (by decide) ?_
    refine r_iadd d_Lw_law_1897 (v := 1) rfl ?_
    refine r_sld (v := zs g 1) d_Lw_law_1898 (by rw [hL]; exact fun q => q.elim (by decide) (by decide)) rfl ?_
    refine r_i2c d_Lw_law_1899 (v := zc g 1) rfl ?_
    refine r_callV (As := [.int (zc g 1)]) (rest := []) (csC := [(m, .inr (12, [.int 0, .ref mp, .int 4, .ref mf, .ref mh, .ref mn, .ref mt, .ref mz, .ref mc_, .ref mq, .ref mgr, .int 80, .int 35, .int 30, .int 50, .int 0, .int 0, .ref ml, .ref mi, .ref mr, .int 0, .int 0, .int 0, .int (-1), .int 0, .ref mm, .ref mu, .ref mk, .ref mx, .long 0, .long 0]))]) (is := [52]) (q0 := 52) rfl rfl ln_Lw_276 w_im_Mm_pool w_se_Mm_pool ok_Lw_law_Mm_pool d_Lw_law_1900 (C_Mm_poolE g m mp mf mh mn mt mz mc_ mq mgr ml mi mr mm mu mk mx 0 4 80 35 30 50 0 0 0 0 0 (-1) 0 0 0 (zc g 1) h1 h2) rfl rfl (Nat.le_of_ble_eq_true rfl) rfl (by decide) (by omega) (by omega) (fun E cs1 hx => ?_) (fun v cs1 hx => ?_)
    · exact absurd hx.1 (by simp)
    · obtain ⟨e1, rfl⟩ := hx
      cases e1
      refine ⟨rfl, ?_⟩
      refine r_st (st2 := [.int 0]) rfl ?_
      refine r_istore (lv' := [(7, .int 0), (6, .int 1), (5, .int 0), (4, .ref o2), (3, .ref o1), (2, .ref m), (1, .ref a), (0, .ref (g.2.2 40))]) d_Lw_law_1903 (by decide) rfl ?_
      refine r_aload_n d_Lw_law_1905 rfl 5 rfl ?_
      refine r_callV (As := []) (rest := []) (csC := [(m, .inr (12, [.int 1, .ref mp, .int 4, .ref mf, .ref mh, .ref mn, .ref mt, .ref mz, .ref mc_, .ref mq, .ref mgr, .int 80, .int 35, .int 30, .int 50, .int 0, .int 0, .ref ml, .ref mi, .ref mr, .int 0, .int 0, .int 0, .int (-1), .int 0, .ref mm, .ref mu, .ref mk, .ref mx, .long 0, .long 0]))]) (is := [52]) (q0 := 52) rfl rfl ln_Lw_175 w_im_Mm_thrown w_se_Mm_thrown ok_Lw_law_Mm_thrown d_Lw_law_1906 (C_Mm_thrown g m mp mf mh mn mt mz mc_ mq mgr ml mi mr mm mu mk mx 1 4 80 35 30 50 0 0 0 0 0 (-1) 0 0 0) rfl rfl (Nat.le_of_ble_eq_true rfl) rfl (by decide) (by omega) (by omega) (fun E cs1 hx => ?_) (fun v cs1 hx => ?_)
      · exact absurd hx.1 (by simp)
      · obtain ⟨e1, rfl⟩ := hx
        cases e1
        refine ⟨rfl, ?_⟩
        refine r_st (st2 := [.int 1]) rfl ?_
        refine r_iload d_Lw_law_1909 1 rfl ?_
        refine r_icmp_eq (tgt := 1916) d_Lw_law_1911 (by decide) (fun c_1911 => ?_) (fun c_1911 => ?_)
        · refine r_iload d_Lw_law_1916 1 rfl ?_
          refine r_if_ne (tgt := 1933) d_Lw_law_1918 (by decide) (fun c_1918 => ?_) (fun c_1918 => ?_)
          · refine r_goto (tgt := 3019) d_Lw_law_1933 (by decide) ?_
            refine r_lv (lv' := [(5, .int 0), (0, .ref (g.2.2 40))]) [2, 7] rfl ?_
            exact LW_tail g _ hL _ _ w0 n
          · exact absurd c_1918 (by decide)
        · exact absurd c_1911 (by decide)
theorem d_Lw_law_1936 : decode code 1936 = .ok (.aload_n 1, 1) := by decide +kernel
theorem d_Lw_law_1937 : decode code 1937 = .ok (.aload_n 0, 1) := by decide +kernel
theorem d_Lw_law_1938 : decode code 1938 = .ok (.iload 5, 2) := by decide +kernel
theorem d_Lw_law_1940 : decode code 1940 = .ok (.iconst 1, 1) := by decide +kernel
theorem d_Lw_law_1941 : decode code 1941 = .ok (.iadd, 1) := by decide +kernel
theorem d_Lw_law_1942 : decode code 1942 = .ok (.iaload, 1) := by decide +kernel
theorem d_Lw_law_1943 : decode code 1943 = .ok (.i2c, 1) := by decide +kernel
theorem d_Lw_law_1944 : decode code 1944 = .ok (.aload_n 0, 1) := by decide +kernel
theorem d_Lw_law_1945 : decode code 1945 = .ok (.iload 5, 2) := by decide +kernel
theorem d_Lw_law_1947 : decode code 1947 = .ok (.iconst 2, 1) := by decide +kernel
theorem d_Lw_law_1948 : decode code 1948 = .ok (.iadd, 1) := by decide +kernel
theorem d_Lw_law_1949 : decode code 1949 = .ok (.iaload, 1) := by decide +kernel
theorem d_Lw_law_1950 : decode code 1950 = .ok (.i2c, 1) := by decide +kernel
theorem d_Lw_law_1951 : decode code 1951 = .ok (.aload_n 3, 1) := by decide +kernel
theorem d_Lw_law_1952 : decode code 1952 = .ok (.invokestatic 277, 3) := by decide +kernel
theorem ok_Lw_law_Lw_poolHas : z_okX M_Lw_law M_Lw_poolHas 4 := ⟨z_mem (i := 1189) (by decide +kernel) (by decide +kernel), by decide, ⟨by decide +kernel, by decide +kernel, by decide +kernel⟩, ⟨by decide, by decide⟩, z_mem (i := 57) (by decide +kernel) (by decide +kernel), rfl⟩
theorem ln_Lw_277 : Cond.methodLink "IronpourLaw" 277 M_Lw_poolHas.1 ∈ z_gw := z_mem (i := 1187) (by decide +kernel) (by decide +kernel)
theorem w_st_Lw_poolHas : Cond.static M_Lw_poolHas.1 ∈ z_gw := z_mem (i := 1188) (by decide +kernel) (by decide +kernel)
theorem d_Lw_law_1955 : decode code 1955 = .ok (.istore 6, 2) := by decide +kernel
theorem d_Lw_law_1957 : decode code 1957 = .ok (.aload_n 2, 1) := by decide +kernel
theorem d_Lw_law_1958 : decode code 1958 = .ok (.aload_n 0, 1) := by decide +kernel
theorem d_Lw_law_1959 : decode code 1959 = .ok (.iload 5, 2) := by decide +kernel
theorem d_Lw_law_1961 : decode code 1961 = .ok (.iconst 1, 1) := by decide +kernel
theorem d_Lw_law_1962 : decode code 1962 = .ok (.iadd, 1) := by decide +kernel
theorem d_Lw_law_1963 : decode code 1963 = .ok (.iaload, 1) := by decide +kernel
theorem d_Lw_law_1964 : decode code 1964 = .ok (.i2c, 1) := by decide +kernel
theorem d_Lw_law_1965 : decode code 1965 = .ok (.aload_n 0, 1) := by decide +kernel
theorem d_Lw_law_1966 : decode code 1966 = .ok (.iload 5, 2) := by decide +kernel
theorem d_Lw_law_1968 : decode code 1968 = .ok (.iconst 2, 1) := by decide +kernel
theorem d_Lw_law_1969 : decode code 1969 = .ok (.iadd, 1) := by decide +kernel
theorem d_Lw_law_1970 : decode code 1970 = .ok (.iaload, 1) := by decide +kernel
theorem d_Lw_law_1971 : decode code 1971 = .ok (.i2c, 1) := by decide +kernel
theorem d_Lw_law_1972 : decode code 1972 = .ok (.invokevirtual 280, 3) := by decide +kernel
theorem ok_Lw_law_Mm_poolHas : z_ok M_Lw_law M_Mm_poolHas 2 := ⟨z_mem (i := 1944) (by decide +kernel) (by decide +kernel), rfl, ⟨by decide +kernel, by decide +kernel, by decide +kernel⟩, ⟨by decide, by decide⟩, z_mem (i := 71) (by decide +kernel) (by decide +kernel), rfl⟩
theorem ln_Lw_280 : Cond.methodLink "IronpourLaw" 280 M_Mm_poolHas.1 ∈ z_gw := z_mem (i := 1941) (by decide +kernel) (by decide +kernel)
theorem w_im_Mm_poolHas : Cond.instanceMethod M_Mm_poolHas.1 ∈ z_gw := z_mem (i := 1942) (by decide +kernel) (by decide +kernel)
theorem w_se_Mm_poolHas : Cond.selects M_Mm_poolHas.1.cls M_Mm_poolHas.1 M_Mm_poolHas.1 ∈ z_gw := z_mem (i := 1943) (by decide +kernel) (by decide +kernel)
theorem d_Lw_law_1975 : decode code 1975 = .ok (.istore 7, 2) := by decide +kernel
theorem d_Lw_law_1977 : decode code 1977 = .ok (.aload_n 2, 1) := by decide +kernel
theorem d_Lw_law_1978 : decode code 1978 = .ok (.invokevirtual 175, 3) := by decide +kernel
theorem d_Lw_law_1981 : decode code 1981 = .ok (.iload 6, 2) := by decide +kernel
theorem d_Lw_law_1983 : decode code 1983 = .ok (.if_icmp .eq 5, 3) := by decide +kernel
theorem d_Lw_law_1988 : decode code 1988 = .ok (.iload 6, 2) := by decide +kernel
theorem d_Lw_law_1990 : decode code 1990 = .ok (.ifCond .ne 15, 3) := by decide +kernel
theorem d_Lw_law_2005 : decode code 2005 = .ok (.goto 1014, 3) := by decide +kernel
set_option maxHeartbeats 4000000 in
set_option maxRecDepth 100000 in
theorem LW_poolHasE (g : zG) (a pa pa1 pa2 pa3 ta ta1 ta2 taz taz1 taz2 taz3 taz4 taz5 taz6 ta4 ta5 ta6 sa sa1 sa2 saz saz1 saz2 saz3 saz4 saz5 saz6 sa4 sa5 sa6 gs co co1 co2 co3 fu fub fubg fut1 fut2 fut3 la lab labg gy gyg du dug re wm ac m mp mf mh mn mt mz mc_ mq mgr ml mi mr mm mu mk mx o1 o2 : Nat) (hL : g.2.2 41 = 7) (h1 : ¬ (zc g 1) = 103) (h2 : ¬ (zc g 1) = 100) (w0 : zW) (n : Nat) : DV g M_Lw_law (lwP) w0 n 1936 [(5, .int 0), (4, .ref o2), (3, .ref o1), (2, .ref m), (1, .ref a), (0, .ref (g.2.2 40))] [] (lwCS g a pa pa1 pa2 pa3 ta ta1 ta2 taz taz1 taz2 taz3 taz4 taz5 taz6 ta4 ta5 ta6 sa sa1 sa2 saz saz1 saz2 saz3 saz4 saz5 saz6 sa4 sa5 sa6 gs co co1 co2 co3 fu fub fubg fut1 fut2 fut3 la lab labg gy gyg du dug re wm ac m mp mf mh mn mt mz mc_ mq mgr ml mi mr mm mu mk mx o1 o2) 100 1000 := by
  refine r_aload_n d_Lw_law_1936 rfl 4 rfl ?_
  refine r_aload_n d_Lw_law_1937 rfl 5 rfl ?_
  refine r_iload d_Lw_law_1938 0 rfl ?_
  refine r_iconst d_Lw_law_1940 (v := 1) (by decide) ?_
  refine r_iadd d_Lw_law_1941 (v := 1) rfl ?_
  refine r_sld (v := zs g 1) d_Lw_law_1942 (by rw [hL]; exact fun q => q.elim (by decide) (by decide)) rfl ?_
  refine r_i2c d_Lw_law_1943 (v := zc g 1) rfl ?_
  refine r_aload_n d_Lw_law_1944 rfl 5 rfl ?_
  refine r_iload d_Lw_law_1945 0 rfl ?_
  refine r_iconst d_Lw_law_1947 (v := 2) (by decide) ?_
  refine r_iadd d_Lw_law_1948 (v := 2) rfl ?_
  refine r_sld (v := zs g 2) d_Lw_law_1949 (by rw [hL]; exact fun q => q.elim (by decide) (by decide)) rfl ?_
  refine r_i2c d_Lw_law_1950 (v := zc g 2) rfl ?_
  refine r_aload_n d_Lw_law_1951 rfl 2 rfl ?_
  refine r_callSX (As := [.ref a, .int (zc g 1), .int (zc g 2), .ref o1]) (rest := []) (csC := [(a, .inr (11, [.ref pa, .ref ta, .ref sa, .ref gs, .ref co, .ref fu, .ref la, .ref gy, .ref du, .ref re, .ref wm, .ref ac])), (o1, .inl (3, 1, .inr (.inl (fun _ => 0))))]) (is := [0, 69]) ln_Lw_277 w_st_Lw_poolHas ok_Lw_law_Lw_poolHas d_Lw_law_1952 (C_Lw_poolHasE g a pa ta sa gs co fu la gy du re wm ac (zc g 1) (zc g 2) h1 h2 o1 (fun _ => 0)) rfl rfl (Nat.le_of_ble_eq_true rfl) rfl (by decide) (by omega) (by omega) (fun E cs1 hx => ?_) (fun v cs1 hx => ?_)
  · exact absurd hx.1 (by simp)
  · obtain ⟨e1, rfl⟩ := hx
    cases e1
    refine ⟨rfl, ?_⟩
    refine r_st (st2 := [.int 1]) rfl ?_
    refine r_istore (lv' := [(6, .int 1), (5, .int 0), (4, .ref o2), (3, .ref o1), (2, .ref m), (1, .ref a), (0, .ref (g.2.2 40))]) d_Lw_law_1955 (by decide) rfl ?_
    refine r_aload_n d_Lw_law_1957 rfl 4 rfl ?_
    refine r_aload_n d_Lw_law_1958 rfl 6 rfl ?_
    refine r_iload d_Lw_law_1959 1 rfl ?_
    refine r_iconst d_Lw_law_1961 (v := 1) (by decide) ?_
    refine r_iadd d_Lw_law_1962 (v := 1) rfl ?_
    refine r_sld (v := zs g 1) d_Lw_law_1963 (by rw [hL]; exact fun q => q.elim (by decide) (by decide)) rfl ?_
    refine r_i2c d_Lw_law_1964 (v := zc g 1) rfl ?_
    refine r_aload_n d_Lw_law_1965 rfl 6 rfl ?_
    refine r_iload d_Lw_law_1966 1 rfl ?_
    refine r_iconst d_Lw_law_1968 (v := 2) (by decide) ?_
    refine r_iadd d_Lw_law_1969 (v := 2) rfl ?_
    refine r_sld (v := zs g 2) d_Lw_law_1970 (by rw [hL]; exact fun q => q.elim (by decide) (by decide)) rfl ?_
    refine r_i2c d_Lw_law_1971 (v := zc g 2) rfl ?_
    refine r_callV (As := [.int (zc g 1), .int (zc g 2)]) (rest := []) (csC := [(m, .inr (12, [.int 0, .ref mp, .int 4, .ref mf, .ref mh, .ref mn, .ref mt, .ref mz, .ref mc_, .ref mq, .ref mgr, .int 80, .int 35, .int 30, .int 50, .int 0, .int 0, .ref ml, .ref mi, .ref mr, .int 0, .int 0, .int 0, .int (-1), .int 0, .ref mm, .ref mu, .ref mk, .ref mx, .long 0, .long 0]))]) (is := [52]) (q0 := 52) rfl rfl ln_Lw_280 w_im_Mm_poolHas w_se_Mm_poolHas ok_Lw_law_Mm_poolHas d_Lw_law_1972 (C_Mm_poolHasE g m mp mf mh mn mt mz mc_ mq mgr ml mi mr mm mu mk mx 0 4 80 35 30 50 0 0 0 0 0 (-1) 0 0 0 (zc g 1) (zc g 2) h1 h2) rfl rfl (Nat.le_of_ble_eq_true rfl) rfl (by decide) (by omega) (by omega) (fun E cs1 hx => ?_) (fun v cs1 hx => ?_)
    · exact absurd hx.1 (by simp)
    · obtain ⟨e1, rfl⟩ := hx
      cases e1
      refine ⟨rfl, ?_⟩
      refine r_st (st2 := [.int 0]) rfl ?_
      refine r_istore (lv' := [(7, .int 0), (6, .int 1), (5, .int 0), (4, .ref o2), (3, .ref o1), (2, .ref m), (1, .ref a), (0, .ref (g.2.2 40))]) d_Lw_law_1975 (by decide) rfl ?_
      refine r_aload_n d_Lw_law_1977 rfl 5 rfl ?_
      refine r_callV (As := []) (rest := []) (csC := [(m, .inr (12, [.int 1, .ref mp, .int 4, .ref mf, .ref mh, .ref mn, .ref mt, .ref mz, .ref mc_, .ref mq, .ref mgr, .int 80, .int 35, .int 30, .int 50, .int 0, .int 0, .ref ml, .ref mi, .ref mr, .int 0, .int 0, .int 0, .int (-1), .int 0, .ref mm, .ref mu, .ref mk, .ref mx, .long 0, .long 0]))]) (is := [52]) (q0 := 52) rfl rfl ln_Lw_175 w_im_Mm_thrown w_se_Mm_thrown ok_Lw_law_Mm_thrown d_Lw_law_1978 (C_Mm_thrown g m mp mf mh mn mt mz mc_ mq mgr ml mi mr mm mu mk mx 1 4 80 35 30 50 0 0 0 0 0 (-1) 0 0 0) rfl rfl (Nat.le_of_ble_eq_true rfl) rfl (by decide) (by omega) (by omega) (fun E cs1 hx => ?_) (fun v cs1 hx => ?_)
      · exact absurd hx.1 (by simp)
      · obtain ⟨e1, rfl⟩ := hx
        cases e1
        refine ⟨rfl, ?_⟩
        refine r_st (st2 := [.int 1]) rfl ?_
        refine r_iload d_Lw_law_1981 1 rfl ?_
        refine r_icmp_eq (tgt := 1988) d_Lw_law_1983 (by decide) (fun c_1983 => ?_) (fun c_1983 => ?_)
        · refine r_iload d_Lw_law_1988 1 rfl ?_
          refine r_if_ne (tgt := 2005) d_Lw_law_1990 (by decide) (fun c_1990 => ?_) (fun c_1990 => ?_)
          · refine r_goto (tgt := 3019) d_Lw_law_2005 (by decide) ?_
            refine r_lv (lv' := [(5, .int 0), (0, .ref (g.2.2 40))]) [2, 7] rfl ?_
            exact LW_tail g _ hL _ _ w0 n
          · exact absurd c_1990 (by decide)
        · exact absurd c_1983 (by decide)
theorem d_Lw_law_1921 : decode code 1921 = .ok (.aload_n 3, 1) := by decide +kernel
theorem d_Lw_law_1922 : decode code 1922 = .ok (.iconst 0, 1) := by decide +kernel
theorem d_Lw_law_1923 : decode code 1923 = .ok (.laload, 1) := by decide +kernel
theorem d_Lw_law_1924 : decode code 1924 = .ok (.iload 7, 2) := by decide +kernel
theorem d_Lw_law_1926 : decode code 1926 = .ok (.i2l, 1) := by decide +kernel
theorem d_Lw_law_1927 : decode code 1927 = .ok (.lcmp, 1) := by decide +kernel
theorem d_Lw_law_1928 : decode code 1928 = .ok (.ifCond .eq 5, 3) := by decide +kernel
set_option maxHeartbeats 4000000 in
set_option maxRecDepth 100000 in
theorem LW_pool103 (g : zG) (a pa pa1 pa2 pa3 ta ta1 ta2 taz taz1 taz2 taz3 taz4 taz5 taz6 ta4 ta5 ta6 sa sa1 sa2 saz saz1 saz2 saz3 saz4 saz5 saz6 sa4 sa5 sa6 gs co co1 co2 co3 fu fub fubg fut1 fut2 fut3 la lab labg gy gyg du dug re wm ac m mp mf mh mn mt mz mc_ mq mgr ml mi mr mm mu mk mx o1 o2 : Nat) (hL : g.2.2 41 = 7) (e1 : zc g 1 = 103) (w0 : zW) (n : Nat) : DV g M_Lw_law (lwP) w0 n 1878 [(5, .int 0), (4, .ref o2), (3, .ref o1), (2, .ref m), (1, .ref a), (0, .ref (g.2.2 40))] [] (lwCS g a pa pa1 pa2 pa3 ta ta1 ta2 taz taz1 taz2 taz3 taz4 taz5 taz6 ta4 ta5 ta6 sa sa1 sa2 saz saz1 saz2 saz3 saz4 saz5 saz6 sa4 sa5 sa6 gs co co1 co2 co3 fu fub fubg fut1 fut2 fut3 la lab labg gy gyg du dug re wm ac m mp mf mh mn mt mz mc_ mq mgr ml mi mr mm mu mk mx o1 o2) 100 1000 := by
  refine r_aload_n d_Lw_law_1878 rfl 4 rfl ?_
  refine r_aload_n d_Lw_law_1879 rfl 5 rfl ?_
  refine r_iload d_Lw_law_1880 0 rfl ?_
  refine r_iconst d_Lw_law_1882 (v := 1) (by decide) ?_
  refine r_iadd d_Lw_law_1883 (v := 1) rfl ?_
  refine r_sld (v := zs g 1) d_Lw_law_1884 (by rw [hL]; exact fun q => q.elim (by decide) (by decide)) rfl ?_
  refine r_i2c d_Lw_law_1885 (v := 103) e1 ?_
  refine r_aload_n d_Lw_law_1886 rfl 2 rfl ?_
  refine r_callSX (As := [.ref a, .int 103, .ref o1]) (rest := []) (csC := [(a, .inr (11, [.ref pa, .ref ta, .ref sa, .ref gs, .ref co, .ref fu, .ref la, .ref gy, .ref du, .ref re, .ref wm, .ref ac])), (gy, .inr (6, [.ref gyg, .int 0])), (gyg, .inl (3, 4, .inr (.inl (fun _ => 0)))), (o1, .inl (3, 1, .inr (.inl (fun _ => 0))))]) (is := [0, 45, 46, 69]) ln_Lw_274 w_st_Lw_pool ok_Lw_law_Lw_pool d_Lw_law_1887 (C_Lw_pool103 g a pa ta sa gs co fu la gy du re wm ac gyg (fun _ => 0) 0 o1 (fun _ => 0)) rfl rfl (Nat.le_of_ble_eq_true rfl) rfl (by decide) (by omega) (by omega) (fun E cs1 hx => ?_) (fun v cs1 hx => ?_)
  · exact absurd hx.1 (by simp)
  · obtain ⟨e1, rfl⟩ := hx
    cases e1
    refine ⟨rfl, ?_⟩
    refine r_st (st2 := [.int 0]) rfl ?_
    refine r_istore (lv' := [(6, .int 0), (5, .int 0), (4, .ref o2), (3, .ref o1), (2, .ref m), (1, .ref a), (0, .ref (g.2.2 40))]) d_Lw_law_1890 (by decide) rfl ?_
    refine r_aload_n d_Lw_law_1892 rfl 4 rfl ?_
    refine r_aload_n d_Lw_law_1893 rfl 6 rfl ?_
    refine r_iload d_Lw_law_1894 1 rfl ?_
    refine r_iconst d_Lw_law_1896 (v := 1) (by decide) ?_
    refine r_iadd d_Lw_law_1897 (v := 1) rfl ?_
    refine r_sld (v := zs g 1) d_Lw_law_1898 (by rw [hL]; exact fun q => q.elim (by decide) (by decide)) rfl ?_
    refine r_i2c d_Lw_law_1899 (v := 103) e1 ?_
    refine r_callV (As := [.int 103]) (rest := []) (csC := [(m, .inr (12, [.int 0, .ref mp, .int 4, .ref mf, .ref mh, .ref mn, .ref mt, .ref mz, .ref mc_, .ref mq, .ref mgr, .int 80, .int 35, .int 30, .int 50, .int 0, .int 0, .ref ml, .ref mi, .ref mr, .int 0, .int 0, .int 0, .int (-1), .int 0, .ref mm, .ref mu, .ref mk, .ref mx, .long 0, .long 0])), (mi, .inl (0, 4, .inl (fun _ => 0)))]) (is := [52, 63]) (q0 := 52) rfl rfl ln_Lw_276 w_im_Mm_pool w_se_Mm_pool ok_Lw_law_Mm_pool d_Lw_law_1900 (C_Mm_pool103 g m mp mf mh mn mt mz mc_ mq mgr ml mi mr mm mu mk mx 0 4 80 35 30 50 0 0 0 0 0 (-1) 0 0 0 (fun _ => 0)) rfl rfl (Nat.le_of_ble_eq_true rfl) rfl (by decide) (by omega) (by omega) (fun E cs1 hx => ?_) (fun v cs1 hx => ?_)
    · exact absurd hx.1 (by simp)
    · obtain ⟨e1, rfl⟩ := hx
      cases e1
      refine ⟨rfl, ?_⟩
      refine r_st (st2 := [.int ((fun _ => 0) 2)]) rfl ?_
      refine r_istore (lv' := [(7, .int ((fun _ => 0) 2)), (6, .int 0), (5, .int 0), (4, .ref o2), (3, .ref o1), (2, .ref m), (1, .ref a), (0, .ref (g.2.2 40))]) d_Lw_law_1903 (by decide) rfl ?_
      refine r_aload_n d_Lw_law_1905 rfl 5 rfl ?_
      refine r_callV (As := []) (rest := []) (csC := [(m, .inr (12, [.int 0, .ref mp, .int 4, .ref mf, .ref mh, .ref mn, .ref mt, .ref mz, .ref mc_, .ref mq, .ref mgr, .int 80, .int 35, .int 30, .int 50, .int 0, .int 0, .ref ml, .ref mi, .ref mr, .int 0, .int 0, .int 0, .int (-1), .int 0, .ref mm, .ref mu, .ref mk, .ref mx, .long 0, .long 0]))]) (is := [52]) (q0 := 52) rfl rfl ln_Lw_175 w_im_Mm_thrown w_se_Mm_thrown ok_Lw_law_Mm_thrown d_Lw_law_1906 (C_Mm_thrown g m mp mf mh mn mt mz mc_ mq mgr ml mi mr mm mu mk mx 0 4 80 35 30 50 0 0 0 0 0 (-1) 0 0 0) rfl rfl (Nat.le_of_ble_eq_true rfl) rfl (by decide) (by omega) (by omega) (fun E cs1 hx => ?_) (fun v cs1 hx => ?_)
      · exact absurd hx.1 (by simp)
      · obtain ⟨e1, rfl⟩ := hx
        cases e1
        refine ⟨rfl, ?_⟩
        refine r_st (st2 := [.int 0]) rfl ?_
        refine r_iload d_Lw_law_1909 1 rfl ?_
        refine r_icmp_eq (tgt := 1916) d_Lw_law_1911 (by decide) (fun c_1911 => ?_) (fun c_1911 => ?_)
        · refine r_iload d_Lw_law_1916 1 rfl ?_
          refine r_if_ne (tgt := 1933) d_Lw_law_1918 (by decide) (fun c_1918 => ?_) (fun c_1918 => ?_)
          · exact absurd c_1918 (by decide)
          · refine r_aload_n d_Lw_law_1921 rfl 4 rfl ?_
            refine r_iconst d_Lw_law_1922 (v := 0) (by decide) ?_
            refine r_lald d_Lw_law_1923 (q0 := 69) rfl (fun q => q.elim (by decide) (by decide)) (v := (vp_updL (fun _ => 0) 0 (0).toInt64) 0) rfl ?_
            refine r_iload d_Lw_law_1924 0 rfl ?_
            refine r_i2l d_Lw_law_1926 (v := ((fun _ => 0) 2).toInt64) rfl ?_
            refine r_lcmp d_Lw_law_1927 (v := 0) (zl_cmp (rfl)) ?_
            refine r_if_eq (tgt := 1933) d_Lw_law_1928 (by decide) (fun c_1928 => ?_) (fun c_1928 => ?_)
            · refine r_goto (tgt := 3019) d_Lw_law_1933 (by decide) ?_
              refine r_lv (lv' := [(5, .int 0), (0, .ref (g.2.2 40))]) [2, 7] rfl ?_
              exact LW_tail g _ hL _ _ w0 n
            · exact absurd c_1928 (by decide)
        · exact absurd c_1911 (by decide)
set_option maxHeartbeats 4000000 in
set_option maxRecDepth 100000 in
theorem LW_poolHas103E (g : zG) (a pa pa1 pa2 pa3 ta ta1 ta2 taz taz1 taz2 taz3 taz4 taz5 taz6 ta4 ta5 ta6 sa sa1 sa2 saz saz1 saz2 saz3 saz4 saz5 saz6 sa4 sa5 sa6 gs co co1 co2 co3 fu fub fubg fut1 fut2 fut3 la lab labg gy gyg du dug re wm ac m mp mf mh mn mt mz mc_ mq mgr ml mi mr mm mu mk mx o1 o2 : Nat) (hL : g.2.2 41 = 7) (e1 : zc g 1 = 103) (hk : z_ix 2 (zc g 2) < 0) (w0 : zW) (n : Nat) : DV g M_Lw_law (lwP) w0 n 1936 [(5, .int 0), (4, .ref o2), (3, .ref o1), (2, .ref m), (1, .ref a), (0, .ref (g.2.2 40))] [] (lwCS g a pa pa1 pa2 pa3 ta ta1 ta2 taz taz1 taz2 taz3 taz4 taz5 taz6 ta4 ta5 ta6 sa sa1 sa2 saz saz1 saz2 saz3 saz4 saz5 saz6 sa4 sa5 sa6 gs co co1 co2 co3 fu fub fubg fut1 fut2 fut3 la lab labg gy gyg du dug re wm ac m mp mf mh mn mt mz mc_ mq mgr ml mi mr mm mu mk mx o1 o2) 100 1000 := by
  refine r_aload_n d_Lw_law_1936 rfl 4 rfl ?_
  refine r_aload_n d_Lw_law_1937 rfl 5 rfl ?_
  refine r_iload d_Lw_law_1938 0 rfl ?_
  refine r_iconst d_Lw_law_1940 (v := 1) (by decide) ?_
  refine r_iadd d_Lw_law_1941 (v := 1) rfl ?_
  refine r_sld (v := zs g 1) d_Lw_law_1942 (by rw [hL]; exact fun q => q.elim (by decide) (by decide)) rfl ?_
  refine r_i2c d_Lw_law_1943 (v := 103) e1 ?_
  refine r_aload_n d_Lw_law_1944 rfl 5 rfl ?_
  refine r_iload d_Lw_law_1945 0 rfl ?_
  refine r_iconst d_Lw_law_1947 (v := 2) (by decide) ?_
  refine r_iadd d_Lw_law_1948 (v := 2) rfl ?_
  refine r_sld (v := zs g 2) d_Lw_law_1949 (by rw [hL]; exact fun q => q.elim (by decide) (by decide)) rfl ?_
  refine r_i2c d_Lw_law_1950 (v := zc g 2) rfl ?_
  refine r_aload_n d_Lw_law_1951 rfl 2 rfl ?_
  refine r_callSX (As := [.ref a, .int 103, .int (zc g 2), .ref o1]) (rest := []) (csC := [(a, .inr (11, [.ref pa, .ref ta, .ref sa, .ref gs, .ref co, .ref fu, .ref la, .ref gy, .ref du, .ref re, .ref wm, .ref ac])), (gy, .inr (6, [.ref gyg, .int 0])), (gyg, .inl (3, 4, .inr (.inl (fun _ => 0)))), (o1, .inl (3, 1, .inr (.inl (fun _ => 0))))]) (is := [0, 45, 46, 69]) ln_Lw_277 w_st_Lw_poolHas ok_Lw_law_Lw_poolHas d_Lw_law_1952 (C_Lw_poolHas103E g a pa ta sa gs co fu la gy du re wm ac gyg (fun _ => 0) 0 (zc g 2) hk o1 (fun _ => 0)) rfl rfl (Nat.le_of_ble_eq_true rfl) rfl (by decide) (by omega) (by omega) (fun E cs1 hx => ?_) (fun v cs1 hx => ?_)
  · exact absurd hx.1 (by simp)
  · obtain ⟨e1, rfl⟩ := hx
    cases e1
    refine ⟨rfl, ?_⟩
    refine r_st (st2 := [.int 1]) rfl ?_
    refine r_istore (lv' := [(6, .int 1), (5, .int 0), (4, .ref o2), (3, .ref o1), (2, .ref m), (1, .ref a), (0, .ref (g.2.2 40))]) d_Lw_law_1955 (by decide) rfl ?_
    refine r_aload_n d_Lw_law_1957 rfl 4 rfl ?_
    refine r_aload_n d_Lw_law_1958 rfl 6 rfl ?_
    refine r_iload d_Lw_law_1959 1 rfl ?_
    refine r_iconst d_Lw_law_1961 (v := 1) (by decide) ?_
    refine r_iadd d_Lw_law_1962 (v := 1) rfl ?_
    refine r_sld (v := zs g 1) d_Lw_law_1963 (by rw [hL]; exact fun q => q.elim (by decide) (by decide)) rfl ?_
    refine r_i2c d_Lw_law_1964 (v := 103) e1 ?_
    refine r_aload_n d_Lw_law_1965 rfl 6 rfl ?_
    refine r_iload d_Lw_law_1966 1 rfl ?_
    refine r_iconst d_Lw_law_1968 (v := 2) (by decide) ?_
    refine r_iadd d_Lw_law_1969 (v := 2) rfl ?_
    refine r_sld (v := zs g 2) d_Lw_law_1970 (by rw [hL]; exact fun q => q.elim (by decide) (by decide)) rfl ?_
    refine r_i2c d_Lw_law_1971 (v := zc g 2) rfl ?_
    refine r_callV (As := [.int 103, .int (zc g 2)]) (rest := []) (csC := [(m, .inr (12, [.int 0, .ref mp, .int 4, .ref mf, .ref mh, .ref mn, .ref mt, .ref mz, .ref mc_, .ref mq, .ref mgr, .int 80, .int 35, .int 30, .int 50, .int 0, .int 0, .ref ml, .ref mi, .ref mr, .int 0, .int 0, .int 0, .int (-1), .int 0, .ref mm, .ref mu, .ref mk, .ref mx, .long 0, .long 0]))]) (is := [52]) (q0 := 52) rfl rfl ln_Lw_280 w_im_Mm_poolHas w_se_Mm_poolHas ok_Lw_law_Mm_poolHas d_Lw_law_1972 (C_Mm_poolHas103E g m mp mf mh mn mt mz mc_ mq mgr ml mi mr mm mu mk mx 0 4 80 35 30 50 0 0 0 0 0 (-1) 0 0 0 (zc g 2) hk) rfl rfl (Nat.le_of_ble_eq_true rfl) rfl (by decide) (by omega) (by omega) (fun E cs1 hx => ?_) (fun v cs1 hx => ?_)
    · exact absurd hx.1 (by simp)
    · obtain ⟨e1, rfl⟩ := hx
      cases e1
      refine ⟨rfl, ?_⟩
      refine r_st (st2 := [.int 0]) rfl ?_
      refine r_istore (lv' := [(7, .int 0), (6, .int 1), (5, .int 0), (4, .ref o2), (3, .ref o1), (2, .ref m), (1, .ref a), (0, .ref (g.2.2 40))]) d_Lw_law_1975 (by decide) rfl ?_
      refine r_aload_n d_Lw_law_1977 rfl 5 rfl ?_
      refine r_callV (As := []) (rest := []) (csC := [(m, .inr (12, [.int 1, .ref mp, .int 4, .ref mf, .ref mh, .ref mn, .ref mt, .ref mz, .ref mc_, .ref mq, .ref mgr, .int 80, .int 35, .int 30, .int 50, .int 0, .int 0, .ref ml, .ref mi, .ref mr, .int 0, .int 0, .int 0, .int (-1), .int 0, .ref mm, .ref mu, .ref mk, .ref mx, .long 0, .long 0]))]) (is := [52]) (q0 := 52) rfl rfl ln_Lw_175 w_im_Mm_thrown w_se_Mm_thrown ok_Lw_law_Mm_thrown d_Lw_law_1978 (C_Mm_thrown g m mp mf mh mn mt mz mc_ mq mgr ml mi mr mm mu mk mx 1 4 80 35 30 50 0 0 0 0 0 (-1) 0 0 0) rfl rfl (Nat.le_of_ble_eq_true rfl) rfl (by decide) (by omega) (by omega) (fun E cs1 hx => ?_) (fun v cs1 hx => ?_)
      · exact absurd hx.1 (by simp)
      · obtain ⟨e1, rfl⟩ := hx
        cases e1
        refine ⟨rfl, ?_⟩
        refine r_st (st2 := [.int 1]) rfl ?_
        refine r_iload d_Lw_law_1981 1 rfl ?_
        refine r_icmp_eq (tgt := 1988) d_Lw_law_1983 (by decide) (fun c_1983 => ?_) (fun c_1983 => ?_)
        · refine r_iload d_Lw_law_1988 1 rfl ?_
          refine r_if_ne (tgt := 2005) d_Lw_law_1990 (by decide) (fun c_1990 => ?_) (fun c_1990 => ?_)
          · refine r_goto (tgt := 3019) d_Lw_law_2005 (by decide) ?_
            refine r_lv (lv' := [(5, .int 0), (0, .ref (g.2.2 40))]) [2, 7] rfl ?_
            exact LW_tail g _ hL _ _ w0 n
          · exact absurd c_1990 (by decide)
        · exact absurd c_1983 (by decide)
set_option maxHeartbeats 4000000 in
set_option maxRecDepth 100000 in
theorem LW_poolHas103F (g : zG) (a pa pa1 pa2 pa3 ta ta1 ta2 taz taz1 taz2 taz3 taz4 taz5 taz6 ta4 ta5 ta6 sa sa1 sa2 saz saz1 saz2 saz3 saz4 saz5 saz6 sa4 sa5 sa6 gs co co1 co2 co3 fu fub fubg fut1 fut2 fut3 la lab labg gy gyg du dug re wm ac m mp mf mh mn mt mz mc_ mq mgr ml mi mr mm mu mk mx o1 o2 : Nat) (hL : g.2.2 41 = 7) (e1 : zc g 1 = 103) (e : Nat) (he : e < 4) (hk : z_ix 2 (zc g 2) = nI e) (hk2 : ¬ z_ix 2 (zc g 2) < 0) (w0 : zW) (n : Nat) : DV g M_Lw_law (lwP) w0 n 1936 [(5, .int 0), (4, .ref o2), (3, .ref o1), (2, .ref m), (1, .ref a), (0, .ref (g.2.2 40))] [] (lwCS g a pa pa1 pa2 pa3 ta ta1 ta2 taz taz1 taz2 taz3 taz4 taz5 taz6 ta4 ta5 ta6 sa sa1 sa2 saz saz1 saz2 saz3 saz4 saz5 saz6 sa4 sa5 sa6 gs co co1 co2 co3 fu fub fubg fut1 fut2 fut3 la lab labg gy gyg du dug re wm ac m mp mf mh mn mt mz mc_ mq mgr ml mi mr mm mu mk mx o1 o2) 100 1000 := by
  refine r_aload_n d_Lw_law_1936 rfl 4 rfl ?_
  refine r_aload_n d_Lw_law_1937 rfl 5 rfl ?_
  refine r_iload d_Lw_law_1938 0 rfl ?_
  refine r_iconst d_Lw_law_1940 (v := 1) (by decide) ?_
  refine r_iadd d_Lw_law_1941 (v := 1) rfl ?_
  refine r_sld (v := zs g 1) d_Lw_law_1942 (by rw [hL]; exact fun q => q.elim (by decide) (by decide)) rfl ?_
  refine r_i2c d_Lw_law_1943 (v := 103) e1 ?_
  refine r_aload_n d_Lw_law_1944 rfl 5 rfl ?_
  refine r_iload d_Lw_law_1945 0 rfl ?_
  refine r_iconst d_Lw_law_1947 (v := 2) (by decide) ?_
  refine r_iadd d_Lw_law_1948 (v := 2) rfl ?_
  refine r_sld (v := zs g 2) d_Lw_law_1949 (by rw [hL]; exact fun q => q.elim (by decide) (by decide)) rfl ?_
  refine r_i2c d_Lw_law_1950 (v := zc g 2) rfl ?_
  refine r_aload_n d_Lw_law_1951 rfl 2 rfl ?_
  refine r_callSX (As := [.ref a, .int 103, .int (zc g 2), .ref o1]) (rest := []) (csC := [(a, .inr (11, [.ref pa, .ref ta, .ref sa, .ref gs, .ref co, .ref fu, .ref la, .ref gy, .ref du, .ref re, .ref wm, .ref ac])), (gy, .inr (6, [.ref gyg, .int 0])), (gyg, .inl (3, 4, .inr (.inl (fun _ => 0)))), (o1, .inl (3, 1, .inr (.inl (fun _ => 0))))]) (is := [0, 45, 46, 69]) ln_Lw_277 w_st_Lw_poolHas ok_Lw_law_Lw_poolHas d_Lw_law_1952 (C_Lw_poolHas103F g a pa ta sa gs co fu la gy du re wm ac gyg (fun _ => 0) 0 (zc g 2) e he hk (by decide) o1 (fun _ => 0)) rfl rfl (Nat.le_of_ble_eq_true rfl) rfl (by decide) (by omega) (by omega) (fun E cs1 hx => ?_) (fun v cs1 hx => ?_)
  · exact absurd hx.1 (by simp)
  · obtain ⟨e1, rfl⟩ := hx
    cases e1
    refine ⟨rfl, ?_⟩
    refine r_st (st2 := [.int 2]) rfl ?_
    refine r_istore (lv' := [(6, .int 2), (5, .int 0), (4, .ref o2), (3, .ref o1), (2, .ref m), (1, .ref a), (0, .ref (g.2.2 40))]) d_Lw_law_1955 (by decide) rfl ?_
    refine r_aload_n d_Lw_law_1957 rfl 4 rfl ?_
    refine r_aload_n d_Lw_law_1958 rfl 6 rfl ?_
    refine r_iload d_Lw_law_1959 1 rfl ?_
    refine r_iconst d_Lw_law_1961 (v := 1) (by decide) ?_
    refine r_iadd d_Lw_law_1962 (v := 1) rfl ?_
    refine r_sld (v := zs g 1) d_Lw_law_1963 (by rw [hL]; exact fun q => q.elim (by decide) (by decide)) rfl ?_
    refine r_i2c d_Lw_law_1964 (v := 103) e1 ?_
    refine r_aload_n d_Lw_law_1965 rfl 6 rfl ?_
    refine r_iload d_Lw_law_1966 1 rfl ?_
    refine r_iconst d_Lw_law_1968 (v := 2) (by decide) ?_
    refine r_iadd d_Lw_law_1969 (v := 2) rfl ?_
    refine r_sld (v := zs g 2) d_Lw_law_1970 (by rw [hL]; exact fun q => q.elim (by decide) (by decide)) rfl ?_
    refine r_i2c d_Lw_law_1971 (v := zc g 2) rfl ?_
    refine r_callV (As := [.int 103, .int (zc g 2)]) (rest := []) (csC := [(m, .inr (12, [.int 0, .ref mp, .int 4, .ref mf, .ref mh, .ref mn, .ref mt, .ref mz, .ref mc_, .ref mq, .ref mgr, .int 80, .int 35, .int 30, .int 50, .int 0, .int 0, .ref ml, .ref mi, .ref mr, .int 0, .int 0, .int 0, .int (-1), .int 0, .ref mm, .ref mu, .ref mk, .ref mx, .long 0, .long 0])), (mi, .inl (0, 4, .inl (fun _ => 0)))]) (is := [52, 63]) (q0 := 52) rfl rfl ln_Lw_280 w_im_Mm_poolHas w_se_Mm_poolHas ok_Lw_law_Mm_poolHas d_Lw_law_1972 (C_Mm_poolHas103F g m mp mf mh mn mt mz mc_ mq mgr ml mi mr mm mu mk mx 0 4 80 35 30 50 0 0 0 0 0 (-1) 0 0 0 (fun _ => 0) (zc g 2) hk2 rfl) rfl rfl (Nat.le_of_ble_eq_true rfl) rfl (by decide) (by omega) (by omega) (fun E cs1 hx => ?_) (fun v cs1 hx => ?_)
    · exact absurd hx.1 (by simp)
    · obtain ⟨e1, rfl⟩ := hx
      cases e1
      refine ⟨rfl, ?_⟩
      refine r_st (st2 := [.int 0]) rfl ?_
      refine r_istore (lv' := [(7, .int 0), (6, .int 2), (5, .int 0), (4, .ref o2), (3, .ref o1), (2, .ref m), (1, .ref a), (0, .ref (g.2.2 40))]) d_Lw_law_1975 (by decide) rfl ?_
      refine r_aload_n d_Lw_law_1977 rfl 5 rfl ?_
      refine r_callV (As := []) (rest := []) (csC := [(m, .inr (12, [.int 2, .ref mp, .int 4, .ref mf, .ref mh, .ref mn, .ref mt, .ref mz, .ref mc_, .ref mq, .ref mgr, .int 80, .int 35, .int 30, .int 50, .int 0, .int 0, .ref ml, .ref mi, .ref mr, .int 0, .int 0, .int 0, .int (-1), .int 0, .ref mm, .ref mu, .ref mk, .ref mx, .long 0, .long 0]))]) (is := [52]) (q0 := 52) rfl rfl ln_Lw_175 w_im_Mm_thrown w_se_Mm_thrown ok_Lw_law_Mm_thrown d_Lw_law_1978 (C_Mm_thrown g m mp mf mh mn mt mz mc_ mq mgr ml mi mr mm mu mk mx 2 4 80 35 30 50 0 0 0 0 0 (-1) 0 0 0) rfl rfl (Nat.le_of_ble_eq_true rfl) rfl (by decide) (by omega) (by omega) (fun E cs1 hx => ?_) (fun v cs1 hx => ?_)
      · exact absurd hx.1 (by simp)
      · obtain ⟨e1, rfl⟩ := hx
        cases e1
        refine ⟨rfl, ?_⟩
        refine r_st (st2 := [.int 2]) rfl ?_
        refine r_iload d_Lw_law_1981 1 rfl ?_
        refine r_icmp_eq (tgt := 1988) d_Lw_law_1983 (by decide) (fun c_1983 => ?_) (fun c_1983 => ?_)
        · refine r_iload d_Lw_law_1988 1 rfl ?_
          refine r_if_ne (tgt := 2005) d_Lw_law_1990 (by decide) (fun c_1990 => ?_) (fun c_1990 => ?_)
          · refine r_goto (tgt := 3019) d_Lw_law_2005 (by decide) ?_
            refine r_lv (lv' := [(5, .int 0), (0, .ref (g.2.2 40))]) [2, 7] rfl ?_
            exact LW_tail g _ hL _ _ w0 n
          · exact absurd c_1990 (by decide)
        · exact absurd c_1983 (by decide)
set_option maxHeartbeats 4000000 in
set_option maxRecDepth 100000 in
theorem LW_pool100 (g : zG) (a pa pa1 pa2 pa3 ta ta1 ta2 taz taz1 taz2 taz3 taz4 taz5 taz6 ta4 ta5 ta6 sa sa1 sa2 saz saz1 saz2 saz3 saz4 saz5 saz6 sa4 sa5 sa6 gs co co1 co2 co3 fu fub fubg fut1 fut2 fut3 la lab labg gy gyg du dug re wm ac m mp mf mh mn mt mz mc_ mq mgr ml mi mr mm mu mk mx o1 o2 : Nat) (hL : g.2.2 41 = 7) (e1 : zc g 1 = 100) (w0 : zW) (n : Nat) : DV g M_Lw_law (lwP) w0 n 1878 [(5, .int 0), (4, .ref o2), (3, .ref o1), (2, .ref m), (1, .ref a), (0, .ref (g.2.2 40))] [] (lwCS g a pa pa1 pa2 pa3 ta ta1 ta2 taz taz1 taz2 taz3 taz4 taz5 taz6 ta4 ta5 ta6 sa sa1 sa2 saz saz1 saz2 saz3 saz4 saz5 saz6 sa4 sa5 sa6 gs co co1 co2 co3 fu fub fubg fut1 fut2 fut3 la lab labg gy gyg du dug re wm ac m mp mf mh mn mt mz mc_ mq mgr ml mi mr mm mu mk mx o1 o2) 100 1000 := by
  refine r_aload_n d_Lw_law_1878 rfl 4 rfl ?_
  refine r_aload_n d_Lw_law_1879 rfl 5 rfl ?_
  refine r_iload d_Lw_law_1880 0 rfl ?_
  refine r_iconst d_Lw_law_1882 (v := 1) (by decide) ?_
  refine r_iadd d_Lw_law_1883 (v := 1) rfl ?_
  refine r_sld (v := zs g 1) d_Lw_law_1884 (by rw [hL]; exact fun q => q.elim (by decide) (by decide)) rfl ?_
  refine r_i2c d_Lw_law_1885 (v := 100) e1 ?_
  refine r_aload_n d_Lw_law_1886 rfl 2 rfl ?_
  refine r_callSX (As := [.ref a, .int 100, .ref o1]) (rest := []) (csC := [(a, .inr (11, [.ref pa, .ref ta, .ref sa, .ref gs, .ref co, .ref fu, .ref la, .ref gy, .ref du, .ref re, .ref wm, .ref ac])), (du, .inr (6, [.ref dug, .int 0])), (dug, .inl (3, 4, .inr (.inl (fun _ => 0)))), (o1, .inl (3, 1, .inr (.inl (fun _ => 0))))]) (is := [0, 47, 48, 69]) ln_Lw_274 w_st_Lw_pool ok_Lw_law_Lw_pool d_Lw_law_1887 (C_Lw_pool100 g a pa ta sa gs co fu la gy du re wm ac dug (fun _ => 0) 0 o1 (fun _ => 0)) rfl rfl (Nat.le_of_ble_eq_true rfl) rfl (by decide) (by omega) (by omega) (fun E cs1 hx => ?_) (fun v cs1 hx => ?_)
  · exact absurd hx.1 (by simp)
  · obtain ⟨e1, rfl⟩ := hx
    cases e1
    refine ⟨rfl, ?_⟩
    refine r_st (st2 := [.int 0]) rfl ?_
    refine r_istore (lv' := [(6, .int 0), (5, .int 0), (4, .ref o2), (3, .ref o1), (2, .ref m), (1, .ref a), (0, .ref (g.2.2 40))]) d_Lw_law_1890 (by decide) rfl ?_
    refine r_aload_n d_Lw_law_1892 rfl 4 rfl ?_
    refine r_aload_n d_Lw_law_1893 rfl 6 rfl ?_
    refine r_iload d_Lw_law_1894 1 rfl ?_
    refine r_iconst d_Lw_law_1896 (v := 1) (by decide) ?_
    refine r_iadd d_Lw_law_1897 (v := 1) rfl ?_
    refine r_sld (v := zs g 1) d_Lw_law_1898 (by rw [hL]; exact fun q => q.elim (by decide) (by decide)) rfl ?_
    refine r_i2c d_Lw_law_1899 (v := 100) e1 ?_
    refine r_callV (As := [.int 100]) (rest := []) (csC := [(m, .inr (12, [.int 0, .ref mp, .int 4, .ref mf, .ref mh, .ref mn, .ref mt, .ref mz, .ref mc_, .ref mq, .ref mgr, .int 80, .int 35, .int 30, .int 50, .int 0, .int 0, .ref ml, .ref mi, .ref mr, .int 0, .int 0, .int 0, .int (-1), .int 0, .ref mm, .ref mu, .ref mk, .ref mx, .long 0, .long 0])), (mi, .inl (0, 4, .inl (fun _ => 0)))]) (is := [52, 63]) (q0 := 52) rfl rfl ln_Lw_276 w_im_Mm_pool w_se_Mm_pool ok_Lw_law_Mm_pool d_Lw_law_1900 (C_Mm_pool100 g m mp mf mh mn mt mz mc_ mq mgr ml mi mr mm mu mk mx 0 4 80 35 30 50 0 0 0 0 0 (-1) 0 0 0 (fun _ => 0)) rfl rfl (Nat.le_of_ble_eq_true rfl) rfl (by decide) (by omega) (by omega) (fun E cs1 hx => ?_) (fun v cs1 hx => ?_)
    · exact absurd hx.1 (by simp)
    · obtain ⟨e1, rfl⟩ := hx
      cases e1
      refine ⟨rfl, ?_⟩
      refine r_st (st2 := [.int ((fun _ => 0) 3)]) rfl ?_
      refine r_istore (lv' := [(7, .int ((fun _ => 0) 3)), (6, .int 0), (5, .int 0), (4, .ref o2), (3, .ref o1), (2, .ref m), (1, .ref a), (0, .ref (g.2.2 40))]) d_Lw_law_1903 (by decide) rfl ?_
      refine r_aload_n d_Lw_law_1905 rfl 5 rfl ?_
      refine r_callV (As := []) (rest := []) (csC := [(m, .inr (12, [.int 0, .ref mp, .int 4, .ref mf, .ref mh, .ref mn, .ref mt, .ref mz, .ref mc_, .ref mq, .ref mgr, .int 80, .int 35, .int 30, .int 50, .int 0, .int 0, .ref ml, .ref mi, .ref mr, .int 0, .int 0, .int 0, .int (-1), .int 0, .ref mm, .ref mu, .ref mk, .ref mx, .long 0, .long 0]))]) (is := [52]) (q0 := 52) rfl rfl ln_Lw_175 w_im_Mm_thrown w_se_Mm_thrown ok_Lw_law_Mm_thrown d_Lw_law_1906 (C_Mm_thrown g m mp mf mh mn mt mz mc_ mq mgr ml mi mr mm mu mk mx 0 4 80 35 30 50 0 0 0 0 0 (-1) 0 0 0) rfl rfl (Nat.le_of_ble_eq_true rfl) rfl (by decide) (by omega) (by omega) (fun E cs1 hx => ?_) (fun v cs1 hx => ?_)
      · exact absurd hx.1 (by simp)
      · obtain ⟨e1, rfl⟩ := hx
        cases e1
        refine ⟨rfl, ?_⟩
        refine r_st (st2 := [.int 0]) rfl ?_
        refine r_iload d_Lw_law_1909 1 rfl ?_
        refine r_icmp_eq (tgt := 1916) d_Lw_law_1911 (by decide) (fun c_1911 => ?_) (fun c_1911 => ?_)
        · refine r_iload d_Lw_law_1916 1 rfl ?_
          refine r_if_ne (tgt := 1933) d_Lw_law_1918 (by decide) (fun c_1918 => ?_) (fun c_1918 => ?_)
          · exact absurd c_1918 (by decide)
          · refine r_aload_n d_Lw_law_1921 rfl 4 rfl ?_
            refine r_iconst d_Lw_law_1922 (v := 0) (by decide) ?_
            refine r_lald d_Lw_law_1923 (q0 := 69) rfl (fun q => q.elim (by decide) (by decide)) (v := (vp_updL (fun _ => 0) 0 (0).toInt64) 0) rfl ?_
            refine r_iload d_Lw_law_1924 0 rfl ?_
            refine r_i2l d_Lw_law_1926 (v := ((fun _ => 0) 3).toInt64) rfl ?_
            refine r_lcmp d_Lw_law_1927 (v := 0) (zl_cmp (rfl)) ?_
            refine r_if_eq (tgt := 1933) d_Lw_law_1928 (by decide) (fun c_1928 => ?_) (fun c_1928 => ?_)
            · refine r_goto (tgt := 3019) d_Lw_law_1933 (by decide) ?_
              refine r_lv (lv' := [(5, .int 0), (0, .ref (g.2.2 40))]) [2, 7] rfl ?_
              exact LW_tail g _ hL _ _ w0 n
            · exact absurd c_1928 (by decide)
        · exact absurd c_1911 (by decide)
set_option maxHeartbeats 4000000 in
set_option maxRecDepth 100000 in
theorem LW_poolHas100E (g : zG) (a pa pa1 pa2 pa3 ta ta1 ta2 taz taz1 taz2 taz3 taz4 taz5 taz6 ta4 ta5 ta6 sa sa1 sa2 saz saz1 saz2 saz3 saz4 saz5 saz6 sa4 sa5 sa6 gs co co1 co2 co3 fu fub fubg fut1 fut2 fut3 la lab labg gy gyg du dug re wm ac m mp mf mh mn mt mz mc_ mq mgr ml mi mr mm mu mk mx o1 o2 : Nat) (hL : g.2.2 41 = 7) (e1 : zc g 1 = 100) (hk : z_ix 2 (zc g 2) < 0) (w0 : zW) (n : Nat) : DV g M_Lw_law (lwP) w0 n 1936 [(5, .int 0), (4, .ref o2), (3, .ref o1), (2, .ref m), (1, .ref a), (0, .ref (g.2.2 40))] [] (lwCS g a pa pa1 pa2 pa3 ta ta1 ta2 taz taz1 taz2 taz3 taz4 taz5 taz6 ta4 ta5 ta6 sa sa1 sa2 saz saz1 saz2 saz3 saz4 saz5 saz6 sa4 sa5 sa6 gs co co1 co2 co3 fu fub fubg fut1 fut2 fut3 la lab labg gy gyg du dug re wm ac m mp mf mh mn mt mz mc_ mq mgr ml mi mr mm mu mk mx o1 o2) 100 1000 := by
  refine r_aload_n d_Lw_law_1936 rfl 4 rfl ?_
  refine r_aload_n d_Lw_law_1937 rfl 5 rfl ?_
  refine r_iload d_Lw_law_1938 0 rfl ?_
  refine r_iconst d_Lw_law_1940 (v := 1) (by decide) ?_
  refine r_iadd d_Lw_law_1941 (v := 1) rfl ?_
  refine r_sld (v := zs g 1) d_Lw_law_1942 (by rw [hL]; exact fun q => q.elim (by decide) (by decide)) rfl ?_
  refine r_i2c d_Lw_law_1943 (v := 100) e1 ?_
  refine r_aload_n d_Lw_law_1944 rfl 5 rfl ?_
  refine r_iload d_Lw_law_1945 0 rfl ?_
  refine r_iconst d_Lw_law_1947 (v := 2) (by decide) ?_
  refine r_iadd d_Lw_law_1948 (v := 2) rfl ?_
  refine r_sld (v := zs g 2) d_Lw_law_1949 (by rw [hL]; exact fun q => q.elim (by decide) (by decide)) rfl ?_
  refine r_i2c d_Lw_law_1950 (v := zc g 2) rfl ?_
  refine r_aload_n d_Lw_law_1951 rfl 2 rfl ?_
  refine r_callSX (As := [.ref a, .int 100, .int (zc g 2), .ref o1]) (rest := []) (csC := [(a, .inr (11, [.ref pa, .ref ta, .ref sa, .ref gs, .ref co, .ref fu, .ref la, .ref gy, .ref du, .ref re, .ref wm, .ref ac])), (du, .inr (6, [.ref dug, .int 0])), (dug, .inl (3, 4, .inr (.inl (fun _ => 0)))), (o1, .inl (3, 1, .inr (.inl (fun _ => 0))))]) (is := [0, 47, 48, 69]) ln_Lw_277 w_st_Lw_poolHas ok_Lw_law_Lw_poolHas d_Lw_law_1952 (C_Lw_poolHas100E g a pa ta sa gs co fu la gy du re wm ac dug (fun _ => 0) 0 (zc g 2) hk o1 (fun _ => 0)) rfl rfl (Nat.le_of_ble_eq_true rfl) rfl (by decide) (by omega) (by omega) (fun E cs1 hx => ?_) (fun v cs1 hx => ?_)
  · exact absurd hx.1 (by simp)
  · obtain ⟨e1, rfl⟩ := hx
    cases e1
    refine ⟨rfl, ?_⟩
    refine r_st (st2 := [.int 1]) rfl ?_
    refine r_istore (lv' := [(6, .int 1), (5, .int 0), (4, .ref o2), (3, .ref o1), (2, .ref m), (1, .ref a), (0, .ref (g.2.2 40))]) d_Lw_law_1955 (by decide) rfl ?_
    refine r_aload_n d_Lw_law_1957 rfl 4 rfl ?_
    refine r_aload_n d_Lw_law_1958 rfl 6 rfl ?_
    refine r_iload d_Lw_law_1959 1 rfl ?_
    refine r_iconst d_Lw_law_1961 (v := 1) (by decide) ?_
    refine r_iadd d_Lw_law_1962 (v := 1) rfl ?_
    refine r_sld (v := zs g 1) d_Lw_law_1963 (by rw [hL]; exact fun q => q.elim (by decide) (by decide)) rfl ?_
    refine r_i2c d_Lw_law_1964 (v := 100) e1 ?_
    refine r_aload_n d_Lw_law_1965 rfl 6 rfl ?_
    refine r_iload d_Lw_law_1966 1 rfl ?_
    refine r_iconst d_Lw_law_1968 (v := 2) (by decide) ?_
    refine r_iadd d_Lw_law_1969 (v := 2) rfl ?_
    refine r_sld (v := zs g 2) d_Lw_law_1970 (by rw [hL]; exact fun q => q.elim (by decide) (by decide)) rfl ?_
    refine r_i2c d_Lw_law_1971 (v := zc g 2) rfl ?_
    refine r_callV (As := [.int 100, .int (zc g 2)]) (rest := []) (csC := [(m, .inr (12, [.int 0, .ref mp, .int 4, .ref mf, .ref mh, .ref mn, .ref mt, .ref mz, .ref mc_, .ref mq, .ref mgr, .int 80, .int 35, .int 30, .int 50, .int 0, .int 0, .ref ml, .ref mi, .ref mr, .int 0, .int 0, .int 0, .int (-1), .int 0, .ref mm, .ref mu, .ref mk, .ref mx, .long 0, .long 0]))]) (is := [52]) (q0 := 52) rfl rfl ln_Lw_280 w_im_Mm_poolHas w_se_Mm_poolHas ok_Lw_law_Mm_poolHas d_Lw_law_1972 (C_Mm_poolHas100E g m mp mf mh mn mt mz mc_ mq mgr ml mi mr mm mu mk mx 0 4 80 35 30 50 0 0 0 0 0 (-1) 0 0 0 (zc g 2) hk) rfl rfl (Nat.le_of_ble_eq_true rfl) rfl (by decide) (by omega) (by omega) (fun E cs1 hx => ?_) (fun v cs1 hx => ?_)
    · exact absurd hx.1 (by simp)
    · obtain ⟨e1, rfl⟩ := hx
      cases e1
      refine ⟨rfl, ?_⟩
      refine r_st (st2 := [.int 0]) rfl ?_
      refine r_istore (lv' := [(7, .int 0), (6, .int 1), (5, .int 0), (4, .ref o2), (3, .ref o1), (2, .ref m), (1, .ref a), (0, .ref (g.2.2 40))]) d_Lw_law_1975 (by decide) rfl ?_
      refine r_aload_n d_Lw_law_1977 rfl 5 rfl ?_
      refine r_callV (As := []) (rest := []) (csC := [(m, .inr (12, [.int 1, .ref mp, .int 4, .ref mf, .ref mh, .ref mn, .ref mt, .ref mz, .ref mc_, .ref mq, .ref mgr, .int 80, .int 35, .int 30, .int 50, .int 0, .int 0, .ref ml, .ref mi, .ref mr, .int 0, .int 0, .int 0, .int (-1), .int 0, .ref mm, .ref mu, .ref mk, .ref mx, .long 0, .long 0]))]) (is := [52]) (q0 := 52) rfl rfl ln_Lw_175 w_im_Mm_thrown w_se_Mm_thrown ok_Lw_law_Mm_thrown d_Lw_law_1978 (C_Mm_thrown g m mp mf mh mn mt mz mc_ mq mgr ml mi mr mm mu mk mx 1 4 80 35 30 50 0 0 0 0 0 (-1) 0 0 0) rfl rfl (Nat.le_of_ble_eq_true rfl) rfl (by decide) (by omega) (by omega) (fun E cs1 hx => ?_) (fun v cs1 hx => ?_)
      · exact absurd hx.1 (by simp)
      · obtain ⟨e1, rfl⟩ := hx
        cases e1
        refine ⟨rfl, ?_⟩
        refine r_st (st2 := [.int 1]) rfl ?_
        refine r_iload d_Lw_law_1981 1 rfl ?_
        refine r_icmp_eq (tgt := 1988) d_Lw_law_1983 (by decide) (fun c_1983 => ?_) (fun c_1983 => ?_)
        · refine r_iload d_Lw_law_1988 1 rfl ?_
          refine r_if_ne (tgt := 2005) d_Lw_law_1990 (by decide) (fun c_1990 => ?_) (fun c_1990 => ?_)
          · refine r_goto (tgt := 3019) d_Lw_law_2005 (by decide) ?_
            refine r_lv (lv' := [(5, .int 0), (0, .ref (g.2.2 40))]) [2, 7] rfl ?_
            exact LW_tail g _ hL _ _ w0 n
          · exact absurd c_1990 (by decide)
        · exact absurd c_1983 (by decide)
set_option maxHeartbeats 4000000 in
set_option maxRecDepth 100000 in
theorem LW_poolHas100F (g : zG) (a pa pa1 pa2 pa3 ta ta1 ta2 taz taz1 taz2 taz3 taz4 taz5 taz6 ta4 ta5 ta6 sa sa1 sa2 saz saz1 saz2 saz3 saz4 saz5 saz6 sa4 sa5 sa6 gs co co1 co2 co3 fu fub fubg fut1 fut2 fut3 la lab labg gy gyg du dug re wm ac m mp mf mh mn mt mz mc_ mq mgr ml mi mr mm mu mk mx o1 o2 : Nat) (hL : g.2.2 41 = 7) (e1 : zc g 1 = 100) (e : Nat) (he : e < 4) (hk : z_ix 2 (zc g 2) = nI e) (hk2 : ¬ z_ix 2 (zc g 2) < 0) (w0 : zW) (n : Nat) : DV g M_Lw_law (lwP) w0 n 1936 [(5, .int 0), (4, .ref o2), (3, .ref o1), (2, .ref m), (1, .ref a), (0, .ref (g.2.2 40))] [] (lwCS g a pa pa1 pa2 pa3 ta ta1 ta2 taz taz1 taz2 taz3 taz4 taz5 taz6 ta4 ta5 ta6 sa sa1 sa2 saz saz1 saz2 saz3 saz4 saz5 saz6 sa4 sa5 sa6 gs co co1 co2 co3 fu fub fubg fut1 fut2 fut3 la lab labg gy gyg du dug re wm ac m mp mf mh mn mt mz mc_ mq mgr ml mi mr mm mu mk mx o1 o2) 100 1000 := by
  refine r_aload_n d_Lw_law_1936 rfl 4 rfl ?_
  refine r_aload_n d_Lw_law_1937 rfl 5 rfl ?_
  refine r_iload d_Lw_law_1938 0 rfl ?_
  refine r_iconst d_Lw_law_1940 (v := 1) (by decide) ?_
  refine r_iadd d_Lw_law_1941 (v := 1) rfl ?_
  refine r_sld (v := zs g 1) d_Lw_law_1942 (by rw [hL]; exact fun q => q.elim (by decide) (by decide)) rfl ?_
  refine r_i2c d_Lw_law_1943 (v := 100) e1 ?_
  refine r_aload_n d_Lw_law_1944 rfl 5 rfl ?_
  refine r_iload d_Lw_law_1945 0 rfl ?_
  refine r_iconst d_Lw_law_1947 (v := 2) (by decide) ?_
  refine r_iadd d_Lw_law_1948 (v := 2) rfl ?_
  refine r_sld (v := zs g 2) d_Lw_law_1949 (by rw [hL]; exact fun q => q.elim (by decide) (by decide)) rfl ?_
  refine r_i2c d_Lw_law_1950 (v := zc g 2) rfl ?_
  refine r_aload_n d_Lw_law_1951 rfl 2 rfl ?_
  refine r_callSX (As := [.ref a, .int 100, .int (zc g 2), .ref o1]) (rest := []) (csC := [(a, .inr (11, [.ref pa, .ref ta, .ref sa, .ref gs, .ref co, .ref fu, .ref la, .ref gy, .ref du, .ref re, .ref wm, .ref ac])), (du, .inr (6, [.ref dug, .int 0])), (dug, .inl (3, 4, .inr (.inl (fun _ => 0)))), (o1, .inl (3, 1, .inr (.inl (fun _ => 0))))]) (is := [0, 47, 48, 69]) ln_Lw_277 w_st_Lw_poolHas ok_Lw_law_Lw_poolHas d_Lw_law_1952 (C_Lw_poolHas100F g a pa ta sa gs co fu la gy du re wm ac dug (fun _ => 0) 0 (zc g 2) e he hk (by decide) o1 (fun _ => 0)) rfl rfl (Nat.le_of_ble_eq_true rfl) rfl (by decide) (by omega) (by omega) (fun E cs1 hx => ?_) (fun v cs1 hx => ?_)
  · exact absurd hx.1 (by simp)
  · obtain ⟨e1, rfl⟩ := hx
    cases e1
    refine ⟨rfl, ?_⟩
    refine r_st (st2 := [.int 2]) rfl ?_
    refine r_istore (lv' := [(6, .int 2), (5, .int 0), (4, .ref o2), (3, .ref o1), (2, .ref m), (1, .ref a), (0, .ref (g.2.2 40))]) d_Lw_law_1955 (by decide) rfl ?_
    refine r_aload_n d_Lw_law_1957 rfl 4 rfl ?_
    refine r_aload_n d_Lw_law_1958 rfl 6 rfl ?_
    refine r_iload d_Lw_law_1959 1 rfl ?_
    refine r_iconst d_Lw_law_1961 (v := 1) (by decide) ?_
    refine r_iadd d_Lw_law_1962 (v := 1) rfl ?_
    refine r_sld (v := zs g 1) d_Lw_law_1963 (by rw [hL]; exact fun q => q.elim (by decide) (by decide)) rfl ?_
    refine r_i2c d_Lw_law_1964 (v := 100) e1 ?_
    refine r_aload_n d_Lw_law_1965 rfl 6 rfl ?_
    refine r_iload d_Lw_law_1966 1 rfl ?_
    refine r_iconst d_Lw_law_1968 (v := 2) (by decide) ?_
    refine r_iadd d_Lw_law_1969 (v := 2) rfl ?_
    refine r_sld (v := zs g 2) d_Lw_law_1970 (by rw [hL]; exact fun q => q.elim (by decide) (by decide)) rfl ?_
    refine r_i2c d_Lw_law_1971 (v := zc g 2) rfl ?_
    refine r_callV (As := [.int 100, .int (zc g 2)]) (rest := []) (csC := [(m, .inr (12, [.int 0, .ref mp, .int 4, .ref mf, .ref mh, .ref mn, .ref mt, .ref mz, .ref mc_, .ref mq, .ref mgr, .int 80, .int 35, .int 30, .int 50, .int 0, .int 0, .ref ml, .ref mi, .ref mr, .int 0, .int 0, .int 0, .int (-1), .int 0, .ref mm, .ref mu, .ref mk, .ref mx, .long 0, .long 0])), (mi, .inl (0, 4, .inl (fun _ => 0)))]) (is := [52, 63]) (q0 := 52) rfl rfl ln_Lw_280 w_im_Mm_poolHas w_se_Mm_poolHas ok_Lw_law_Mm_poolHas d_Lw_law_1972 (C_Mm_poolHas100F g m mp mf mh mn mt mz mc_ mq mgr ml mi mr mm mu mk mx 0 4 80 35 30 50 0 0 0 0 0 (-1) 0 0 0 (fun _ => 0) (zc g 2) hk2 rfl) rfl rfl (Nat.le_of_ble_eq_true rfl) rfl (by decide) (by omega) (by omega) (fun E cs1 hx => ?_) (fun v cs1 hx => ?_)
    · exact absurd hx.1 (by simp)
    · obtain ⟨e1, rfl⟩ := hx
      cases e1
      refine ⟨rfl, ?_⟩
      refine r_st (st2 := [.int 0]) rfl ?_
      refine r_istore (lv' := [(7, .int 0), (6, .int 2), (5, .int 0), (4, .ref o2), (3, .ref o1), (2, .ref m), (1, .ref a), (0, .ref (g.2.2 40))]) d_Lw_law_1975 (by decide) rfl ?_
      refine r_aload_n d_Lw_law_1977 rfl 5 rfl ?_
      refine r_callV (As := []) (rest := []) (csC := [(m, .inr (12, [.int 2, .ref mp, .int 4, .ref mf, .ref mh, .ref mn, .ref mt, .ref mz, .ref mc_, .ref mq, .ref mgr, .int 80, .int 35, .int 30, .int 50, .int 0, .int 0, .ref ml, .ref mi, .ref mr, .int 0, .int 0, .int 0, .int (-1), .int 0, .ref mm, .ref mu, .ref mk, .ref mx, .long 0, .long 0]))]) (is := [52]) (q0 := 52) rfl rfl ln_Lw_175 w_im_Mm_thrown w_se_Mm_thrown ok_Lw_law_Mm_thrown d_Lw_law_1978 (C_Mm_thrown g m mp mf mh mn mt mz mc_ mq mgr ml mi mr mm mu mk mx 2 4 80 35 30 50 0 0 0 0 0 (-1) 0 0 0) rfl rfl (Nat.le_of_ble_eq_true rfl) rfl (by decide) (by omega) (by omega) (fun E cs1 hx => ?_) (fun v cs1 hx => ?_)
      · exact absurd hx.1 (by simp)
      · obtain ⟨e1, rfl⟩ := hx
        cases e1
        refine ⟨rfl, ?_⟩
        refine r_st (st2 := [.int 2]) rfl ?_
        refine r_iload d_Lw_law_1981 1 rfl ?_
        refine r_icmp_eq (tgt := 1988) d_Lw_law_1983 (by decide) (fun c_1983 => ?_) (fun c_1983 => ?_)
        · refine r_iload d_Lw_law_1988 1 rfl ?_
          refine r_if_ne (tgt := 2005) d_Lw_law_1990 (by decide) (fun c_1990 => ?_) (fun c_1990 => ?_)
          · refine r_goto (tgt := 3019) d_Lw_law_2005 (by decide) ?_
            refine r_lv (lv' := [(5, .int 0), (0, .ref (g.2.2 40))]) [2, 7] rfl ?_
            exact LW_tail g _ hL _ _ w0 n
          · exact absurd c_1990 (by decide)
        · exact absurd c_1983 (by decide)
theorem d_Lw_law_2008 : decode code 2008 = .ok (.aload_n 1, 1) := by decide +kernel
theorem d_Lw_law_2009 : decode code 2009 = .ok (.aload_n 0, 1) := by decide +kernel
theorem d_Lw_law_2010 : decode code 2010 = .ok (.iload 5, 2) := by decide +kernel
theorem d_Lw_law_2012 : decode code 2012 = .ok (.iconst 1, 1) := by decide +kernel
theorem d_Lw_law_2013 : decode code 2013 = .ok (.iadd, 1) := by decide +kernel
theorem d_Lw_law_2014 : decode code 2014 = .ok (.iaload, 1) := by decide +kernel
theorem d_Lw_law_2015 : decode code 2015 = .ok (.aload_n 0, 1) := by decide +kernel
theorem d_Lw_law_2016 : decode code 2016 = .ok (.iload 5, 2) := by decide +kernel
theorem d_Lw_law_2018 : decode code 2018 = .ok (.iconst 2, 1) := by decide +kernel
theorem d_Lw_law_2019 : decode code 2019 = .ok (.iadd, 1) := by decide +kernel
theorem d_Lw_law_2020 : decode code 2020 = .ok (.iaload, 1) := by decide +kernel
theorem d_Lw_law_2021 : decode code 2021 = .ok (.aload_n 0, 1) := by decide +kernel
theorem d_Lw_law_2022 : decode code 2022 = .ok (.iload 5, 2) := by decide +kernel
theorem d_Lw_law_2024 : decode code 2024 = .ok (.iconst 3, 1) := by decide +kernel
theorem d_Lw_law_2025 : decode code 2025 = .ok (.iadd, 1) := by decide +kernel
theorem d_Lw_law_2026 : decode code 2026 = .ok (.iaload, 1) := by decide +kernel
theorem d_Lw_law_2027 : decode code 2027 = .ok (.aload_n 0, 1) := by decide +kernel
theorem d_Lw_law_2028 : decode code 2028 = .ok (.iload 5, 2) := by decide +kernel
theorem d_Lw_law_2030 : decode code 2030 = .ok (.iconst 4, 1) := by decide +kernel
theorem d_Lw_law_2031 : decode code 2031 = .ok (.iadd, 1) := by decide +kernel
theorem d_Lw_law_2032 : decode code 2032 = .ok (.iaload, 1) := by decide +kernel
theorem d_Lw_law_2033 : decode code 2033 = .ok (.aload_n 0, 1) := by decide +kernel
theorem d_Lw_law_2034 : decode code 2034 = .ok (.iload 5, 2) := by decide +kernel
theorem d_Lw_law_2036 : decode code 2036 = .ok (.iconst 5, 1) := by decide +kernel
theorem d_Lw_law_2037 : decode code 2037 = .ok (.iadd, 1) := by decide +kernel
theorem d_Lw_law_2038 : decode code 2038 = .ok (.iaload, 1) := by decide +kernel
theorem d_Lw_law_2039 : decode code 2039 = .ok (.aload_n 0, 1) := by decide +kernel
theorem d_Lw_law_2040 : decode code 2040 = .ok (.iload 5, 2) := by decide +kernel
theorem d_Lw_law_2042 : decode code 2042 = .ok (.bipush 6, 2) := by decide +kernel
theorem d_Lw_law_2044 : decode code 2044 = .ok (.iadd, 1) := by decide +kernel
theorem d_Lw_law_2045 : decode code 2045 = .ok (.iaload, 1) := by decide +kernel
theorem d_Lw_law_2046 : decode code 2046 = .ok (.aload_n 3, 1) := by decide +kernel
theorem d_Lw_law_2047 : decode code 2047 = .ok (.invokestatic 281, 3) := by decide +kernel
theorem ok_Lw_law_Lw_leastCost : z_okX M_Lw_law M_Lw_leastCost 8 := ⟨z_mem (i := 1197) (by decide +kernel) (by decide +kernel), by decide, ⟨by decide +kernel, by decide +kernel, by decide +kernel⟩, ⟨by decide, by decide⟩, z_mem (i := 57) (by decide +kernel) (by decide +kernel), rfl⟩
theorem ln_Lw_281 : Cond.methodLink "IronpourLaw" 281 M_Lw_leastCost.1 ∈ z_gw := z_mem (i := 1195) (by decide +kernel) (by decide +kernel)
theorem w_st_Lw_leastCost : Cond.static M_Lw_leastCost.1 ∈ z_gw := z_mem (i := 1196) (by decide +kernel) (by decide +kernel)
theorem d_Lw_law_2050 : decode code 2050 = .ok (.istore 6, 2) := by decide +kernel
theorem d_Lw_law_2052 : decode code 2052 = .ok (.aload_n 2, 1) := by decide +kernel
theorem d_Lw_law_2053 : decode code 2053 = .ok (.aload_n 0, 1) := by decide +kernel
theorem d_Lw_law_2054 : decode code 2054 = .ok (.iload 5, 2) := by decide +kernel
theorem d_Lw_law_2056 : decode code 2056 = .ok (.iconst 1, 1) := by decide +kernel
theorem d_Lw_law_2057 : decode code 2057 = .ok (.iadd, 1) := by decide +kernel
theorem d_Lw_law_2058 : decode code 2058 = .ok (.iaload, 1) := by decide +kernel
theorem d_Lw_law_2059 : decode code 2059 = .ok (.aload_n 0, 1) := by decide +kernel
theorem d_Lw_law_2060 : decode code 2060 = .ok (.iload 5, 2) := by decide +kernel
theorem d_Lw_law_2062 : decode code 2062 = .ok (.iconst 2, 1) := by decide +kernel
theorem d_Lw_law_2063 : decode code 2063 = .ok (.iadd, 1) := by decide +kernel
theorem d_Lw_law_2064 : decode code 2064 = .ok (.iaload, 1) := by decide +kernel
theorem d_Lw_law_2065 : decode code 2065 = .ok (.aload_n 0, 1) := by decide +kernel
theorem d_Lw_law_2066 : decode code 2066 = .ok (.iload 5, 2) := by decide +kernel
theorem d_Lw_law_2068 : decode code 2068 = .ok (.iconst 3, 1) := by decide +kernel
theorem d_Lw_law_2069 : decode code 2069 = .ok (.iadd, 1) := by decide +kernel
theorem d_Lw_law_2070 : decode code 2070 = .ok (.iaload, 1) := by decide +kernel
theorem d_Lw_law_2071 : decode code 2071 = .ok (.aload_n 0, 1) := by decide +kernel
theorem d_Lw_law_2072 : decode code 2072 = .ok (.iload 5, 2) := by decide +kernel
theorem d_Lw_law_2074 : decode code 2074 = .ok (.iconst 4, 1) := by decide +kernel
theorem d_Lw_law_2075 : decode code 2075 = .ok (.iadd, 1) := by decide +kernel
theorem d_Lw_law_2076 : decode code 2076 = .ok (.iaload, 1) := by decide +kernel
theorem d_Lw_law_2077 : decode code 2077 = .ok (.aload_n 0, 1) := by decide +kernel
theorem d_Lw_law_2078 : decode code 2078 = .ok (.iload 5, 2) := by decide +kernel
theorem d_Lw_law_2080 : decode code 2080 = .ok (.iconst 5, 1) := by decide +kernel
theorem d_Lw_law_2081 : decode code 2081 = .ok (.iadd, 1) := by decide +kernel
theorem d_Lw_law_2082 : decode code 2082 = .ok (.iaload, 1) := by decide +kernel
theorem d_Lw_law_2083 : decode code 2083 = .ok (.aload_n 0, 1) := by decide +kernel
theorem d_Lw_law_2084 : decode code 2084 = .ok (.iload 5, 2) := by decide +kernel
theorem d_Lw_law_2086 : decode code 2086 = .ok (.bipush 6, 2) := by decide +kernel
theorem d_Lw_law_2088 : decode code 2088 = .ok (.iadd, 1) := by decide +kernel
theorem d_Lw_law_2089 : decode code 2089 = .ok (.iaload, 1) := by decide +kernel
theorem d_Lw_law_2090 : decode code 2090 = .ok (.invokevirtual 284, 3) := by decide +kernel
theorem ok_Lw_law_Mm_leastCost : z_ok M_Lw_law M_Mm_leastCost 6 := ⟨z_mem (i := 1948) (by decide +kernel) (by decide +kernel), rfl, ⟨by decide +kernel, by decide +kernel, by decide +kernel⟩, ⟨by decide, by decide⟩, z_mem (i := 71) (by decide +kernel) (by decide +kernel), rfl⟩
theorem ln_Lw_284 : Cond.methodLink "IronpourLaw" 284 M_Mm_leastCost.1 ∈ z_gw := z_mem (i := 1945) (by decide +kernel) (by decide +kernel)
theorem w_im_Mm_leastCost : Cond.instanceMethod M_Mm_leastCost.1 ∈ z_gw := z_mem (i := 1946) (by decide +kernel) (by decide +kernel)
theorem w_se_Mm_leastCost : Cond.selects M_Mm_leastCost.1.cls M_Mm_leastCost.1 M_Mm_leastCost.1 ∈ z_gw := z_mem (i := 1947) (by decide +kernel) (by decide +kernel)
theorem d_Lw_law_2093 : decode code 2093 = .ok (.istore 7, 2) := by decide +kernel
theorem d_Lw_law_2095 : decode code 2095 = .ok (.aload_n 2, 1) := by decide +kernel
theorem d_Lw_law_2096 : decode code 2096 = .ok (.invokevirtual 175, 3) := by decide +kernel
theorem d_Lw_law_2099 : decode code 2099 = .ok (.iload 6, 2) := by decide +kernel
theorem d_Lw_law_2101 : decode code 2101 = .ok (.if_icmp .eq 5, 3) := by decide +kernel
theorem d_Lw_law_2106 : decode code 2106 = .ok (.iload 6, 2) := by decide +kernel
theorem d_Lw_law_2108 : decode code 2108 = .ok (.ifCond .ne 15, 3) := by decide +kernel
theorem d_Lw_law_2123 : decode code 2123 = .ok (.goto 896, 3) := by decide +kernel
set_option maxHeartbeats 4000000 in
set_option maxRecDepth 100000 in
theorem LW_leastCostE (g : zG) (a pa pa1 pa2 pa3 ta ta1 ta2 taz taz1 taz2 taz3 taz4 taz5 taz6 ta4 ta5 ta6 sa sa1 sa2 saz saz1 saz2 saz3 saz4 saz5 saz6 sa4 sa5 sa6 gs co co1 co2 co3 fu fub fubg fut1 fut2 fut3 la lab labg gy gyg du dug re wm ac m mp mf mh mn mt mz mc_ mq mgr ml mi mr mm mu mk mx o1 o2 : Nat) (hL : g.2.2 41 = 7) (hw : ¬ ((0 ≤ (zs g 1) ∧ (zs g 1) ≤ 450) ∧ ((zs g 1) ≤ (zs g 2) ∧ (zs g 2) ≤ 450) ∧ (0 ≤ (zs g 3) ∧ (zs g 3) ≤ 450) ∧ (1 ≤ (zs g 4) ∧ (zs g 4) ≤ 1000) ∧ (1 ≤ (zs g 5) ∧ (zs g 5) ≤ 1000) ∧ (1 ≤ (zs g 6) ∧ (zs g 6) ≤ 1000))) (w0 : zW) (n : Nat) : DV g M_Lw_law (lwP) w0 n 2008 [(5, .int 0), (4, .ref o2), (3, .ref o1), (2, .ref m), (1, .ref a), (0, .ref (g.2.2 40))] [] (lwCS g a pa pa1 pa2 pa3 ta ta1 ta2 taz taz1 taz2 taz3 taz4 taz5 taz6 ta4 ta5 ta6 sa sa1 sa2 saz saz1 saz2 saz3 saz4 saz5 saz6 sa4 sa5 sa6 gs co co1 co2 co3 fu fub fubg fut1 fut2 fut3 la lab labg gy gyg du dug re wm ac m mp mf mh mn mt mz mc_ mq mgr ml mi mr mm mu mk mx o1 o2) 100 1000 := by
  refine r_aload_n d_Lw_law_2008 rfl 4 rfl ?_
  refine r_aload_n d_Lw_law_2009 rfl 5 rfl ?_
  refine r_iload d_Lw_law_2010 0 rfl ?_
  refine r_iconst d_Lw_law_2012 (v := 1) (by decide) ?_
  refine r_iadd d_Lw_law_2013 (v := 1) rfl ?_
  refine r_sld (v := zs g 1) d_Lw_law_2014 (by rw [hL]; exact fun q => q.elim (by decide) (by decide)) rfl ?_
  refine r_aload_n d_Lw_law_2015 rfl 5 rfl ?_
  refine r_iload d_Lw_law_2016 0 rfl ?_
  refine r_iconst d_Lw_law_2018 (v := 2) (by decide) ?_
  refine r_iadd d_Lw_law_2019 (v := 2) rfl ?_
  refine r_sld (v := zs g 2) d_Lw_law_2020 (by rw [hL]; exact fun q => q.elim (by decide) (by decide)) rfl ?_
  refine r_aload_n d_Lw_law_2021 rfl 5 rfl ?_
  refine r_iload d_Lw_law_2022 0 rfl ?_
  refine r_iconst d_Lw_law_2024 (v := 3) (by decide) ?_
  refine r_iadd d_Lw_law_2025 (v := 3) rfl ?_
  refine r_sld (v := zs g 3) d_Lw_law_2026 (by rw [hL]; exact fun q => q.elim (by decide) (by decide)) rfl ?_
  refine r_aload_n d_Lw_law_2027 rfl 5 rfl ?_
  refine r_iload d_Lw_law_2028 0 rfl ?_
  refine r_iconst d_Lw_law_2030 (v := 4) (by decide) ?_
  refine r_iadd d_Lw_law_2031 (v := 4) rfl ?_
  refine r_sld (v := zs g 4) d_Lw_law_2032 (by rw [hL]; exact fun q => q.elim (by decide) (by decide)) rfl ?_
  refine r_aload_n d_Lw_law_2033 rfl 5 rfl ?_
  refine r_iload d_Lw_law_2034 0 rfl ?_
  refine r_iconst d_Lw_law_2036 (v := 5) (by decide) ?_
  refine r_iadd d_Lw_law_2037 (v := 5) rfl ?_
  refine r_sld (v := zs g 5) d_Lw_law_2038 (by rw [hL]; exact fun q => q.elim (by decide) (by decide)) rfl ?_
  refine r_aload_n d_Lw_law_2039 rfl 5 rfl ?_
  refine r_iload d_Lw_law_2040 0 rfl ?_
  refine r_bipush d_Lw_law_2042 (v := 6) (by decide) ?_
  refine r_iadd d_Lw_law_2044 (v := 6) rfl ?_
  refine r_sld (v := zs g 6) d_Lw_law_2045 (by rw [hL]; exact fun q => q.elim (by decide) (by decide)) rfl ?_
  refine r_aload_n d_Lw_law_2046 rfl 2 rfl ?_
  refine r_callSX (As := [.ref a, .int (zs g 1), .int (zs g 2), .int (zs g 3), .int (zs g 4), .int (zs g 5), .int (zs g 6), .ref o1]) (rest := []) (csC := [(a, .inr (11, [.ref pa, .ref ta, .ref sa, .ref gs, .ref co, .ref fu, .ref la, .ref gy, .ref du, .ref re, .ref wm, .ref ac])), (re, .inr (9, [.int 0, .int 0, .int 0])), (o1, .inl (3, 1, .inr (.inl (fun _ => 0))))]) (is := [0, 49, 69]) ln_Lw_281 w_st_Lw_leastCost ok_Lw_law_Lw_leastCost d_Lw_law_2047 (C_Lw_leastCostE g a pa ta sa gs co fu la gy du re wm ac 0 0 0 (zs g 1) (zs g 2) (zs g 3) (zs g 4) (zs g 5) (zs g 6) hw o1 (fun _ => 0)) rfl rfl (Nat.le_of_ble_eq_true rfl) rfl (by decide) (by omega) (by omega) (fun E cs1 hx => ?_) (fun v cs1 hx => ?_)
  · exact absurd hx.1 (by simp)
  · obtain ⟨e1, rfl⟩ := hx
    cases e1
    refine ⟨rfl, ?_⟩
    refine r_st (st2 := [.int 1]) rfl ?_
    refine r_istore (lv' := [(6, .int 1), (5, .int 0), (4, .ref o2), (3, .ref o1), (2, .ref m), (1, .ref a), (0, .ref (g.2.2 40))]) d_Lw_law_2050 (by decide) rfl ?_
    refine r_aload_n d_Lw_law_2052 rfl 4 rfl ?_
    refine r_aload_n d_Lw_law_2053 rfl 6 rfl ?_
    refine r_iload d_Lw_law_2054 1 rfl ?_
    refine r_iconst d_Lw_law_2056 (v := 1) (by decide) ?_
    refine r_iadd d_Lw_law_2057 (v := 1) rfl ?_
    refine r_sld (v := zs g 1) d_Lw_law_2058 (by rw [hL]; exact fun q => q.elim (by decide) (by decide)) rfl ?_
    refine r_aload_n d_Lw_law_2059 rfl 6 rfl ?_
    refine r_iload d_Lw_law_2060 1 rfl ?_
    refine r_iconst d_Lw_law_2062 (v := 2) (by decide) ?_
    refine r_iadd d_Lw_law_2063 (v := 2) rfl ?_
    refine r_sld (v := zs g 2) d_Lw_law_2064 (by rw [hL]; exact fun q => q.elim (by decide) (by decide)) rfl ?_
    refine r_aload_n d_Lw_law_2065 rfl 6 rfl ?_
    refine r_iload d_Lw_law_2066 1 rfl ?_
    refine r_iconst d_Lw_law_2068 (v := 3) (by decide) ?_
    refine r_iadd d_Lw_law_2069 (v := 3) rfl ?_
    refine r_sld (v := zs g 3) d_Lw_law_2070 (by rw [hL]; exact fun q => q.elim (by decide) (by decide)) rfl ?_
    refine r_aload_n d_Lw_law_2071 rfl 6 rfl ?_
    refine r_iload d_Lw_law_2072 1 rfl ?_
    refine r_iconst d_Lw_law_2074 (v := 4) (by decide) ?_
    refine r_iadd d_Lw_law_2075 (v := 4) rfl ?_
    refine r_sld (v := zs g 4) d_Lw_law_2076 (by rw [hL]; exact fun q => q.elim (by decide) (by decide)) rfl ?_
    refine r_aload_n d_Lw_law_2077 rfl 6 rfl ?_
    refine r_iload d_Lw_law_2078 1 rfl ?_
    refine r_iconst d_Lw_law_2080 (v := 5) (by decide) ?_
    refine r_iadd d_Lw_law_2081 (v := 5) rfl ?_
    refine r_sld (v := zs g 5) d_Lw_law_2082 (by rw [hL]; exact fun q => q.elim (by decide) (by decide)) rfl ?_
    refine r_aload_n d_Lw_law_2083 rfl 6 rfl ?_
    refine r_iload d_Lw_law_2084 1 rfl ?_
    refine r_bipush d_Lw_law_2086 (v := 6) (by decide) ?_
    refine r_iadd d_Lw_law_2088 (v := 6) rfl ?_
    refine r_sld (v := zs g 6) d_Lw_law_2089 (by rw [hL]; exact fun q => q.elim (by decide) (by decide)) rfl ?_
    refine r_callV (As := [.int (zs g 1), .int (zs g 2), .int (zs g 3), .int (zs g 4), .int (zs g 5), .int (zs g 6)]) (rest := []) (csC := [(m, .inr (12, [.int 0, .ref mp, .int 4, .ref mf, .ref mh, .ref mn, .ref mt, .ref mz, .ref mc_, .ref mq, .ref mgr, .int 80, .int 35, .int 30, .int 50, .int 0, .int 0, .ref ml, .ref mi, .ref mr, .int 0, .int 0, .int 0, .int (-1), .int 0, .ref mm, .ref mu, .ref mk, .ref mx, .long 0, .long 0]))]) (is := [52]) (q0 := 52) rfl rfl ln_Lw_284 w_im_Mm_leastCost w_se_Mm_leastCost ok_Lw_law_Mm_leastCost d_Lw_law_2090 (C_Mm_leastCostE g m mp mf mh mn mt mz mc_ mq mgr ml mi mr mm mu mk mx 0 4 80 35 30 50 0 0 0 0 0 (-1) 0 0 0 (zs g 1) (zs g 2) (zs g 3) (zs g 4) (zs g 5) (zs g 6) hw) rfl rfl (Nat.le_of_ble_eq_true rfl) rfl (by decide) (by omega) (by omega) (fun E cs1 hx => ?_) (fun v cs1 hx => ?_)
    · exact absurd hx.1 (by simp)
    · obtain ⟨e1, rfl⟩ := hx
      cases e1
      refine ⟨rfl, ?_⟩
      refine r_st (st2 := [.int 0]) rfl ?_
      refine r_istore (lv' := [(7, .int 0), (6, .int 1), (5, .int 0), (4, .ref o2), (3, .ref o1), (2, .ref m), (1, .ref a), (0, .ref (g.2.2 40))]) d_Lw_law_2093 (by decide) rfl ?_
      refine r_aload_n d_Lw_law_2095 rfl 5 rfl ?_
      refine r_callV (As := []) (rest := []) (csC := [(m, .inr (12, [.int 1, .ref mp, .int 4, .ref mf, .ref mh, .ref mn, .ref mt, .ref mz, .ref mc_, .ref mq, .ref mgr, .int 80, .int 35, .int 30, .int 50, .int 0, .int 0, .ref ml, .ref mi, .ref mr, .int 0, .int 0, .int 0, .int (-1), .int 0, .ref mm, .ref mu, .ref mk, .ref mx, .long 0, .long 0]))]) (is := [52]) (q0 := 52) rfl rfl ln_Lw_175 w_im_Mm_thrown w_se_Mm_thrown ok_Lw_law_Mm_thrown d_Lw_law_2096 (C_Mm_thrown g m mp mf mh mn mt mz mc_ mq mgr ml mi mr mm mu mk mx 1 4 80 35 30 50 0 0 0 0 0 (-1) 0 0 0) rfl rfl (Nat.le_of_ble_eq_true rfl) rfl (by decide) (by omega) (by omega) (fun E cs1 hx => ?_) (fun v cs1 hx => ?_)
      · exact absurd hx.1 (by simp)
      · obtain ⟨e1, rfl⟩ := hx
        cases e1
        refine ⟨rfl, ?_⟩
        refine r_st (st2 := [.int 1]) rfl ?_
        refine r_iload d_Lw_law_2099 1 rfl ?_
        refine r_icmp_eq (tgt := 2106) d_Lw_law_2101 (by decide) (fun c_2101 => ?_) (fun c_2101 => ?_)
        · refine r_iload d_Lw_law_2106 1 rfl ?_
          refine r_if_ne (tgt := 2123) d_Lw_law_2108 (by decide) (fun c_2108 => ?_) (fun c_2108 => ?_)
          · refine r_goto (tgt := 3019) d_Lw_law_2123 (by decide) ?_
            refine r_lv (lv' := [(5, .int 0), (0, .ref (g.2.2 40))]) [2, 7] rfl ?_
            exact LW_tail g _ hL _ _ w0 n
          · exact absurd c_2108 (by decide)
        · exact absurd c_2101 (by decide)
set_option maxHeartbeats 4000000 in
set_option maxRecDepth 100000 in
theorem LW_leastCostF (g : zG) (a pa pa1 pa2 pa3 ta ta1 ta2 taz taz1 taz2 taz3 taz4 taz5 taz6 ta4 ta5 ta6 sa sa1 sa2 saz saz1 saz2 saz3 saz4 saz5 saz6 sa4 sa5 sa6 gs co co1 co2 co3 fu fub fubg fut1 fut2 fut3 la lab labg gy gyg du dug re wm ac m mp mf mh mn mt mz mc_ mq mgr ml mi mr mm mu mk mx o1 o2 : Nat) (hL : g.2.2 41 = 7) (hw : ((0 ≤ (zs g 1) ∧ (zs g 1) ≤ 450) ∧ ((zs g 1) ≤ (zs g 2) ∧ (zs g 2) ≤ 450) ∧ (0 ≤ (zs g 3) ∧ (zs g 3) ≤ 450) ∧ (1 ≤ (zs g 4) ∧ (zs g 4) ≤ 1000) ∧ (1 ≤ (zs g 5) ∧ (zs g 5) ≤ 1000) ∧ (1 ≤ (zs g 6) ∧ (zs g 6) ≤ 1000))) (hs : (rcO (zs g 1) (zs g 2) (zs g 3) (zs g 4) (zs g 5) (zs g 6) (-1, 0, 0, 0) 11).1 < 0) (w0 : zW) (n : Nat) : DV g M_Lw_law (lwP) w0 n 2008 [(5, .int 0), (4, .ref o2), (3, .ref o1), (2, .ref m), (1, .ref a), (0, .ref (g.2.2 40))] [] (lwCS g a pa pa1 pa2 pa3 ta ta1 ta2 taz taz1 taz2 taz3 taz4 taz5 taz6 ta4 ta5 ta6 sa sa1 sa2 saz saz1 saz2 saz3 saz4 saz5 saz6 sa4 sa5 sa6 gs co co1 co2 co3 fu fub fubg fut1 fut2 fut3 la lab labg gy gyg du dug re wm ac m mp mf mh mn mt mz mc_ mq mgr ml mi mr mm mu mk mx o1 o2) 100 1000 := by
  refine r_aload_n d_Lw_law_2008 rfl 4 rfl ?_
  refine r_aload_n d_Lw_law_2009 rfl 5 rfl ?_
  refine r_iload d_Lw_law_2010 0 rfl ?_
  refine r_iconst d_Lw_law_2012 (v := 1) (by decide) ?_
  refine r_iadd d_Lw_law_2013 (v := 1) rfl ?_
  refine r_sld (v := zs g 1) d_Lw_law_2014 (by rw [hL]; exact fun q => q.elim (by decide) (by decide)) rfl ?_
  refine r_aload_n d_Lw_law_2015 rfl 5 rfl ?_
  refine r_iload d_Lw_law_2016 0 rfl ?_
  refine r_iconst d_Lw_law_2018 (v := 2) (by decide) ?_
  refine r_iadd d_Lw_law_2019 (v := 2) rfl ?_
  refine r_sld (v := zs g 2) d_Lw_law_2020 (by rw [hL]; exact fun q => q.elim (by decide) (by decide)) rfl ?_
  refine r_aload_n d_Lw_law_2021 rfl 5 rfl ?_
  refine r_iload d_Lw_law_2022 0 rfl ?_
  refine r_iconst d_Lw_law_2024 (v := 3) (by decide) ?_
  refine r_iadd d_Lw_law_2025 (v := 3) rfl ?_
  refine r_sld (v := zs g 3) d_Lw_law_2026 (by rw [hL]; exact fun q => q.elim (by decide) (by decide)) rfl ?_
  refine r_aload_n d_Lw_law_2027 rfl 5 rfl ?_
  refine r_iload d_Lw_law_2028 0 rfl ?_
  refine r_iconst d_Lw_law_2030 (v := 4) (by decide) ?_
  refine r_iadd d_Lw_law_2031 (v := 4) rfl ?_
  refine r_sld (v := zs g 4) d_Lw_law_2032 (by rw [hL]; exact fun q => q.elim (by decide) (by decide)) rfl ?_
  refine r_aload_n d_Lw_law_2033 rfl 5 rfl ?_
  refine r_iload d_Lw_law_2034 0 rfl ?_
  refine r_iconst d_Lw_law_2036 (v := 5) (by decide) ?_
  refine r_iadd d_Lw_law_2037 (v := 5) rfl ?_
  refine r_sld (v := zs g 5) d_Lw_law_2038 (by rw [hL]; exact fun q => q.elim (by decide) (by decide)) rfl ?_
  refine r_aload_n d_Lw_law_2039 rfl 5 rfl ?_
  refine r_iload d_Lw_law_2040 0 rfl ?_
  refine r_bipush d_Lw_law_2042 (v := 6) (by decide) ?_
  refine r_iadd d_Lw_law_2044 (v := 6) rfl ?_
  refine r_sld (v := zs g 6) d_Lw_law_2045 (by rw [hL]; exact fun q => q.elim (by decide) (by decide)) rfl ?_
  refine r_aload_n d_Lw_law_2046 rfl 2 rfl ?_
  refine r_callSX (As := [.ref a, .int (zs g 1), .int (zs g 2), .int (zs g 3), .int (zs g 4), .int (zs g 5), .int (zs g 6), .ref o1]) (rest := []) (csC := [(a, .inr (11, [.ref pa, .ref ta, .ref sa, .ref gs, .ref co, .ref fu, .ref la, .ref gy, .ref du, .ref re, .ref wm, .ref ac])), (re, .inr (9, [.int 0, .int 0, .int 0])), (o1, .inl (3, 1, .inr (.inl (fun _ => 0))))]) (is := [0, 49, 69]) ln_Lw_281 w_st_Lw_leastCost ok_Lw_law_Lw_leastCost d_Lw_law_2047 (C_Lw_leastCostF g a pa ta sa gs co fu la gy du re wm ac 0 0 0 (zs g 1) (zs g 2) (zs g 3) (zs g 4) (zs g 5) (zs g 6) hw hs o1 (fun _ => 0)) rfl rfl (Nat.le_of_ble_eq_true rfl) rfl (by decide) (by omega) (by omega) (fun E cs1 hx => ?_) (fun v cs1 hx => ?_)
  · exact absurd hx.1 (by simp)
  · obtain ⟨e1, rfl⟩ := hx
    cases e1
    refine ⟨rfl, ?_⟩
    refine r_st (st2 := [.int 2]) rfl ?_
    refine r_istore (lv' := [(6, .int 2), (5, .int 0), (4, .ref o2), (3, .ref o1), (2, .ref m), (1, .ref a), (0, .ref (g.2.2 40))]) d_Lw_law_2050 (by decide) rfl ?_
    refine r_aload_n d_Lw_law_2052 rfl 4 rfl ?_
    refine r_aload_n d_Lw_law_2053 rfl 6 rfl ?_
    refine r_iload d_Lw_law_2054 1 rfl ?_
    refine r_iconst d_Lw_law_2056 (v := 1) (by decide) ?_
    refine r_iadd d_Lw_law_2057 (v := 1) rfl ?_
    refine r_sld (v := zs g 1) d_Lw_law_2058 (by rw [hL]; exact fun q => q.elim (by decide) (by decide)) rfl ?_
    refine r_aload_n d_Lw_law_2059 rfl 6 rfl ?_
    refine r_iload d_Lw_law_2060 1 rfl ?_
    refine r_iconst d_Lw_law_2062 (v := 2) (by decide) ?_
    refine r_iadd d_Lw_law_2063 (v := 2) rfl ?_
    refine r_sld (v := zs g 2) d_Lw_law_2064 (by rw [hL]; exact fun q => q.elim (by decide) (by decide)) rfl ?_
    refine r_aload_n d_Lw_law_2065 rfl 6 rfl ?_
    refine r_iload d_Lw_law_2066 1 rfl ?_
    refine r_iconst d_Lw_law_2068 (v := 3) (by decide) ?_
    refine r_iadd d_Lw_law_2069 (v := 3) rfl ?_
    refine r_sld (v := zs g 3) d_Lw_law_2070 (by rw [hL]; exact fun q => q.elim (by decide) (by decide)) rfl ?_
    refine r_aload_n d_Lw_law_2071 rfl 6 rfl ?_
    refine r_iload d_Lw_law_2072 1 rfl ?_
    refine r_iconst d_Lw_law_2074 (v := 4) (by decide) ?_
    refine r_iadd d_Lw_law_2075 (v := 4) rfl ?_
    refine r_sld (v := zs g 4) d_Lw_law_2076 (by rw [hL]; exact fun q => q.elim (by decide) (by decide)) rfl ?_
    refine r_aload_n d_Lw_law_2077 rfl 6 rfl ?_
    refine r_iload d_Lw_law_2078 1 rfl ?_
    refine r_iconst d_Lw_law_2080 (v := 5) (by decide) ?_
    refine r_iadd d_Lw_law_2081 (v := 5) rfl ?_
    refine r_sld (v := zs g 5) d_Lw_law_2082 (by rw [hL]; exact fun q => q.elim (by decide) (by decide)) rfl ?_
    refine r_aload_n d_Lw_law_2083 rfl 6 rfl ?_
    refine r_iload d_Lw_law_2084 1 rfl ?_
    refine r_bipush d_Lw_law_2086 (v := 6) (by decide) ?_
    refine r_iadd d_Lw_law_2088 (v := 6) rfl ?_
    refine r_sld (v := zs g 6) d_Lw_law_2089 (by rw [hL]; exact fun q => q.elim (by decide) (by decide)) rfl ?_
    refine r_callV (As := [.int (zs g 1), .int (zs g 2), .int (zs g 3), .int (zs g 4), .int (zs g 5), .int (zs g 6)]) (rest := []) (csC := [(m, .inr (12, [.int 0, .ref mp, .int 4, .ref mf, .ref mh, .ref mn, .ref mt, .ref mz, .ref mc_, .ref mq, .ref mgr, .int 80, .int 35, .int 30, .int 50, .int 0, .int 0, .ref ml, .ref mi, .ref mr, .int 0, .int 0, .int 0, .int (-1), .int 0, .ref mm, .ref mu, .ref mk, .ref mx, .long 0, .long 0]))]) (is := [52]) (q0 := 52) rfl rfl ln_Lw_284 w_im_Mm_leastCost w_se_Mm_leastCost ok_Lw_law_Mm_leastCost d_Lw_law_2090 (C_Mm_leastCostF g m mp mf mh mn mt mz mc_ mq mgr ml mi mr mm mu mk mx 0 4 80 35 30 50 0 0 0 0 0 (-1) 0 0 0 (zs g 1) (zs g 2) (zs g 3) (zs g 4) (zs g 5) (zs g 6) hw (fun P A h => prS_nn hw.2.2.2.1 hw.2.2.2.2.1 hw.2.2.2.2.2 h) (by rw [← rcO_1 (s := (-1, 0, 0, 0)) rfl 11]; exact hs)) rfl rfl (Nat.le_of_ble_eq_true rfl) rfl (by decide) (by omega) (by omega) (fun E cs1 hx => ?_) (fun v cs1 hx => ?_)
    · exact absurd hx.1 (by simp)
    · obtain ⟨e1, rfl⟩ := hx
      cases e1
      refine ⟨rfl, ?_⟩
      refine r_st (st2 := [.int 0]) rfl ?_
      refine r_istore (lv' := [(7, .int 0), (6, .int 2), (5, .int 0), (4, .ref o2), (3, .ref o1), (2, .ref m), (1, .ref a), (0, .ref (g.2.2 40))]) d_Lw_law_2093 (by decide) rfl ?_
      refine r_aload_n d_Lw_law_2095 rfl 5 rfl ?_
      refine r_callV (As := []) (rest := []) (csC := [(m, .inr (12, [.int 2, .ref mp, .int 4, .ref mf, .ref mh, .ref mn, .ref mt, .ref mz, .ref mc_, .ref mq, .ref mgr, .int 80, .int 35, .int 30, .int 50, .int 0, .int 0, .ref ml, .ref mi, .ref mr, .int 0, .int 0, .int 0, .int (-1), .int 0, .ref mm, .ref mu, .ref mk, .ref mx, .long 0, .long 0]))]) (is := [52]) (q0 := 52) rfl rfl ln_Lw_175 w_im_Mm_thrown w_se_Mm_thrown ok_Lw_law_Mm_thrown d_Lw_law_2096 (C_Mm_thrown g m mp mf mh mn mt mz mc_ mq mgr ml mi mr mm mu mk mx 2 4 80 35 30 50 0 0 0 0 0 (-1) 0 0 0) rfl rfl (Nat.le_of_ble_eq_true rfl) rfl (by decide) (by omega) (by omega) (fun E cs1 hx => ?_) (fun v cs1 hx => ?_)
      · exact absurd hx.1 (by simp)
      · obtain ⟨e1, rfl⟩ := hx
        cases e1
        refine ⟨rfl, ?_⟩
        refine r_st (st2 := [.int 2]) rfl ?_
        refine r_iload d_Lw_law_2099 1 rfl ?_
        refine r_icmp_eq (tgt := 2106) d_Lw_law_2101 (by decide) (fun c_2101 => ?_) (fun c_2101 => ?_)
        · refine r_iload d_Lw_law_2106 1 rfl ?_
          refine r_if_ne (tgt := 2123) d_Lw_law_2108 (by decide) (fun c_2108 => ?_) (fun c_2108 => ?_)
          · refine r_goto (tgt := 3019) d_Lw_law_2123 (by decide) ?_
            refine r_lv (lv' := [(5, .int 0), (0, .ref (g.2.2 40))]) [2, 7] rfl ?_
            exact LW_tail g _ hL _ _ w0 n
          · exact absurd c_2108 (by decide)
        · exact absurd c_2101 (by decide)
theorem d_Lw_law_2111 : decode code 2111 = .ok (.aload_n 3, 1) := by decide +kernel
theorem d_Lw_law_2112 : decode code 2112 = .ok (.iconst 0, 1) := by decide +kernel
theorem d_Lw_law_2113 : decode code 2113 = .ok (.laload, 1) := by decide +kernel
theorem d_Lw_law_2114 : decode code 2114 = .ok (.iload 7, 2) := by decide +kernel
theorem d_Lw_law_2116 : decode code 2116 = .ok (.i2l, 1) := by decide +kernel
theorem d_Lw_law_2117 : decode code 2117 = .ok (.lcmp, 1) := by decide +kernel
theorem d_Lw_law_2118 : decode code 2118 = .ok (.ifCond .eq 5, 3) := by decide +kernel
set_option maxHeartbeats 4000000 in
set_option maxRecDepth 100000 in
theorem LW_leastCostN (g : zG) (a pa pa1 pa2 pa3 ta ta1 ta2 taz taz1 taz2 taz3 taz4 taz5 taz6 ta4 ta5 ta6 sa sa1 sa2 saz saz1 saz2 saz3 saz4 saz5 saz6 sa4 sa5 sa6 gs co co1 co2 co3 fu fub fubg fut1 fut2 fut3 la lab labg gy gyg du dug re wm ac m mp mf mh mn mt mz mc_ mq mgr ml mi mr mm mu mk mx o1 o2 : Nat) (hL : g.2.2 41 = 7) (hw : ((0 ≤ (zs g 1) ∧ (zs g 1) ≤ 450) ∧ ((zs g 1) ≤ (zs g 2) ∧ (zs g 2) ≤ 450) ∧ (0 ≤ (zs g 3) ∧ (zs g 3) ≤ 450) ∧ (1 ≤ (zs g 4) ∧ (zs g 4) ≤ 1000) ∧ (1 ≤ (zs g 5) ∧ (zs g 5) ≤ 1000) ∧ (1 ≤ (zs g 6) ∧ (zs g 6) ≤ 1000))) (hs : ¬ (rcO (zs g 1) (zs g 2) (zs g 3) (zs g 4) (zs g 5) (zs g 6) (-1, 0, 0, 0) 11).1 < 0) (w0 : zW) (n : Nat) : DV g M_Lw_law (lwP) w0 n 2008 [(5, .int 0), (4, .ref o2), (3, .ref o1), (2, .ref m), (1, .ref a), (0, .ref (g.2.2 40))] [] (lwCS g a pa pa1 pa2 pa3 ta ta1 ta2 taz taz1 taz2 taz3 taz4 taz5 taz6 ta4 ta5 ta6 sa sa1 sa2 saz saz1 saz2 saz3 saz4 saz5 saz6 sa4 sa5 sa6 gs co co1 co2 co3 fu fub fubg fut1 fut2 fut3 la lab labg gy gyg du dug re wm ac m mp mf mh mn mt mz mc_ mq mgr ml mi mr mm mu mk mx o1 o2) 100 1000 := by
  refine r_aload_n d_Lw_law_2008 rfl 4 rfl ?_
  refine r_aload_n d_Lw_law_2009 rfl 5 rfl ?_
  refine r_iload d_Lw_law_2010 0 rfl ?_
  refine r_iconst d_Lw_law_2012 (v := 1) (by decide) ?_
  refine r_iadd d_Lw_law_2013 (v := 1) rfl ?_
  refine r_sld (v := zs g 1) d_Lw_law_2014 (by rw [hL]; exact fun q => q.elim (by decide) (by decide)) rfl ?_
  refine r_aload_n d_Lw_law_2015 rfl 5 rfl ?_
  refine r_iload d_Lw_law_2016 0 rfl ?_
  refine r_iconst d_Lw_law_2018 (v := 2) (by decide) ?_
  refine r_iadd d_Lw_law_2019 (v := 2) rfl ?_
  refine r_sld (v := zs g 2) d_Lw_law_2020 (by rw [hL]; exact fun q => q.elim (by decide) (by decide)) rfl ?_
  refine r_aload_n d_Lw_law_2021 rfl 5 rfl ?_
  refine r_iload d_Lw_law_2022 0 rfl ?_
  refine r_iconst d_Lw_law_2024 (v := 3) (by decide) ?_
  refine r_iadd d_Lw_law_2025 (v := 3) rfl ?_
  refine r_sld (v := zs g 3) d_Lw_law_2026 (by rw [hL]; exact fun q => q.elim (by decide) (by decide)) rfl ?_
  refine r_aload_n d_Lw_law_2027 rfl 5 rfl ?_
  refine r_iload d_Lw_law_2028 0 rfl ?_
  refine r_iconst d_Lw_law_2030 (v := 4) (by decide) ?_
  refine r_iadd d_Lw_law_2031 (v := 4) rfl ?_
  refine r_sld (v := zs g 4) d_Lw_law_2032 (by rw [hL]; exact fun q => q.elim (by decide) (by decide)) rfl ?_
  refine r_aload_n d_Lw_law_2033 rfl 5 rfl ?_
  refine r_iload d_Lw_law_2034 0 rfl ?_
  refine r_iconst d_Lw_law_2036 (v := 5) (by decide) ?_
  refine r_iadd d_Lw_law_2037 (v := 5) rfl ?_
  refine r_sld (v := zs g 5) d_Lw_law_2038 (by rw [hL]; exact fun q => q.elim (by decide) (by decide)) rfl ?_
  refine r_aload_n d_Lw_law_2039 rfl 5 rfl ?_
  refine r_iload d_Lw_law_2040 0 rfl ?_
  refine r_bipush d_Lw_law_2042 (v := 6) (by decide) ?_
  refine r_iadd d_Lw_law_2044 (v := 6) rfl ?_
  refine r_sld (v := zs g 6) d_Lw_law_2045 (by rw [hL]; exact fun q => q.elim (by decide) (by decide)) rfl ?_
  refine r_aload_n d_Lw_law_2046 rfl 2 rfl ?_
  refine r_callSX (As := [.ref a, .int (zs g 1), .int (zs g 2), .int (zs g 3), .int (zs g 4), .int (zs g 5), .int (zs g 6), .ref o1]) (rest := []) (csC := [(a, .inr (11, [.ref pa, .ref ta, .ref sa, .ref gs, .ref co, .ref fu, .ref la, .ref gy, .ref du, .ref re, .ref wm, .ref ac])), (re, .inr (9, [.int 0, .int 0, .int 0])), (o1, .inl (3, 1, .inr (.inl (fun _ => 0))))]) (is := [0, 49, 69]) ln_Lw_281 w_st_Lw_leastCost ok_Lw_law_Lw_leastCost d_Lw_law_2047 (C_Lw_leastCostN g a pa ta sa gs co fu la gy du re wm ac 0 0 0 (zs g 1) (zs g 2) (zs g 3) (zs g 4) (zs g 5) (zs g 6) hw hs o1 (fun _ => 0)) rfl rfl (Nat.le_of_ble_eq_true rfl) rfl (by decide) (by omega) (by omega) (fun E cs1 hx => ?_) (fun v cs1 hx => ?_)
  · exact absurd hx.1 (by simp)
  · obtain ⟨e1, rfl⟩ := hx
    cases e1
    refine ⟨rfl, ?_⟩
    refine r_st (st2 := [.int 0]) rfl ?_
    refine r_istore (lv' := [(6, .int 0), (5, .int 0), (4, .ref o2), (3, .ref o1), (2, .ref m), (1, .ref a), (0, .ref (g.2.2 40))]) d_Lw_law_2050 (by decide) rfl ?_
    refine r_aload_n d_Lw_law_2052 rfl 4 rfl ?_
    refine r_aload_n d_Lw_law_2053 rfl 6 rfl ?_
    refine r_iload d_Lw_law_2054 1 rfl ?_
    refine r_iconst d_Lw_law_2056 (v := 1) (by decide) ?_
    refine r_iadd d_Lw_law_2057 (v := 1) rfl ?_
    refine r_sld (v := zs g 1) d_Lw_law_2058 (by rw [hL]; exact fun q => q.elim (by decide) (by decide)) rfl ?_
    refine r_aload_n d_Lw_law_2059 rfl 6 rfl ?_
    refine r_iload d_Lw_law_2060 1 rfl ?_
    refine r_iconst d_Lw_law_2062 (v := 2) (by decide) ?_
    refine r_iadd d_Lw_law_2063 (v := 2) rfl ?_
    refine r_sld (v := zs g 2) d_Lw_law_2064 (by rw [hL]; exact fun q => q.elim (by decide) (by decide)) rfl ?_
    refine r_aload_n d_Lw_law_2065 rfl 6 rfl ?_
    refine r_iload d_Lw_law_2066 1 rfl ?_
    refine r_iconst d_Lw_law_2068 (v := 3) (by decide) ?_
    refine r_iadd d_Lw_law_2069 (v := 3) rfl ?_
    refine r_sld (v := zs g 3) d_Lw_law_2070 (by rw [hL]; exact fun q => q.elim (by decide) (by decide)) rfl ?_
    refine r_aload_n d_Lw_law_2071 rfl 6 rfl ?_
    refine r_iload d_Lw_law_2072 1 rfl ?_
    refine r_iconst d_Lw_law_2074 (v := 4) (by decide) ?_
    refine r_iadd d_Lw_law_2075 (v := 4) rfl ?_
    refine r_sld (v := zs g 4) d_Lw_law_2076 (by rw [hL]; exact fun q => q.elim (by decide) (by decide)) rfl ?_
    refine r_aload_n d_Lw_law_2077 rfl 6 rfl ?_
    refine r_iload d_Lw_law_2078 1 rfl ?_
    refine r_iconst d_Lw_law_2080 (v := 5) (by decide) ?_
    refine r_iadd d_Lw_law_2081 (v := 5) rfl ?_
    refine r_sld (v := zs g 5) d_Lw_law_2082 (by rw [hL]; exact fun q => q.elim (by decide) (by decide)) rfl ?_
    refine r_aload_n d_Lw_law_2083 rfl 6 rfl ?_
    refine r_iload d_Lw_law_2084 1 rfl ?_
    refine r_bipush d_Lw_law_2086 (v := 6) (by decide) ?_
    refine r_iadd d_Lw_law_2088 (v := 6) rfl ?_
    refine r_sld (v := zs g 6) d_Lw_law_2089 (by rw [hL]; exact fun q => q.elim (by decide) (by decide)) rfl ?_
    refine r_callV (As := [.int (zs g 1), .int (zs g 2), .int (zs g 3), .int (zs g 4), .int (zs g 5), .int (zs g 6)]) (rest := []) (csC := [(m, .inr (12, [.int 0, .ref mp, .int 4, .ref mf, .ref mh, .ref mn, .ref mt, .ref mz, .ref mc_, .ref mq, .ref mgr, .int 80, .int 35, .int 30, .int 50, .int 0, .int 0, .ref ml, .ref mi, .ref mr, .int 0, .int 0, .int 0, .int (-1), .int 0, .ref mm, .ref mu, .ref mk, .ref mx, .long 0, .long 0]))]) (is := [52]) (q0 := 52) rfl rfl ln_Lw_284 w_im_Mm_leastCost w_se_Mm_leastCost ok_Lw_law_Mm_leastCost d_Lw_law_2090 (C_Mm_leastCostN g m mp mf mh mn mt mz mc_ mq mgr ml mi mr mm mu mk mx 0 4 80 35 30 50 0 0 0 0 0 (-1) 0 0 0 (zs g 1) (zs g 2) (zs g 3) (zs g 4) (zs g 5) (zs g 6) hw (fun P A h => prS_nn hw.2.2.2.1 hw.2.2.2.2.1 hw.2.2.2.2.2 h) (by rw [← rcO_1 (s := (-1, 0, 0, 0)) rfl 11]; exact hs)) rfl rfl (Nat.le_of_ble_eq_true rfl) rfl (by decide) (by omega) (by omega) (fun E cs1 hx => ?_) (fun v cs1 hx => ?_)
    · exact absurd hx.1 (by simp)
    · obtain ⟨e1, rfl⟩ := hx
      cases e1
      refine ⟨rfl, ?_⟩
      refine r_st (st2 := [.int ((rcO (zs g 1) (zs g 2) (zs g 3) (zs g 4) (zs g 5) (zs g 6) (-1, -1, 0, 0) 11).1)]) rfl ?_
      refine r_istore (lv' := [(7, .int ((rcO (zs g 1) (zs g 2) (zs g 3) (zs g 4) (zs g 5) (zs g 6) (-1, -1, 0, 0) 11).1)), (6, .int 0), (5, .int 0), (4, .ref o2), (3, .ref o1), (2, .ref m), (1, .ref a), (0, .ref (g.2.2 40))]) d_Lw_law_2093 (by decide) rfl ?_
      refine r_aload_n d_Lw_law_2095 rfl 5 rfl ?_
      refine r_callV (As := []) (rest := []) (csC := [(m, .inr (12, [.int 0, .ref mp, .int 4, .ref mf, .ref mh, .ref mn, .ref mt, .ref mz, .ref mc_, .ref mq, .ref mgr, .int 80, .int 35, .int 30, .int 50, .int 0, .int 0, .ref ml, .ref mi, .ref mr, .int 0, .int 0, .int 0, .int ((rcO (zs g 1) (zs g 2) (zs g 3) (zs g 4) (zs g 5) pa (-1, -1, 0, 0) 11).2.1), .int ((rcO (zs g 1) (zs g 2) (zs g 3) (zs g 4) (zs g 5) pa (-1, -1, 0, 0) 11).2.2.1), .ref mm, .ref mu, .ref mk, .ref mx, .long 0, .long 0]))]) (is := [52]) (q0 := 52) rfl rfl ln_Lw_175 w_im_Mm_thrown w_se_Mm_thrown ok_Lw_law_Mm_thrown d_Lw_law_2096 (C_Mm_thrown g m mp mf mh mn mt mz mc_ mq mgr ml mi mr mm mu mk mx 0 4 80 35 30 50 0 0 0 0 0 ((rcO (zs g 1) (zs g 2) (zs g 3) (zs g 4) (zs g 5) pa (-1, -1, 0, 0) 11).2.1) ((rcO (zs g 1) (zs g 2) (zs g 3) (zs g 4) (zs g 5) pa (-1, -1, 0, 0) 11).2.2.1) 0 0) rfl rfl (Nat.le_of_ble_eq_true rfl) rfl (by decide) (by omega) (by omega) (fun E cs1 hx => ?_) (fun v cs1 hx => ?_)
      · exact absurd hx.1 (by simp)
      · obtain ⟨e1, rfl⟩ := hx
        cases e1
        refine ⟨rfl, ?_⟩
        refine r_st (st2 := [.int 0]) rfl ?_
        refine r_iload d_Lw_law_2099 1 rfl ?_
        refine r_icmp_eq (tgt := 2106) d_Lw_law_2101 (by decide) (fun c_2101 => ?_) (fun c_2101 => ?_)
        · refine r_iload d_Lw_law_2106 1 rfl ?_
          refine r_if_ne (tgt := 2123) d_Lw_law_2108 (by decide) (fun c_2108 => ?_) (fun c_2108 => ?_)
          · exact absurd c_2108 (by decide)
          · refine r_aload_n d_Lw_law_2111 rfl 4 rfl ?_
            refine r_iconst d_Lw_law_2112 (v := 0) (by decide) ?_
            refine r_lald d_Lw_law_2113 (q0 := 69) rfl (fun q => q.elim (by decide) (by decide)) (v := (vp_updL (fun _ => 0) 0 (((rcO (zs g 1) (zs g 2) (zs g 3) (zs g 4) (zs g 5) (zs g 6) (-1, 0, 0, 0) 11).1)).toInt64) 0) rfl ?_
            refine r_iload d_Lw_law_2114 0 rfl ?_
            refine r_i2l d_Lw_law_2116 (v := ((rcO (zs g 1) (zs g 2) (zs g 3) (zs g 4) (zs g 5) (zs g 6) (-1, -1, 0, 0) 11).1).toInt64) rfl ?_
            refine r_lcmp d_Lw_law_2117 (v := 0) (zl_cmp (rcO_1 rfl 11)) ?_
            refine r_if_eq (tgt := 2123) d_Lw_law_2118 (by decide) (fun c_2118 => ?_) (fun c_2118 => ?_)
            · refine r_goto (tgt := 3019) d_Lw_law_2123 (by decide) ?_
              refine r_lv (lv' := [(5, .int 0), (0, .ref (g.2.2 40))]) [2, 7] rfl ?_
              exact LW_tail g _ hL _ _ w0 n
            · exact absurd c_2118 (by decide)
        · exact absurd c_2101 (by decide)
theorem d_Lw_law_2126 : decode code 2126 = .ok (.aload_n 1, 1) := by decide +kernel
theorem d_Lw_law_2127 : decode code 2127 = .ok (.aload_n 0, 1) := by decide +kernel
theorem d_Lw_law_2128 : decode code 2128 = .ok (.iload 5, 2) := by decide +kernel
theorem d_Lw_law_2130 : decode code 2130 = .ok (.iconst 1, 1) := by decide +kernel
theorem d_Lw_law_2131 : decode code 2131 = .ok (.iadd, 1) := by decide +kernel
theorem d_Lw_law_2132 : decode code 2132 = .ok (.iaload, 1) := by decide +kernel
theorem d_Lw_law_2133 : decode code 2133 = .ok (.i2c, 1) := by decide +kernel
theorem d_Lw_law_2134 : decode code 2134 = .ok (.aload_n 3, 1) := by decide +kernel
theorem d_Lw_law_2135 : decode code 2135 = .ok (.invokestatic 285, 3) := by decide +kernel
theorem ok_Lw_law_Lw_cheapest : z_okX M_Lw_law M_Lw_cheapest 3 := ⟨z_mem (i := 1217) (by decide +kernel) (by decide +kernel), by decide, ⟨by decide +kernel, by decide +kernel, by decide +kernel⟩, ⟨by decide, by decide⟩, z_mem (i := 57) (by decide +kernel) (by decide +kernel), rfl⟩
theorem ln_Lw_285 : Cond.methodLink "IronpourLaw" 285 M_Lw_cheapest.1 ∈ z_gw := z_mem (i := 1215) (by decide +kernel) (by decide +kernel)
theorem w_st_Lw_cheapest : Cond.static M_Lw_cheapest.1 ∈ z_gw := z_mem (i := 1216) (by decide +kernel) (by decide +kernel)
theorem d_Lw_law_2138 : decode code 2138 = .ok (.istore 6, 2) := by decide +kernel
theorem d_Lw_law_2140 : decode code 2140 = .ok (.aload_n 2, 1) := by decide +kernel
theorem d_Lw_law_2141 : decode code 2141 = .ok (.aload_n 0, 1) := by decide +kernel
theorem d_Lw_law_2142 : decode code 2142 = .ok (.iload 5, 2) := by decide +kernel
theorem d_Lw_law_2144 : decode code 2144 = .ok (.iconst 1, 1) := by decide +kernel
theorem d_Lw_law_2145 : decode code 2145 = .ok (.iadd, 1) := by decide +kernel
theorem d_Lw_law_2146 : decode code 2146 = .ok (.iaload, 1) := by decide +kernel
theorem d_Lw_law_2147 : decode code 2147 = .ok (.i2c, 1) := by decide +kernel
theorem d_Lw_law_2148 : decode code 2148 = .ok (.invokevirtual 287, 3) := by decide +kernel
theorem ok_Lw_law_Mm_cheapest : z_ok M_Lw_law M_Mm_cheapest 1 := ⟨z_mem (i := 1955) (by decide +kernel) (by decide +kernel), rfl, ⟨by decide +kernel, by decide +kernel, by decide +kernel⟩, ⟨by decide, by decide⟩, z_mem (i := 71) (by decide +kernel) (by decide +kernel), rfl⟩
theorem ln_Lw_287 : Cond.methodLink "IronpourLaw" 287 M_Mm_cheapest.1 ∈ z_gw := z_mem (i := 1952) (by decide +kernel) (by decide +kernel)
theorem w_im_Mm_cheapest : Cond.instanceMethod M_Mm_cheapest.1 ∈ z_gw := z_mem (i := 1953) (by decide +kernel) (by decide +kernel)
theorem w_se_Mm_cheapest : Cond.selects M_Mm_cheapest.1.cls M_Mm_cheapest.1 M_Mm_cheapest.1 ∈ z_gw := z_mem (i := 1954) (by decide +kernel) (by decide +kernel)
theorem d_Lw_law_2151 : decode code 2151 = .ok (.istore 7, 2) := by decide +kernel
theorem d_Lw_law_2153 : decode code 2153 = .ok (.aload_n 2, 1) := by decide +kernel
theorem d_Lw_law_2154 : decode code 2154 = .ok (.invokevirtual 175, 3) := by decide +kernel
theorem d_Lw_law_2157 : decode code 2157 = .ok (.iload 6, 2) := by decide +kernel
theorem d_Lw_law_2159 : decode code 2159 = .ok (.if_icmp .eq 5, 3) := by decide +kernel
theorem d_Lw_law_2164 : decode code 2164 = .ok (.iload 6, 2) := by decide +kernel
theorem d_Lw_law_2166 : decode code 2166 = .ok (.ifCond .ne 15, 3) := by decide +kernel
theorem d_Lw_law_2181 : decode code 2181 = .ok (.goto 838, 3) := by decide +kernel
set_option maxHeartbeats 4000000 in
set_option maxRecDepth 100000 in
theorem LW_cheapestE (g : zG) (a pa pa1 pa2 pa3 ta ta1 ta2 taz taz1 taz2 taz3 taz4 taz5 taz6 ta4 ta5 ta6 sa sa1 sa2 saz saz1 saz2 saz3 saz4 saz5 saz6 sa4 sa5 sa6 gs co co1 co2 co3 fu fub fubg fut1 fut2 fut3 la lab labg gy gyg du dug re wm ac m mp mf mh mn mt mz mc_ mq mgr ml mi mr mm mu mk mx o1 o2 : Nat) (hL : g.2.2 41 = 7) (hw : z_ix 4 (zc g 1) < 0) (w0 : zW) (n : Nat) : DV g M_Lw_law (lwP) w0 n 2126 [(5, .int 0), (4, .ref o2), (3, .ref o1), (2, .ref m), (1, .ref a), (0, .ref (g.2.2 40))] [] (lwCS g a pa pa1 pa2 pa3 ta ta1 ta2 taz taz1 taz2 taz3 taz4 taz5 taz6 ta4 ta5 ta6 sa sa1 sa2 saz saz1 saz2 saz3 saz4 saz5 saz6 sa4 sa5 sa6 gs co co1 co2 co3 fu fub fubg fut1 fut2 fut3 la lab labg gy gyg du dug re wm ac m mp mf mh mn mt mz mc_ mq mgr ml mi mr mm mu mk mx o1 o2) 100 1000 := by
  refine r_aload_n d_Lw_law_2126 rfl 4 rfl ?_
  refine r_aload_n d_Lw_law_2127 rfl 5 rfl ?_
  refine r_iload d_Lw_law_2128 0 rfl ?_
  refine r_iconst d_Lw_law_2130 (v := 1) (by decide) ?_
  refine r_iadd d_Lw_law_2131 (v := 1) rfl ?_
  refine r_sld (v := zs g 1) d_Lw_law_2132 (by rw [hL]; exact fun q => q.elim (by decide) (by decide)) rfl ?_
  refine r_i2c d_Lw_law_2133 (v := zc g 1) rfl ?_
  refine r_aload_n d_Lw_law_2134 rfl 2 rfl ?_
  refine r_callSX (As := [.ref a, .int (zc g 1), .ref o1]) (rest := []) (csC := [(a, .inr (11, [.ref pa, .ref ta, .ref sa, .ref gs, .ref co, .ref fu, .ref la, .ref gy, .ref du, .ref re, .ref wm, .ref ac])), (re, .inr (9, [.int 0, .int 0, .int 0])), (o1, .inl (3, 1, .inr (.inl (fun _ => 0))))]) (is := [0, 49, 69]) ln_Lw_285 w_st_Lw_cheapest ok_Lw_law_Lw_cheapest d_Lw_law_2135 (C_Lw_cheapestE g a pa ta sa gs co fu la gy du re wm ac 0 0 0 (zc g 1) hw o1 (fun _ => 0)) rfl rfl (Nat.le_of_ble_eq_true rfl) rfl (by decide) (by omega) (by omega) (fun E cs1 hx => ?_) (fun v cs1 hx => ?_)
  · exact absurd hx.1 (by simp)
  · obtain ⟨e1, rfl⟩ := hx
    cases e1
    refine ⟨rfl, ?_⟩
    refine r_st (st2 := [.int 1]) rfl ?_
    refine r_istore (lv' := [(6, .int 1), (5, .int 0), (4, .ref o2), (3, .ref o1), (2, .ref m), (1, .ref a), (0, .ref (g.2.2 40))]) d_Lw_law_2138 (by decide) rfl ?_
    refine r_aload_n d_Lw_law_2140 rfl 4 rfl ?_
    refine r_aload_n d_Lw_law_2141 rfl 6 rfl ?_
    refine r_iload d_Lw_law_2142 1 rfl ?_
    refine r_iconst d_Lw_law_2144 (v := 1) (by decide) ?_
    refine r_iadd d_Lw_law_2145 (v := 1) rfl ?_
    refine r_sld (v := zs g 1) d_Lw_law_2146 (by rw [hL]; exact fun q => q.elim (by decide) (by decide)) rfl ?_
    refine r_i2c d_Lw_law_2147 (v := zc g 1) rfl ?_
    refine r_callV (As := [.int (zc g 1)]) (rest := []) (csC := [(m, .inr (12, [.int 0, .ref mp, .int 4, .ref mf, .ref mh, .ref mn, .ref mt, .ref mz, .ref mc_, .ref mq, .ref mgr, .int 80, .int 35, .int 30, .int 50, .int 0, .int 0, .ref ml, .ref mi, .ref mr, .int 0, .int 0, .int 0, .int (-1), .int 0, .ref mm, .ref mu, .ref mk, .ref mx, .long 0, .long 0]))]) (is := [52]) (q0 := 52) rfl rfl ln_Lw_287 w_im_Mm_cheapest w_se_Mm_cheapest ok_Lw_law_Mm_cheapest d_Lw_law_2148 (C_Mm_cheapestE g m mp mf mh mn mt mz mc_ mq mgr ml mi mr mm mu mk mx 0 4 80 35 30 50 0 0 0 0 0 (-1) 0 0 0 (zc g 1) hw) rfl rfl (Nat.le_of_ble_eq_true rfl) rfl (by decide) (by omega) (by omega) (fun E cs1 hx => ?_) (fun v cs1 hx => ?_)
    · exact absurd hx.1 (by simp)
    · obtain ⟨e1, rfl⟩ := hx
      cases e1
      refine ⟨rfl, ?_⟩
      refine r_st (st2 := [.int 0]) rfl ?_
      refine r_istore (lv' := [(7, .int 0), (6, .int 1), (5, .int 0), (4, .ref o2), (3, .ref o1), (2, .ref m), (1, .ref a), (0, .ref (g.2.2 40))]) d_Lw_law_2151 (by decide) rfl ?_
      refine r_aload_n d_Lw_law_2153 rfl 5 rfl ?_
      refine r_callV (As := []) (rest := []) (csC := [(m, .inr (12, [.int 1, .ref mp, .int 4, .ref mf, .ref mh, .ref mn, .ref mt, .ref mz, .ref mc_, .ref mq, .ref mgr, .int 80, .int 35, .int 30, .int 50, .int 0, .int 0, .ref ml, .ref mi, .ref mr, .int 0, .int 0, .int 0, .int (-1), .int 0, .ref mm, .ref mu, .ref mk, .ref mx, .long 0, .long 0]))]) (is := [52]) (q0 := 52) rfl rfl ln_Lw_175 w_im_Mm_thrown w_se_Mm_thrown ok_Lw_law_Mm_thrown d_Lw_law_2154 (C_Mm_thrown g m mp mf mh mn mt mz mc_ mq mgr ml mi mr mm mu mk mx 1 4 80 35 30 50 0 0 0 0 0 (-1) 0 0 0) rfl rfl (Nat.le_of_ble_eq_true rfl) rfl (by decide) (by omega) (by omega) (fun E cs1 hx => ?_) (fun v cs1 hx => ?_)
      · exact absurd hx.1 (by simp)
      · obtain ⟨e1, rfl⟩ := hx
        cases e1
        refine ⟨rfl, ?_⟩
        refine r_st (st2 := [.int 1]) rfl ?_
        refine r_iload d_Lw_law_2157 1 rfl ?_
        refine r_icmp_eq (tgt := 2164) d_Lw_law_2159 (by decide) (fun c_2159 => ?_) (fun c_2159 => ?_)
        · refine r_iload d_Lw_law_2164 1 rfl ?_
          refine r_if_ne (tgt := 2181) d_Lw_law_2166 (by decide) (fun c_2166 => ?_) (fun c_2166 => ?_)
          · refine r_goto (tgt := 3019) d_Lw_law_2181 (by decide) ?_
            refine r_lv (lv' := [(5, .int 0), (0, .ref (g.2.2 40))]) [2, 7] rfl ?_
            exact LW_tail g _ hL _ _ w0 n
          · exact absurd c_2166 (by decide)
        · exact absurd c_2159 (by decide)
set_option maxHeartbeats 4000000 in
set_option maxRecDepth 100000 in
theorem LW_cheapestF (g : zG) (a pa pa1 pa2 pa3 ta ta1 ta2 taz taz1 taz2 taz3 taz4 taz5 taz6 ta4 ta5 ta6 sa sa1 sa2 saz saz1 saz2 saz3 saz4 saz5 saz6 sa4 sa5 sa6 gs co co1 co2 co3 fu fub fubg fut1 fut2 fut3 la lab labg gy gyg du dug re wm ac m mp mf mh mn mt mz mc_ mq mgr ml mi mr mm mu mk mx o1 o2 : Nat) (hL : g.2.2 41 = 7) (hw : ¬ z_ix 4 (zc g 1) < 0) (w0 : zW) (n : Nat) : DV g M_Lw_law (lwP) w0 n 2126 [(5, .int 0), (4, .ref o2), (3, .ref o1), (2, .ref m), (1, .ref a), (0, .ref (g.2.2 40))] [] (lwCS g a pa pa1 pa2 pa3 ta ta1 ta2 taz taz1 taz2 taz3 taz4 taz5 taz6 ta4 ta5 ta6 sa sa1 sa2 saz saz1 saz2 saz3 saz4 saz5 saz6 sa4 sa5 sa6 gs co co1 co2 co3 fu fub fubg fut1 fut2 fut3 la lab labg gy gyg du dug re wm ac m mp mf mh mn mt mz mc_ mq mgr ml mi mr mm mu mk mx o1 o2) 100 1000 := by
  refine r_aload_n d_Lw_law_2126 rfl 4 rfl ?_
  refine r_aload_n d_Lw_law_2127 rfl 5 rfl ?_
  refine r_iload d_Lw_law_2128 0 rfl ?_
  refine r_iconst d_Lw_law_2130 (v := 1) (by decide) ?_
  refine r_iadd d_Lw_law_2131 (v := 1) rfl ?_
  refine r_sld (v := zs g 1) d_Lw_law_2132 (by rw [hL]; exact fun q => q.elim (by decide) (by decide)) rfl ?_
  refine r_i2c d_Lw_law_2133 (v := zc g 1) rfl ?_
  refine r_aload_n d_Lw_law_2134 rfl 2 rfl ?_
  refine r_callSX (As := [.ref a, .int (zc g 1), .ref o1]) (rest := []) (csC := [(a, .inr (11, [.ref pa, .ref ta, .ref sa, .ref gs, .ref co, .ref fu, .ref la, .ref gy, .ref du, .ref re, .ref wm, .ref ac])), (re, .inr (9, [.int 0, .int 0, .int 0])), (o1, .inl (3, 1, .inr (.inl (fun _ => 0))))]) (is := [0, 49, 69]) ln_Lw_285 w_st_Lw_cheapest ok_Lw_law_Lw_cheapest d_Lw_law_2135 (C_Lw_cheapestF g a pa ta sa gs co fu la gy du re wm ac 0 0 0 (zc g 1) hw rfl o1 (fun _ => 0)) rfl rfl (Nat.le_of_ble_eq_true rfl) rfl (by decide) (by omega) (by omega) (fun E cs1 hx => ?_) (fun v cs1 hx => ?_)
  · exact absurd hx.1 (by simp)
  · obtain ⟨e1, rfl⟩ := hx
    cases e1
    refine ⟨rfl, ?_⟩
    refine r_st (st2 := [.int 2]) rfl ?_
    refine r_istore (lv' := [(6, .int 2), (5, .int 0), (4, .ref o2), (3, .ref o1), (2, .ref m), (1, .ref a), (0, .ref (g.2.2 40))]) d_Lw_law_2138 (by decide) rfl ?_
    refine r_aload_n d_Lw_law_2140 rfl 4 rfl ?_
    refine r_aload_n d_Lw_law_2141 rfl 6 rfl ?_
    refine r_iload d_Lw_law_2142 1 rfl ?_
    refine r_iconst d_Lw_law_2144 (v := 1) (by decide) ?_
    refine r_iadd d_Lw_law_2145 (v := 1) rfl ?_
    refine r_sld (v := zs g 1) d_Lw_law_2146 (by rw [hL]; exact fun q => q.elim (by decide) (by decide)) rfl ?_
    refine r_i2c d_Lw_law_2147 (v := zc g 1) rfl ?_
    refine r_callV (As := [.int (zc g 1)]) (rest := []) (csC := [(m, .inr (12, [.int 0, .ref mp, .int 4, .ref mf, .ref mh, .ref mn, .ref mt, .ref mz, .ref mc_, .ref mq, .ref mgr, .int 80, .int 35, .int 30, .int 50, .int 0, .int 0, .ref ml, .ref mi, .ref mr, .int 0, .int 0, .int 0, .int (-1), .int 0, .ref mm, .ref mu, .ref mk, .ref mx, .long 0, .long 0]))]) (is := [52]) (q0 := 52) rfl rfl ln_Lw_287 w_im_Mm_cheapest w_se_Mm_cheapest ok_Lw_law_Mm_cheapest d_Lw_law_2148 (C_Mm_cheapestF g m mp mf mh mn mt mz mc_ mq mgr ml mi mr mm mu mk mx 0 4 80 35 30 50 0 0 0 0 0 (-1) 0 0 0 (zc g 1) hw rfl) rfl rfl (Nat.le_of_ble_eq_true rfl) rfl (by decide) (by omega) (by omega) (fun E cs1 hx => ?_) (fun v cs1 hx => ?_)
    · exact absurd hx.1 (by simp)
    · obtain ⟨e1, rfl⟩ := hx
      cases e1
      refine ⟨rfl, ?_⟩
      refine r_st (st2 := [.int 0]) rfl ?_
      refine r_istore (lv' := [(7, .int 0), (6, .int 2), (5, .int 0), (4, .ref o2), (3, .ref o1), (2, .ref m), (1, .ref a), (0, .ref (g.2.2 40))]) d_Lw_law_2151 (by decide) rfl ?_
      refine r_aload_n d_Lw_law_2153 rfl 5 rfl ?_
      refine r_callV (As := []) (rest := []) (csC := [(m, .inr (12, [.int 2, .ref mp, .int 4, .ref mf, .ref mh, .ref mn, .ref mt, .ref mz, .ref mc_, .ref mq, .ref mgr, .int 80, .int 35, .int 30, .int 50, .int 0, .int 0, .ref ml, .ref mi, .ref mr, .int 0, .int 0, .int 0, .int (-1), .int 0, .ref mm, .ref mu, .ref mk, .ref mx, .long 0, .long 0]))]) (is := [52]) (q0 := 52) rfl rfl ln_Lw_175 w_im_Mm_thrown w_se_Mm_thrown ok_Lw_law_Mm_thrown d_Lw_law_2154 (C_Mm_thrown g m mp mf mh mn mt mz mc_ mq mgr ml mi mr mm mu mk mx 2 4 80 35 30 50 0 0 0 0 0 (-1) 0 0 0) rfl rfl (Nat.le_of_ble_eq_true rfl) rfl (by decide) (by omega) (by omega) (fun E cs1 hx => ?_) (fun v cs1 hx => ?_)
      · exact absurd hx.1 (by simp)
      · obtain ⟨e1, rfl⟩ := hx
        cases e1
        refine ⟨rfl, ?_⟩
        refine r_st (st2 := [.int 2]) rfl ?_
        refine r_iload d_Lw_law_2157 1 rfl ?_
        refine r_icmp_eq (tgt := 2164) d_Lw_law_2159 (by decide) (fun c_2159 => ?_) (fun c_2159 => ?_)
        · refine r_iload d_Lw_law_2164 1 rfl ?_
          refine r_if_ne (tgt := 2181) d_Lw_law_2166 (by decide) (fun c_2166 => ?_) (fun c_2166 => ?_)
          · refine r_goto (tgt := 3019) d_Lw_law_2181 (by decide) ?_
            refine r_lv (lv' := [(5, .int 0), (0, .ref (g.2.2 40))]) [2, 7] rfl ?_
            exact LW_tail g _ hL _ _ w0 n
          · exact absurd c_2166 (by decide)
        · exact absurd c_2159 (by decide)
theorem d_Lw_law_2184 : decode code 2184 = .ok (.aload_n 1, 1) := by decide +kernel
theorem d_Lw_law_2185 : decode code 2185 = .ok (.aload_n 3, 1) := by decide +kernel
theorem d_Lw_law_2186 : decode code 2186 = .ok (.invokestatic 288, 3) := by decide +kernel
theorem ok_Lw_law_Lw_mould : z_okX M_Lw_law M_Lw_mould 2 := ⟨z_mem (i := 1231) (by decide +kernel) (by decide +kernel), by decide, ⟨by decide +kernel, by decide +kernel, by decide +kernel⟩, ⟨by decide, by decide⟩, z_mem (i := 57) (by decide +kernel) (by decide +kernel), rfl⟩
theorem ln_Lw_288 : Cond.methodLink "IronpourLaw" 288 M_Lw_mould.1 ∈ z_gw := z_mem (i := 1229) (by decide +kernel) (by decide +kernel)
theorem w_st_Lw_mould : Cond.static M_Lw_mould.1 ∈ z_gw := z_mem (i := 1230) (by decide +kernel) (by decide +kernel)
theorem d_Lw_law_2189 : decode code 2189 = .ok (.istore 6, 2) := by decide +kernel
theorem d_Lw_law_2191 : decode code 2191 = .ok (.aload_n 2, 1) := by decide +kernel
theorem d_Lw_law_2192 : decode code 2192 = .ok (.invokevirtual 290, 3) := by decide +kernel
theorem ok_Lw_law_Mm_mould : z_ok M_Lw_law M_Mm_mould 0 := ⟨z_mem (i := 1960) (by decide +kernel) (by decide +kernel), rfl, ⟨by decide +kernel, by decide +kernel, by decide +kernel⟩, ⟨by decide, by decide⟩, z_mem (i := 71) (by decide +kernel) (by decide +kernel), rfl⟩
theorem ln_Lw_290 : Cond.methodLink "IronpourLaw" 290 M_Mm_mould.1 ∈ z_gw := z_mem (i := 1957) (by decide +kernel) (by decide +kernel)
theorem w_im_Mm_mould : Cond.instanceMethod M_Mm_mould.1 ∈ z_gw := z_mem (i := 1958) (by decide +kernel) (by decide +kernel)
theorem w_se_Mm_mould : Cond.selects M_Mm_mould.1.cls M_Mm_mould.1 M_Mm_mould.1 ∈ z_gw := z_mem (i := 1959) (by decide +kernel) (by decide +kernel)
theorem d_Lw_law_2195 : decode code 2195 = .ok (.istore 7, 2) := by decide +kernel
theorem d_Lw_law_2197 : decode code 2197 = .ok (.aload_n 2, 1) := by decide +kernel
theorem d_Lw_law_2198 : decode code 2198 = .ok (.invokevirtual 175, 3) := by decide +kernel
theorem d_Lw_law_2201 : decode code 2201 = .ok (.iload 6, 2) := by decide +kernel
theorem d_Lw_law_2203 : decode code 2203 = .ok (.if_icmp .eq 5, 3) := by decide +kernel
theorem d_Lw_law_2208 : decode code 2208 = .ok (.iload 6, 2) := by decide +kernel
theorem d_Lw_law_2210 : decode code 2210 = .ok (.ifCond .ne 15, 3) := by decide +kernel
theorem d_Lw_law_2225 : decode code 2225 = .ok (.goto 794, 3) := by decide +kernel
set_option maxHeartbeats 4000000 in
set_option maxRecDepth 100000 in
theorem LW_mouldE (g : zG) (a pa pa1 pa2 pa3 ta ta1 ta2 taz taz1 taz2 taz3 taz4 taz5 taz6 ta4 ta5 ta6 sa sa1 sa2 saz saz1 saz2 saz3 saz4 saz5 saz6 sa4 sa5 sa6 gs co co1 co2 co3 fu fub fubg fut1 fut2 fut3 la lab labg gy gyg du dug re wm ac m mp mf mh mn mt mz mc_ mq mgr ml mi mr mm mu mk mx o1 o2 : Nat) (hL : g.2.2 41 = 7) (w0 : zW) (n : Nat) : DV g M_Lw_law (lwP) w0 n 2184 [(5, .int 0), (4, .ref o2), (3, .ref o1), (2, .ref m), (1, .ref a), (0, .ref (g.2.2 40))] [] (lwCS g a pa pa1 pa2 pa3 ta ta1 ta2 taz taz1 taz2 taz3 taz4 taz5 taz6 ta4 ta5 ta6 sa sa1 sa2 saz saz1 saz2 saz3 saz4 saz5 saz6 sa4 sa5 sa6 gs co co1 co2 co3 fu fub fubg fut1 fut2 fut3 la lab labg gy gyg du dug re wm ac m mp mf mh mn mt mz mc_ mq mgr ml mi mr mm mu mk mx o1 o2) 100 1000 := by
  refine r_aload_n d_Lw_law_2184 rfl 4 rfl ?_
  refine r_aload_n d_Lw_law_2185 rfl 2 rfl ?_
  refine r_callSX (As := [.ref a, .ref o1]) (rest := []) (csC := [(a, .inr (11, [.ref pa, .ref ta, .ref sa, .ref gs, .ref co, .ref fu, .ref la, .ref gy, .ref du, .ref re, .ref wm, .ref ac])), (pa, .inr (8, [.ref pa1, .ref pa2, .ref pa3, .int (nI 4)])), (pa1, .inl (1, 108, .inl zFP)), (pa2, .inl (2, 108, .inl (fun _ => 0))), (pa3, .inl (0, 108, .inl (fun k => nI ((fun _ => 0) k)))), (o1, .inl (3, 1, .inr (.inl (fun _ => 0))))]) (is := [0, 1, 2, 3, 4, 69]) ln_Lw_288 w_st_Lw_mould ok_Lw_law_Lw_mould d_Lw_law_2186 (C_Lw_mouldE g a pa ta sa gs co fu la gy du re wm ac pa1 pa2 pa3 zFP (fun _ => 0) (fun _ => 0) 4 (Or.inl zFP_g) o1 (fun _ => 0)) rfl rfl (Nat.le_of_ble_eq_true rfl) rfl (by decide) (by omega) (by omega) (fun E cs1 hx => ?_) (fun v cs1 hx => ?_)
  · exact absurd hx.1 (by simp)
  · obtain ⟨e1, rfl⟩ := hx
    cases e1
    refine ⟨rfl, ?_⟩
    refine r_st (st2 := [.int 1]) rfl ?_
    refine r_istore (lv' := [(6, .int 1), (5, .int 0), (4, .ref o2), (3, .ref o1), (2, .ref m), (1, .ref a), (0, .ref (g.2.2 40))]) d_Lw_law_2189 (by decide) rfl ?_
    refine r_aload_n d_Lw_law_2191 rfl 4 rfl ?_
    refine r_callV (As := []) (rest := []) (csC := [(m, .inr (12, [.int 0, .ref mp, .int 4, .ref mf, .ref mh, .ref mn, .ref mt, .ref mz, .ref mc_, .ref mq, .ref mgr, .int 80, .int 35, .int 30, .int 50, .int 0, .int 0, .ref ml, .ref mi, .ref mr, .int 0, .int 0, .int 0, .int (-1), .int 0, .ref mm, .ref mu, .ref mk, .ref mx, .long 0, .long 0])), (mp, .inl (1, 108, .inl zFP)), (mgr, .inl (0, 108, .inl (fun _ => 0)))]) (is := [52, 53, 61]) (q0 := 52) rfl rfl ln_Lw_290 w_im_Mm_mould w_se_Mm_mould ok_Lw_law_Mm_mould d_Lw_law_2192 (C_Mm_mould0 g m mp mf mh mn mt mz mc_ mq mgr ml mi mr mm mu mk mx 0 4 80 35 30 50 0 0 0 0 0 (-1) 0 0 0 zFP (fun _ => 0) zFP_at zFP_g) rfl rfl (Nat.le_of_ble_eq_true rfl) rfl (by decide) (by omega) (by omega) (fun E cs1 hx => ?_) (fun v cs1 hx => ?_)
    · exact absurd hx.1 (by simp)
    · obtain ⟨e1, rfl⟩ := hx
      cases e1
      refine ⟨rfl, ?_⟩
      refine r_st (st2 := [.int 0]) rfl ?_
      refine r_istore (lv' := [(7, .int 0), (6, .int 1), (5, .int 0), (4, .ref o2), (3, .ref o1), (2, .ref m), (1, .ref a), (0, .ref (g.2.2 40))]) d_Lw_law_2195 (by decide) rfl ?_
      refine r_aload_n d_Lw_law_2197 rfl 5 rfl ?_
      refine r_callV (As := []) (rest := []) (csC := [(m, .inr (12, [.int 1, .ref mp, .int 4, .ref mf, .ref mh, .ref mn, .ref mt, .ref mz, .ref mc_, .ref mq, .ref mgr, .int 80, .int 35, .int 30, .int 50, .int 0, .int 0, .ref ml, .ref mi, .ref mr, .int 0, .int 0, .int 0, .int (-1), .int 0, .ref mm, .ref mu, .ref mk, .ref mx, .long 0, .long 0]))]) (is := [52]) (q0 := 52) rfl rfl ln_Lw_175 w_im_Mm_thrown w_se_Mm_thrown ok_Lw_law_Mm_thrown d_Lw_law_2198 (C_Mm_thrown g m mp mf mh mn mt mz mc_ mq mgr ml mi mr mm mu mk mx 1 4 80 35 30 50 0 0 0 0 0 (-1) 0 0 0) rfl rfl (Nat.le_of_ble_eq_true rfl) rfl (by decide) (by omega) (by omega) (fun E cs1 hx => ?_) (fun v cs1 hx => ?_)
      · exact absurd hx.1 (by simp)
      · obtain ⟨e1, rfl⟩ := hx
        cases e1
        refine ⟨rfl, ?_⟩
        refine r_st (st2 := [.int 1]) rfl ?_
        refine r_iload d_Lw_law_2201 1 rfl ?_
        refine r_icmp_eq (tgt := 2208) d_Lw_law_2203 (by decide) (fun c_2203 => ?_) (fun c_2203 => ?_)
        · refine r_iload d_Lw_law_2208 1 rfl ?_
          refine r_if_ne (tgt := 2225) d_Lw_law_2210 (by decide) (fun c_2210 => ?_) (fun c_2210 => ?_)
          · refine r_goto (tgt := 3019) d_Lw_law_2225 (by decide) ?_
            refine r_lv (lv' := [(5, .int 0), (0, .ref (g.2.2 40))]) [2, 7] rfl ?_
            exact LW_tail g _ hL _ _ w0 n
          · exact absurd c_2210 (by decide)
        · exact absurd c_2203 (by decide)
theorem d_Lw_law_2228 : decode code 2228 = .ok (.aload_n 1, 1) := by decide +kernel
theorem d_Lw_law_2229 : decode code 2229 = .ok (.aload_n 0, 1) := by decide +kernel
theorem d_Lw_law_2230 : decode code 2230 = .ok (.iload 5, 2) := by decide +kernel
theorem d_Lw_law_2232 : decode code 2232 = .ok (.iconst 1, 1) := by decide +kernel
theorem d_Lw_law_2233 : decode code 2233 = .ok (.iadd, 1) := by decide +kernel
theorem d_Lw_law_2234 : decode code 2234 = .ok (.iaload, 1) := by decide +kernel
theorem d_Lw_law_2235 : decode code 2235 = .ok (.aload_n 3, 1) := by decide +kernel
theorem d_Lw_law_2236 : decode code 2236 = .ok (.invokestatic 291, 3) := by decide +kernel
theorem ok_Lw_law_Lw_waiting : z_okX M_Lw_law M_Lw_waiting 3 := ⟨z_mem (i := 1356) (by decide +kernel) (by decide +kernel), by decide, ⟨by decide +kernel, by decide +kernel, by decide +kernel⟩, ⟨by decide, by decide⟩, z_mem (i := 57) (by decide +kernel) (by decide +kernel), rfl⟩
theorem ln_Lw_291 : Cond.methodLink "IronpourLaw" 291 M_Lw_waiting.1 ∈ z_gw := z_mem (i := 1354) (by decide +kernel) (by decide +kernel)
theorem w_st_Lw_waiting : Cond.static M_Lw_waiting.1 ∈ z_gw := z_mem (i := 1355) (by decide +kernel) (by decide +kernel)
theorem d_Lw_law_2239 : decode code 2239 = .ok (.istore 6, 2) := by decide +kernel
theorem d_Lw_law_2241 : decode code 2241 = .ok (.aload_n 2, 1) := by decide +kernel
theorem d_Lw_law_2242 : decode code 2242 = .ok (.aload_n 0, 1) := by decide +kernel
theorem d_Lw_law_2243 : decode code 2243 = .ok (.iload 5, 2) := by decide +kernel
theorem d_Lw_law_2245 : decode code 2245 = .ok (.iconst 1, 1) := by decide +kernel
theorem d_Lw_law_2246 : decode code 2246 = .ok (.iadd, 1) := by decide +kernel
theorem d_Lw_law_2247 : decode code 2247 = .ok (.iaload, 1) := by decide +kernel
theorem d_Lw_law_2248 : decode code 2248 = .ok (.invokevirtual 293, 3) := by decide +kernel
theorem ok_Lw_law_Mm_waiting : z_ok M_Lw_law M_Mm_waiting 1 := ⟨z_mem (i := 1972) (by decide +kernel) (by decide +kernel), rfl, ⟨by decide +kernel, by decide +kernel, by decide +kernel⟩, ⟨by decide, by decide⟩, z_mem (i := 71) (by decide +kernel) (by decide +kernel), rfl⟩
theorem ln_Lw_293 : Cond.methodLink "IronpourLaw" 293 M_Mm_waiting.1 ∈ z_gw := z_mem (i := 1969) (by decide +kernel) (by decide +kernel)
theorem w_im_Mm_waiting : Cond.instanceMethod M_Mm_waiting.1 ∈ z_gw := z_mem (i := 1970) (by decide +kernel) (by decide +kernel)
theorem w_se_Mm_waiting : Cond.selects M_Mm_waiting.1.cls M_Mm_waiting.1 M_Mm_waiting.1 ∈ z_gw := z_mem (i := 1971) (by decide +kernel) (by decide +kernel)
theorem d_Lw_law_2251 : decode code 2251 = .ok (.istore 7, 2) := by decide +kernel
theorem d_Lw_law_2253 : decode code 2253 = .ok (.aload_n 2, 1) := by decide +kernel
theorem d_Lw_law_2254 : decode code 2254 = .ok (.invokevirtual 175, 3) := by decide +kernel
theorem d_Lw_law_2257 : decode code 2257 = .ok (.iload 6, 2) := by decide +kernel
theorem d_Lw_law_2259 : decode code 2259 = .ok (.if_icmp .eq 5, 3) := by decide +kernel
theorem d_Lw_law_2264 : decode code 2264 = .ok (.iload 6, 2) := by decide +kernel
theorem d_Lw_law_2266 : decode code 2266 = .ok (.ifCond .ne 15, 3) := by decide +kernel
theorem d_Lw_law_2281 : decode code 2281 = .ok (.goto 738, 3) := by decide +kernel
set_option maxHeartbeats 4000000 in
set_option maxRecDepth 100000 in
theorem LW_waiting0 (g : zG) (a pa pa1 pa2 pa3 ta ta1 ta2 taz taz1 taz2 taz3 taz4 taz5 taz6 ta4 ta5 ta6 sa sa1 sa2 saz saz1 saz2 saz3 saz4 saz5 saz6 sa4 sa5 sa6 gs co co1 co2 co3 fu fub fubg fut1 fut2 fut3 la lab labg gy gyg du dug re wm ac m mp mf mh mn mt mz mc_ mq mgr ml mi mr mm mu mk mx o1 o2 : Nat) (hL : g.2.2 41 = 7) (w0 : zW) (n : Nat) : DV g M_Lw_law (lwP) w0 n 2228 [(5, .int 0), (4, .ref o2), (3, .ref o1), (2, .ref m), (1, .ref a), (0, .ref (g.2.2 40))] [] (lwCS g a pa pa1 pa2 pa3 ta ta1 ta2 taz taz1 taz2 taz3 taz4 taz5 taz6 ta4 ta5 ta6 sa sa1 sa2 saz saz1 saz2 saz3 saz4 saz5 saz6 sa4 sa5 sa6 gs co co1 co2 co3 fu fub fubg fut1 fut2 fut3 la lab labg gy gyg du dug re wm ac m mp mf mh mn mt mz mc_ mq mgr ml mi mr mm mu mk mx o1 o2) 100 1000 := by
  refine r_aload_n d_Lw_law_2228 rfl 4 rfl ?_
  refine r_aload_n d_Lw_law_2229 rfl 5 rfl ?_
  refine r_iload d_Lw_law_2230 0 rfl ?_
  refine r_iconst d_Lw_law_2232 (v := 1) (by decide) ?_
  refine r_iadd d_Lw_law_2233 (v := 1) rfl ?_
  refine r_sld (v := zs g 1) d_Lw_law_2234 (by rw [hL]; exact fun q => q.elim (by decide) (by decide)) rfl ?_
  refine r_aload_n d_Lw_law_2235 rfl 2 rfl ?_
  refine r_callSX (As := [.ref a, .int (zs g 1), .ref o1]) (rest := []) (csC := [(a, .inr (11, [.ref pa, .ref ta, .ref sa, .ref gs, .ref co, .ref fu, .ref la, .ref gy, .ref du, .ref re, .ref wm, .ref ac])), (wm, .inr (13, [.int 0, .ref (g.2.2 4), .int 0])), (o1, .inl (3, 1, .inr (.inl (fun _ => 0))))]) (is := [0, 50, 69]) ln_Lw_291 w_st_Lw_waiting ok_Lw_law_Lw_waiting d_Lw_law_2236 (C_Lw_waiting0 g a pa ta sa gs co fu la gy du re wm ac 0 (g.2.2 4) (zs g 1) o1 (fun _ => 0)) rfl rfl (Nat.le_of_ble_eq_true rfl) rfl (by decide) (by omega) (by omega) (fun E cs1 hx => ?_) (fun v cs1 hx => ?_)
  · exact absurd hx.1 (by simp)
  · obtain ⟨e1, rfl⟩ := hx
    cases e1
    refine ⟨rfl, ?_⟩
    refine r_st (st2 := [.int 1]) rfl ?_
    refine r_istore (lv' := [(6, .int 1), (5, .int 0), (4, .ref o2), (3, .ref o1), (2, .ref m), (1, .ref a), (0, .ref (g.2.2 40))]) d_Lw_law_2239 (by decide) rfl ?_
    refine r_aload_n d_Lw_law_2241 rfl 4 rfl ?_
    refine r_aload_n d_Lw_law_2242 rfl 6 rfl ?_
    refine r_iload d_Lw_law_2243 1 rfl ?_
    refine r_iconst d_Lw_law_2245 (v := 1) (by decide) ?_
    refine r_iadd d_Lw_law_2246 (v := 1) rfl ?_
    refine r_sld (v := zs g 1) d_Lw_law_2247 (by rw [hL]; exact fun q => q.elim (by decide) (by decide)) rfl ?_
    refine r_callV (As := [.int (zs g 1)]) (rest := []) (csC := [(m, .inr (12, [.int 0, .ref mp, .int 4, .ref mf, .ref mh, .ref mn, .ref mt, .ref mz, .ref mc_, .ref mq, .ref mgr, .int 80, .int 35, .int 30, .int 50, .int 0, .int 0, .ref ml, .ref mi, .ref mr, .int 0, .int 0, .int 0, .int (-1), .int 0, .ref mm, .ref mu, .ref mk, .ref mx, .long 0, .long 0])), (mm, .inr (13, [.int 0, .ref (g.2.2 4), .int 0]))]) (is := [52, 65]) (q0 := 52) rfl rfl ln_Lw_293 w_im_Mm_waiting w_se_Mm_waiting ok_Lw_law_Mm_waiting d_Lw_law_2248 (C_Mm_waiting0 g m mp mf mh mn mt mz mc_ mq mgr ml mi mr mm mu mk mx 0 4 80 35 30 50 0 0 0 0 0 (-1) 0 0 0 0 (g.2.2 4) (zs g 1)) rfl rfl (Nat.le_of_ble_eq_true rfl) rfl (by decide) (by omega) (by omega) (fun E cs1 hx => ?_) (fun v cs1 hx => ?_)
    · exact absurd hx.1 (by simp)
    · obtain ⟨e1, rfl⟩ := hx
      cases e1
      refine ⟨rfl, ?_⟩
      refine r_st (st2 := [.int 0]) rfl ?_
      refine r_istore (lv' := [(7, .int 0), (6, .int 1), (5, .int 0), (4, .ref o2), (3, .ref o1), (2, .ref m), (1, .ref a), (0, .ref (g.2.2 40))]) d_Lw_law_2251 (by decide) rfl ?_
      refine r_aload_n d_Lw_law_2253 rfl 5 rfl ?_
      refine r_callV (As := []) (rest := []) (csC := [(m, .inr (12, [.int 1, .ref mp, .int 4, .ref mf, .ref mh, .ref mn, .ref mt, .ref mz, .ref mc_, .ref mq, .ref mgr, .int 80, .int 35, .int 30, .int 50, .int 0, .int 0, .ref ml, .ref mi, .ref mr, .int 0, .int 0, .int 0, .int (-1), .int 0, .ref mm, .ref mu, .ref mk, .ref mx, .long 0, .long 0]))]) (is := [52]) (q0 := 52) rfl rfl ln_Lw_175 w_im_Mm_thrown w_se_Mm_thrown ok_Lw_law_Mm_thrown d_Lw_law_2254 (C_Mm_thrown g m mp mf mh mn mt mz mc_ mq mgr ml mi mr mm mu mk mx 1 4 80 35 30 50 0 0 0 0 0 (-1) 0 0 0) rfl rfl (Nat.le_of_ble_eq_true rfl) rfl (by decide) (by omega) (by omega) (fun E cs1 hx => ?_) (fun v cs1 hx => ?_)
      · exact absurd hx.1 (by simp)
      · obtain ⟨e1, rfl⟩ := hx
        cases e1
        refine ⟨rfl, ?_⟩
        refine r_st (st2 := [.int 1]) rfl ?_
        refine r_iload d_Lw_law_2257 1 rfl ?_
        refine r_icmp_eq (tgt := 2264) d_Lw_law_2259 (by decide) (fun c_2259 => ?_) (fun c_2259 => ?_)
        · refine r_iload d_Lw_law_2264 1 rfl ?_
          refine r_if_ne (tgt := 2281) d_Lw_law_2266 (by decide) (fun c_2266 => ?_) (fun c_2266 => ?_)
          · refine r_goto (tgt := 3019) d_Lw_law_2281 (by decide) ?_
            refine r_lv (lv' := [(5, .int 0), (0, .ref (g.2.2 40))]) [2, 7] rfl ?_
            exact LW_tail g _ hL _ _ w0 n
          · exact absurd c_2266 (by decide)
        · exact absurd c_2259 (by decide)
