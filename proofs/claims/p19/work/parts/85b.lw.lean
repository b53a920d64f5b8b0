theorem y_pop2 {g : zG} {M : zM} {Ψ : zO → zW → Prop} {w0 : zW} {n pc : Nat} {lv : List (Nat × Value)} {st : List Value} {cs : zC} {kc ks : Nat} {v : Value} (hd : decode M.2.1 pc = .ok (.pop2, 1)) (hv : v.category = 2) (k : DU g M Ψ w0 n (pc + 1) lv st cs kc ks) : DU g M Ψ w0 n pc lv (v :: st) cs kc ks := fun w p l e R s m args below meth c A mc ms H locs cells slots ls ws I C T => lv_pop2_2 C.1.1 C.1.2.1 hd hv (k w p l e R s m args below meth c A mc ms H locs cells slots ls ws I C T)
def zs (g : zG) (k : Nat) : Int32 := Int32.ofNat (g.2.2 (100 + k))
def zc (g : zG) (k : Nat) : Int32 := ((zs g k).toUInt32 % 65536).toInt32
def lwQ : zO → zW → Prop := fun o _ => o = .inl (some (.int 1))
theorem z_shL {L : Nat} (h : L < 7) : nI L - 7 < (0 : Int32) := by
  have h9 : L = 0 ∨ L = 1 ∨ L = 2 ∨ L = 3 ∨ L = 4 ∨ L = 5 ∨ L = 6 := by omega
  rcases h9 with rfl | rfl | rfl | rfl | rfl | rfl | rfl <;> decide
theorem z_shl {L k : Nat} (h : ¬ k + 7 ≤ L) (hL : L < 2 ^ 31) (hk : k < 2 ^ 31) : nI L - 7 < nI k := by
  by_cases h7 : L < 7
  · exact Int32.lt_of_lt_of_le (z_shL h7) (Int32.not_lt.mp (nI_nneg hk))
  · rw [show nI L - 7 = nI (L - 7) from pk_sub (a := L) (b := 7) (by omega)]
    exact (nI_ltI (by omega) hk).mpr (by omega)
abbrev M_Lw_law : zM := (⟨"IronpourLaw", "law", "([I)Z"⟩, code, 9, (Option.some FieldType.boolean), 11, 274, [])
theorem d_Lw_law_1808 : decode code 1808 = .ok (.iinc 5 7, 3) := by decide +kernel
theorem d_Lw_law_1811 : decode code 1811 = .ok (.goto (-1783), 3) := by decide +kernel
def LWI (g : zG) (ad : Nat → Nat) (j r : Nat) : Prop := ∀ (t : zTT) (u : zNN) (w : zW), IVm g ad t u w → REL t u.1 (48 * (j + 1)) → DW g M_Lw_law lwQ w 28 [(5, .int (nI (7 * (j + 1)))), (4, .ref (ad 70)), (3, .ref (ad 69)), (2, .ref (ad 52)), (1, .ref (ad 0)), (0, .ref (g.2.2 40))] [] (100 * r) (1000 * r)
set_option maxHeartbeats 4000000 in
set_option maxRecDepth 100000 in
theorem LC_next {g : zG} {ad : Nat → Nat} {t : zTT} {u : zNN} {w : zW} {j : Nat} (hI : IVm g ad t u w) (hR : REL t u.1 (48 * (j + 1))) {r : Nat} (hJ : 7 * j + 7 ≤ g.2.2 41) (hL : g.2.2 41 ≤ 3584) (ih : LWI g ad j r) {kc ks : Nat} (h1 : 100 * r ≤ kc) (h2 : 1000 * r ≤ ks) : DW g M_Lw_law lwQ w 1808 [(5, .int (nI (7 * j))), (4, .ref (ad 70)), (3, .ref (ad 69)), (2, .ref (ad 52)), (1, .ref (ad 0)), (0, .ref (g.2.2 40))] [] kc ks := by
  refine y_base (cs := []) (z_I.nil w) ?_
  refine y_iinc (lv' := [(5, .int (nI ((7 * j) + 7))), (4, .ref (ad 70)), (3, .ref (ad 69)), (2, .ref (ad 52)), (1, .ref (ad 0)), (0, .ref (g.2.2 40))]) (v := nI ((7 * j) + 7)) d_Lw_law_1808 (j := 0) rfl (nI_add _ _) (by decide) rfl ?_
  refine y_goto (tgt := 28) d_Lw_law_1811 (by decide) ?_
  refine y_lv (lv' := [(5, .int (nI ((7 * j) + 7))), (4, .ref (ad 70)), (3, .ref (ad 69)), (2, .ref (ad 52)), (1, .ref (ad 0)), (0, .ref (g.2.2 40))]) [0, 1, 2, 3, 4, 5] rfl ?_
  refine y_end (fun wC hC => ?_)
  exact yw_bud h1 h2 (ih _ _ _ (IVm.nil hC hI) hR)
theorem d_Lw_law_858 : decode code 858 = .ok (.aload_n 1, 1) := by decide +kernel
theorem d_Lw_law_859 : decode code 859 = .ok (.aload_n 0, 1) := by decide +kernel
theorem d_Lw_law_860 : decode code 860 = .ok (.iload 5, 2) := by decide +kernel
theorem d_Lw_law_862 : decode code 862 = .ok (.iconst 1, 1) := by decide +kernel
theorem d_Lw_law_863 : decode code 863 = .ok (.iadd, 1) := by decide +kernel
theorem d_Lw_law_864 : decode code 864 = .ok (.iaload, 1) := by decide +kernel
theorem d_Lw_law_865 : decode code 865 = .ok (.i2c, 1) := by decide +kernel
theorem d_Lw_law_866 : decode code 866 = .ok (.aload_n 3, 1) := by decide +kernel
theorem d_Lw_law_867 : decode code 867 = .ok (.invokestatic 232, 3) := by decide +kernel
theorem ok_Lw_law_Lw_sand : z_okX M_Lw_law M_Lw_sand 3 := ⟨z_mem (i := 968) (by decide +kernel) (by decide +kernel), by decide, ⟨by decide +kernel, by decide +kernel, by decide +kernel⟩, ⟨by decide, by decide⟩, z_mem (i := 57) (by decide +kernel) (by decide +kernel), rfl⟩
theorem ln_Lw_232 : Cond.methodLink "IronpourLaw" 232 M_Lw_sand.1 ∈ z_gw := z_mem (i := 966) (by decide +kernel) (by decide +kernel)
theorem w_st_Lw_sand : Cond.static M_Lw_sand.1 ∈ z_gw := z_mem (i := 967) (by decide +kernel) (by decide +kernel)
theorem d_Lw_law_870 : decode code 870 = .ok (.istore 6, 2) := by decide +kernel
theorem d_Lw_law_872 : decode code 872 = .ok (.aload_n 2, 1) := by decide +kernel
theorem d_Lw_law_873 : decode code 873 = .ok (.aload_n 0, 1) := by decide +kernel
theorem d_Lw_law_874 : decode code 874 = .ok (.iload 5, 2) := by decide +kernel
theorem d_Lw_law_876 : decode code 876 = .ok (.iconst 1, 1) := by decide +kernel
theorem d_Lw_law_877 : decode code 877 = .ok (.iadd, 1) := by decide +kernel
theorem d_Lw_law_878 : decode code 878 = .ok (.iaload, 1) := by decide +kernel
theorem d_Lw_law_879 : decode code 879 = .ok (.i2c, 1) := by decide +kernel
theorem d_Lw_law_880 : decode code 880 = .ok (.invokevirtual 235, 3) := by decide +kernel
theorem ok_Lw_law_Mm_sand : z_ok M_Lw_law M_Mm_sand 1 := ⟨z_mem (i := 1851) (by decide +kernel) (by decide +kernel), rfl, ⟨by decide +kernel, by decide +kernel, by decide +kernel⟩, ⟨by decide, by decide⟩, z_mem (i := 71) (by decide +kernel) (by decide +kernel), rfl⟩
theorem ln_Lw_235 : Cond.methodLink "IronpourLaw" 235 M_Mm_sand.1 ∈ z_gw := z_mem (i := 1848) (by decide +kernel) (by decide +kernel)
theorem w_im_Mm_sand : Cond.instanceMethod M_Mm_sand.1 ∈ z_gw := z_mem (i := 1849) (by decide +kernel) (by decide +kernel)
theorem w_se_Mm_sand : Cond.selects M_Mm_sand.1.cls M_Mm_sand.1 M_Mm_sand.1 ∈ z_gw := z_mem (i := 1850) (by decide +kernel) (by decide +kernel)
theorem d_Lw_law_883 : decode code 883 = .ok (.istore 7, 2) := by decide +kernel
theorem d_Lw_law_885 : decode code 885 = .ok (.aload_n 2, 1) := by decide +kernel
theorem d_Lw_law_886 : decode code 886 = .ok (.invokevirtual 236, 3) := by decide +kernel
theorem ok_Lw_law_Mm_thrown : z_ok M_Lw_law M_Mm_thrown 0 := ⟨z_mem (i := 1677) (by decide +kernel) (by decide +kernel), rfl, ⟨by decide +kernel, by decide +kernel, by decide +kernel⟩, ⟨by decide, by decide⟩, z_mem (i := 71) (by decide +kernel) (by decide +kernel), rfl⟩
theorem ln_Lw_236 : Cond.methodLink "IronpourLaw" 236 M_Mm_thrown.1 ∈ z_gw := z_mem (i := 1674) (by decide +kernel) (by decide +kernel)
theorem w_im_Mm_thrown : Cond.instanceMethod M_Mm_thrown.1 ∈ z_gw := z_mem (i := 1675) (by decide +kernel) (by decide +kernel)
theorem w_se_Mm_thrown : Cond.selects M_Mm_thrown.1.cls M_Mm_thrown.1 M_Mm_thrown.1 ∈ z_gw := z_mem (i := 1676) (by decide +kernel) (by decide +kernel)
theorem d_Lw_law_889 : decode code 889 = .ok (.iload 6, 2) := by decide +kernel
theorem d_Lw_law_891 : decode code 891 = .ok (.if_icmp .eq 5, 3) := by decide +kernel
theorem d_Lw_law_896 : decode code 896 = .ok (.iload 6, 2) := by decide +kernel
theorem d_Lw_law_898 : decode code 898 = .ok (.ifCond .ne 15, 3) := by decide +kernel
theorem d_Lw_law_913 : decode code 913 = .ok (.goto 895, 3) := by decide +kernel
theorem d_Lw_law_901 : decode code 901 = .ok (.aload_n 3, 1) := by decide +kernel
theorem d_Lw_law_902 : decode code 902 = .ok (.iconst 0, 1) := by decide +kernel
theorem d_Lw_law_903 : decode code 903 = .ok (.laload, 1) := by decide +kernel
theorem d_Lw_law_904 : decode code 904 = .ok (.iload 7, 2) := by decide +kernel
theorem d_Lw_law_906 : decode code 906 = .ok (.i2l, 1) := by decide +kernel
theorem d_Lw_law_907 : decode code 907 = .ok (.lcmp, 1) := by decide +kernel
theorem d_Lw_law_908 : decode code 908 = .ok (.ifCond .eq 5, 3) := by decide +kernel
set_option maxHeartbeats 4000000 in
set_option maxRecDepth 100000 in
theorem LC_sand {g : zG} {ad : Nat → Nat} {t : zTT} {u : zNN} {w : zW} {j : Nat} (hI : IVm g ad t u w) (hR : REL t u.1 (48 * j)) {r : Nat} (hJ : 7 * j + 7 ≤ g.2.2 41) (hL : g.2.2 41 ≤ 3584) (ih : LWI g ad j r) : DW g M_Lw_law lwQ w 858 [(5, .int (nI (7 * j))), (4, .ref (ad 70)), (3, .ref (ad 69)), (2, .ref (ad 52)), (1, .ref (ad 0)), (0, .ref (g.2.2 40))] [] (100 * (r + 1)) (1000 * (r + 1)) := by
  have hI0 := hI
  refine y_base (cs := []) (z_I.nil w) ?_
  refine y_aload_n d_Lw_law_858 rfl 4 rfl ?_
  refine y_aload_n d_Lw_law_859 rfl 5 rfl ?_
  refine y_iload d_Lw_law_860 0 rfl ?_
  refine y_iconst d_Lw_law_862 (v := 1) (by decide) ?_
  refine y_iadd d_Lw_law_863 (v := nI ((7 * j) + 1)) (nI_add _ _) ?_
  refine y_sld (v := zs g (7 * j + 1)) d_Lw_law_864 (vp_in_nI (by omega) (by omega)) (by rw [nI_clamp (by omega)]; rfl) ?_
  refine y_i2c d_Lw_law_865 (v := zc g (7 * j + 1)) rfl ?_
  refine y_aload_n d_Lw_law_866 rfl 2 rfl ?_
  refine yw_callSX (As := [.ref (ad 0), .int (zc g (7 * j + 1)), .ref (ad 69)]) (rest := []) ln_Lw_232 w_st_Lw_sand ok_Lw_law_Lw_sand d_Lw_law_867 (fun wA hA => WE_sand (IVm.nil hA hI) (zc g (7 * j + 1))) rfl rfl (Nat.le_of_ble_eq_true rfl) (by omega) (by omega) (fun wA867 hA867 E wB867 hx => ?_) (fun wA867 hA867 v wB867 hx => ?_)
  · obtain ⟨e0, -⟩ := hx
    cases e0
  · obtain ⟨e0, uC, vo, huC, hI2, hvo⟩ := hx
    cases e0
    refine yw_st (st2 := [.int ((vK_Ip_sand ad (zc g (7 * j + 1)) t).1)]) rfl ?_
    have hI := hI2
    refine y_base (cs := []) (z_I.nil _) ?_
    refine y_istore (lv' := [(6, .int ((vK_Ip_sand ad (zc g (7 * j + 1)) t).1)), (5, .int (nI (7 * j))), (4, .ref (ad 70)), (3, .ref (ad 69)), (2, .ref (ad 52)), (1, .ref (ad 0)), (0, .ref (g.2.2 40))]) d_Lw_law_870 (by decide) rfl ?_
    refine y_aload_n d_Lw_law_872 rfl 4 rfl ?_
    refine y_aload_n d_Lw_law_873 rfl 6 rfl ?_
    refine y_iload d_Lw_law_874 1 rfl ?_
    refine y_iconst d_Lw_law_876 (v := 1) (by decide) ?_
    refine y_iadd d_Lw_law_877 (v := nI ((7 * j) + 1)) (nI_add _ _) ?_
    refine y_sld (v := zs g (7 * j + 1)) d_Lw_law_878 (vp_in_nI (by omega) (by omega)) (by rw [nI_clamp (by omega)]; rfl) ?_
    refine y_i2c d_Lw_law_879 (v := zc g (7 * j + 1)) rfl ?_
    refine yw_callVL (As := [.int (zc g (7 * j + 1))]) (rest := []) (ci := 12) rfl (fun wA hA => (IVo.nil hA hI).m.rm) ln_Lw_235 w_im_Mm_sand w_se_Mm_sand ok_Lw_law_Mm_sand d_Lw_law_880 (fun wA hA => KE_Mm_sand (IVo.nil hA hI) (zc g (7 * j + 1))) rfl rfl (Nat.le_of_ble_eq_true rfl) (by omega) (by omega) (fun wA880 hA880 E wB880 hx => ?_) (fun wA880 hA880 v wB880 hx => ?_)
    · obtain ⟨e0, -⟩ := hx
      cases e0
    · obtain ⟨e0, hT, uM, huM, hI2⟩ := hx
      cases e0
      refine yw_st (st2 := [.int ((vK_Mm_sand ad (zc g (7 * j + 1)) t).2)]) rfl ?_
      have hI := hI2
      refine y_base (cs := []) (z_I.nil _) ?_
      refine y_istore (lv' := [(7, .int ((vK_Mm_sand ad (zc g (7 * j + 1)) t).2)), (6, .int ((vK_Ip_sand ad (zc g (7 * j + 1)) t).1)), (5, .int (nI (7 * j))), (4, .ref (ad 70)), (3, .ref (ad 69)), (2, .ref (ad 52)), (1, .ref (ad 0)), (0, .ref (g.2.2 40))]) d_Lw_law_883 (by decide) rfl ?_
      refine y_aload_n d_Lw_law_885 rfl 5 rfl ?_
      refine yw_callVL (As := []) (rest := []) (ci := 12) rfl (fun wA hA => (IVo.nil hA hI).m.rm) ln_Lw_236 w_im_Mm_thrown w_se_Mm_thrown ok_Lw_law_Mm_thrown d_Lw_law_886 (fun wA hA => (IVo.nil hA hI).th (TH.nil hA hT)) rfl rfl (Nat.le_of_ble_eq_true rfl) (by omega) (by omega) (fun wA886 hA886 E wB886 hx => ?_) (fun wA886 hA886 v wB886 hx => ?_)
      · exact absurd hx.1 (by simp)
      · obtain ⟨e1, e2⟩ := hx
        cases e1
        refine yw_st (st2 := [.int ((vK_Mm_sand ad (zc g (7 * j + 1)) t).1)]) rfl ?_
        subst e2
        obtain ⟨s9, hv9, hI⟩ := IVo.nil hA886 hI
        obtain ⟨e_o1, wf_o1, k_o1⟩ := hI.1.2 69 (by decide)
        obtain rfl := kd_69.mp k_o1
        refine y_base (cs := [((ad 69), .inl (3, 1, .inr (.inl (((mg t s9).1 69).2.1))))]) (hI.1.I [69] _ rfl (by decide) (by decide) (List.forall_mem_cons.mpr ⟨wf_o1, (fun _ h => nomatch h)⟩)) ?_
        refine y_iload d_Lw_law_889 1 rfl ?_
        refine y_icmp_eq (tgt := 896) d_Lw_law_891 (by decide) (fun c_891 => ?_) (fun c_891 => ?_)
        · refine y_iload d_Lw_law_896 1 rfl ?_
          refine y_if_ne (tgt := 913) d_Lw_law_898 (by decide) (fun c_898 => ?_) (fun c_898 => ?_)
          · refine y_goto (tgt := 1808) d_Lw_law_913 (by decide) ?_
            refine y_lv (lv' := [(5, .int (nI (7 * j))), (4, .ref (ad 70)), (3, .ref (ad 69)), (2, .ref (ad 52)), (1, .ref (ad 0)), (0, .ref (g.2.2 40))]) [2, 3, 4, 5, 6, 7] rfl ?_
            refine y_end (fun wC hC => ?_)
            exact LC_next ⟨_, (hI.gen (t2 := (mg t s9)) (is := [69]) (L2 := []) hC rfl ⟨kd_69.mpr rfl, trivial⟩ (by decide) (by decide) (fun _ h => nomatch h) (fun _ h => nomatch h) (fun _ _ _ => rfl) (fun h => h) rfl)⟩ ((hR.n (huM.trans huC)).up (by omega)) hJ hL ih (by omega) (by omega)
          · refine y_aload_n d_Lw_law_901 rfl 4 rfl ?_
            refine y_iconst d_Lw_law_902 (v := 0) (by decide) ?_
            refine y_lald d_Lw_law_903 (q0 := 0) rfl (fun q => q.elim (by decide) (by decide)) (v := (((mg t s9).1 69).2.1) 0) rfl ?_
            refine y_iload d_Lw_law_904 0 rfl ?_
            refine y_i2l d_Lw_law_906 (v := ((vK_Mm_sand ad (zc g (7 * j + 1)) t).2).toInt64) rfl ?_
            refine y_lcmp d_Lw_law_907 (v := 0) (by rw [show (((mg t s9).1 69).2.1) 0 = _ from hv9.trans (hvo c_898)]; exact zl_cmp ((V_sand (ad := ad) (zc g (7 * j + 1)) hR).2 c_898)) ?_
            refine y_if_eq (tgt := 913) d_Lw_law_908 (by decide) (fun c_908 => ?_) (fun c_908 => ?_)
            · refine y_goto (tgt := 1808) d_Lw_law_913 (by decide) ?_
              refine y_lv (lv' := [(5, .int (nI (7 * j))), (4, .ref (ad 70)), (3, .ref (ad 69)), (2, .ref (ad 52)), (1, .ref (ad 0)), (0, .ref (g.2.2 40))]) [2, 3, 4, 5, 6, 7] rfl ?_
              refine y_end (fun wC hC => ?_)
              exact LC_next ⟨_, (hI.gen (t2 := (mg t s9)) (is := [69]) (L2 := []) hC rfl ⟨kd_69.mpr rfl, trivial⟩ (by decide) (by decide) (fun _ h => nomatch h) (fun _ h => nomatch h) (fun _ _ _ => rfl) (fun h => h) rfl)⟩ ((hR.n (huM.trans huC)).up (by omega)) hJ hL ih (by omega) (by omega)
            · exact absurd c_908 (by decide)
        · exact absurd (V_sand (ad := ad) (zc g (7 * j + 1)) hR).1.symm c_891
theorem d_Lw_law_1748 : decode code 1748 = .ok (.aload_n 1, 1) := by decide +kernel
theorem d_Lw_law_1749 : decode code 1749 = .ok (.invokevirtual 329, 3) := by decide +kernel
theorem ok_Lw_law_Ip_delivered : z_ok M_Lw_law M_Ip_delivered 0 := ⟨z_mem (i := 473) (by decide +kernel) (by decide +kernel), rfl, ⟨by decide +kernel, by decide +kernel, by decide +kernel⟩, ⟨by decide, by decide⟩, z_mem (i := 58) (by decide +kernel) (by decide +kernel), rfl⟩
theorem ln_Lw_329 : Cond.methodLink "IronpourLaw" 329 M_Ip_delivered.1 ∈ z_gw := z_mem (i := 470) (by decide +kernel) (by decide +kernel)
theorem d_Lw_law_1752 : decode code 1752 = .ok (.pop2, 1) := by decide +kernel
theorem d_Lw_law_1753 : decode code 1753 = .ok (.aload_n 2, 1) := by decide +kernel
theorem d_Lw_law_1754 : decode code 1754 = .ok (.invokevirtual 333, 3) := by decide +kernel
theorem ok_Lw_law_Mm_delivered : z_ok M_Lw_law M_Mm_delivered 0 := ⟨z_mem (i := 2044) (by decide +kernel) (by decide +kernel), rfl, ⟨by decide +kernel, by decide +kernel, by decide +kernel⟩, ⟨by decide, by decide⟩, z_mem (i := 71) (by decide +kernel) (by decide +kernel), rfl⟩
theorem ln_Lw_333 : Cond.methodLink "IronpourLaw" 333 M_Mm_delivered.1 ∈ z_gw := z_mem (i := 2041) (by decide +kernel) (by decide +kernel)
theorem w_im_Mm_delivered : Cond.instanceMethod M_Mm_delivered.1 ∈ z_gw := z_mem (i := 2042) (by decide +kernel) (by decide +kernel)
theorem w_se_Mm_delivered : Cond.selects M_Mm_delivered.1.cls M_Mm_delivered.1 M_Mm_delivered.1 ∈ z_gw := z_mem (i := 2043) (by decide +kernel) (by decide +kernel)
theorem d_Lw_law_1757 : decode code 1757 = .ok (.pop2, 1) := by decide +kernel
theorem d_Lw_law_1758 : decode code 1758 = .ok (.goto 50, 3) := by decide +kernel
set_option maxHeartbeats 4000000 in
set_option maxRecDepth 100000 in
theorem LC_delivered {g : zG} {ad : Nat → Nat} {t : zTT} {u : zNN} {w : zW} {j : Nat} (hI : IVm g ad t u w) (hR : REL t u.1 (48 * j)) {r : Nat} (hJ : 7 * j + 7 ≤ g.2.2 41) (hL : g.2.2 41 ≤ 3584) (ih : LWI g ad j r) : DW g M_Lw_law lwQ w 1748 [(5, .int (nI (7 * j))), (4, .ref (ad 70)), (3, .ref (ad 69)), (2, .ref (ad 52)), (1, .ref (ad 0)), (0, .ref (g.2.2 40))] [] (100 * (r + 1)) (1000 * (r + 1)) := by
  refine y_base (cs := []) (z_I.nil w) ?_
  refine y_aload_n d_Lw_law_1748 rfl 4 rfl ?_
  refine yw_callVL (As := []) (rest := []) (ci := 11) rfl (fun wA hA => (IVm.nil hA hI).ra) ln_Lw_329 w_im_Ip_delivered w_se_Ip_delivered ok_Lw_law_Ip_delivered d_Lw_law_1749 (fun wA hA => K_Ip_delivered (IVm.nil hA hI)) rfl rfl (Nat.le_of_ble_eq_true rfl) (by omega) (by omega) (fun wA1749 hA1749 E wB1749 hx => ?_) (fun wA1749 hA1749 v wB1749 hx => ?_)
  · obtain ⟨⟨v9, e1⟩, -⟩ := hx
    cases e1
  · obtain ⟨⟨v9, e1⟩, hI2⟩ := hx
    cases e1
    refine yw_st (st2 := [.long v9]) rfl ?_
    have hI := hI2
    refine y_base (cs := []) (z_I.nil _) ?_
    refine y_pop2 d_Lw_law_1752 rfl ?_
    refine y_aload_n d_Lw_law_1753 rfl 3 rfl ?_
    refine yw_callVL (As := []) (rest := []) (ci := 12) rfl (fun wA hA => (IVm.nil hA hI).rm) ln_Lw_333 w_im_Mm_delivered w_se_Mm_delivered ok_Lw_law_Mm_delivered d_Lw_law_1754 (fun wA hA => K_Mm_delivered (IVm.nil hA hI)) rfl rfl (Nat.le_of_ble_eq_true rfl) (by omega) (by omega) (fun wA1754 hA1754 E wB1754 hx => ?_) (fun wA1754 hA1754 v wB1754 hx => ?_)
    · obtain ⟨⟨v9, e1⟩, -⟩ := hx
      cases e1
    · obtain ⟨⟨v8, e1⟩, hI2⟩ := hx
      cases e1
      refine yw_st (st2 := [.long v8]) rfl ?_
      have hI := hI2
      refine y_base (cs := []) (z_I.nil _) ?_
      refine y_pop2 d_Lw_law_1757 rfl ?_
      refine y_goto (tgt := 1808) d_Lw_law_1758 (by decide) ?_
      refine y_lv (lv' := [(5, .int (nI (7 * j))), (4, .ref (ad 70)), (3, .ref (ad 69)), (2, .ref (ad 52)), (1, .ref (ad 0)), (0, .ref (g.2.2 40))]) [0, 1, 2, 3, 4, 5] rfl ?_
      refine y_end (fun wC hC => ?_)
      exact LC_next (IVm.nil hC hI) (hR.up (by omega)) hJ hL ih (by omega) (by omega)
theorem d_Lw_law_1761 : decode code 1761 = .ok (.aload_n 1, 1) := by decide +kernel
theorem d_Lw_law_1762 : decode code 1762 = .ok (.aload 4, 2) := by decide +kernel
theorem d_Lw_law_1764 : decode code 1764 = .ok (.invokestatic 334, 3) := by decide +kernel
theorem ok_Lw_law_Lw_goodShare : z_okX M_Lw_law M_Lw_goodShare 2 := ⟨z_mem (i := 1541) (by decide +kernel) (by decide +kernel), by decide, ⟨by decide +kernel, by decide +kernel, by decide +kernel⟩, ⟨by decide, by decide⟩, z_mem (i := 57) (by decide +kernel) (by decide +kernel), rfl⟩
theorem ln_Lw_334 : Cond.methodLink "IronpourLaw" 334 M_Lw_goodShare.1 ∈ z_gw := z_mem (i := 1539) (by decide +kernel) (by decide +kernel)
theorem w_st_Lw_goodShare : Cond.static M_Lw_goodShare.1 ∈ z_gw := z_mem (i := 1540) (by decide +kernel) (by decide +kernel)
theorem d_Lw_law_1767 : decode code 1767 = .ok (.istore 6, 2) := by decide +kernel
theorem d_Lw_law_1769 : decode code 1769 = .ok (.aload_n 2, 1) := by decide +kernel
theorem d_Lw_law_1770 : decode code 1770 = .ok (.invokevirtual 337, 3) := by decide +kernel
theorem ok_Lw_law_Mm_goodShare : z_ok M_Lw_law M_Mm_goodShare 0 := ⟨z_mem (i := 2048) (by decide +kernel) (by decide +kernel), rfl, ⟨by decide +kernel, by decide +kernel, by decide +kernel⟩, ⟨by decide, by decide⟩, z_mem (i := 71) (by decide +kernel) (by decide +kernel), rfl⟩
theorem ln_Lw_337 : Cond.methodLink "IronpourLaw" 337 M_Mm_goodShare.1 ∈ z_gw := z_mem (i := 2045) (by decide +kernel) (by decide +kernel)
theorem w_im_Mm_goodShare : Cond.instanceMethod M_Mm_goodShare.1 ∈ z_gw := z_mem (i := 2046) (by decide +kernel) (by decide +kernel)
theorem w_se_Mm_goodShare : Cond.selects M_Mm_goodShare.1.cls M_Mm_goodShare.1 M_Mm_goodShare.1 ∈ z_gw := z_mem (i := 2047) (by decide +kernel) (by decide +kernel)
theorem d_Lw_law_1773 : decode code 1773 = .ok (.fstore 7, 2) := by decide +kernel
theorem d_Lw_law_1775 : decode code 1775 = .ok (.goto 33, 3) := by decide +kernel
set_option maxHeartbeats 4000000 in
set_option maxRecDepth 100000 in
theorem LC_goodShare {g : zG} {ad : Nat → Nat} {t : zTT} {u : zNN} {w : zW} {j : Nat} (hI : IVm g ad t u w) (hR : REL t u.1 (48 * j)) {r : Nat} (hJ : 7 * j + 7 ≤ g.2.2 41) (hL : g.2.2 41 ≤ 3584) (ih : LWI g ad j r) : DW g M_Lw_law lwQ w 1761 [(5, .int (nI (7 * j))), (4, .ref (ad 70)), (3, .ref (ad 69)), (2, .ref (ad 52)), (1, .ref (ad 0)), (0, .ref (g.2.2 40))] [] (100 * (r + 1)) (1000 * (r + 1)) := by
  refine y_base (cs := []) (z_I.nil w) ?_
  refine y_aload_n d_Lw_law_1761 rfl 4 rfl ?_
  refine y_aload d_Lw_law_1762 1 rfl ?_
  refine yw_callSX (As := [.ref (ad 0), .ref (ad 70)]) (rest := []) ln_Lw_334 w_st_Lw_goodShare ok_Lw_law_Lw_goodShare d_Lw_law_1764 (fun wA hA => W_goodShare (IVm.nil hA hI)) rfl rfl (Nat.le_of_ble_eq_true rfl) (by omega) (by omega) (fun wA1764 hA1764 E wB1764 hx => ?_) (fun wA1764 hA1764 v wB1764 hx => ?_)
  · obtain ⟨⟨v9, e1⟩, -⟩ := hx
    cases e1
  · obtain ⟨⟨v9, e1⟩, hI2⟩ := hx
    cases e1
    refine yw_st (st2 := [.int v9]) rfl ?_
    have hI := hI2
    refine y_base (cs := []) (z_I.nil _) ?_
    refine y_istore (lv' := [(6, .int v9), (5, .int (nI (7 * j))), (4, .ref (ad 70)), (3, .ref (ad 69)), (2, .ref (ad 52)), (1, .ref (ad 0)), (0, .ref (g.2.2 40))]) d_Lw_law_1767 (by decide) rfl ?_
    refine y_aload_n d_Lw_law_1769 rfl 4 rfl ?_
    refine yw_callVL (As := []) (rest := []) (ci := 12) rfl (fun wA hA => (IVm.nil hA hI).rm) ln_Lw_337 w_im_Mm_goodShare w_se_Mm_goodShare ok_Lw_law_Mm_goodShare d_Lw_law_1770 (fun wA hA => K_Mm_goodShare (IVm.nil hA hI)) rfl rfl (Nat.le_of_ble_eq_true rfl) (by omega) (by omega) (fun wA1770 hA1770 E wB1770 hx => ?_) (fun wA1770 hA1770 v wB1770 hx => ?_)
    · obtain ⟨⟨v9, e1⟩, -⟩ := hx
      cases e1
    · obtain ⟨⟨v8, e1⟩, hI2⟩ := hx
      cases e1
      refine yw_st (st2 := [.float v8]) rfl ?_
      have hI := hI2
      refine y_base (cs := []) (z_I.nil _) ?_
      refine y_fstore (lv' := [(7, .float v8), (6, .int v9), (5, .int (nI (7 * j))), (4, .ref (ad 70)), (3, .ref (ad 69)), (2, .ref (ad 52)), (1, .ref (ad 0)), (0, .ref (g.2.2 40))]) d_Lw_law_1773 (by decide) rfl ?_
      refine y_goto (tgt := 1808) d_Lw_law_1775 (by decide) ?_
      refine y_lv (lv' := [(5, .int (nI (7 * j))), (4, .ref (ad 70)), (3, .ref (ad 69)), (2, .ref (ad 52)), (1, .ref (ad 0)), (0, .ref (g.2.2 40))]) [2, 3, 4, 5, 6, 7] rfl ?_
      refine y_end (fun wC hC => ?_)
      exact LC_next (IVm.nil hC hI) (hR.up (by omega)) hJ hL ih (by omega) (by omega)
theorem d_Lw_law_1778 : decode code 1778 = .ok (.aload_n 1, 1) := by decide +kernel
theorem d_Lw_law_1779 : decode code 1779 = .ok (.aload 4, 2) := by decide +kernel
theorem d_Lw_law_1781 : decode code 1781 = .ok (.invokestatic 338, 3) := by decide +kernel
theorem ok_Lw_law_Lw_meanBar : z_okX M_Lw_law M_Lw_meanBar 2 := ⟨z_mem (i := 1566) (by decide +kernel) (by decide +kernel), by decide, ⟨by decide +kernel, by decide +kernel, by decide +kernel⟩, ⟨by decide, by decide⟩, z_mem (i := 57) (by decide +kernel) (by decide +kernel), rfl⟩
theorem ln_Lw_338 : Cond.methodLink "IronpourLaw" 338 M_Lw_meanBar.1 ∈ z_gw := z_mem (i := 1564) (by decide +kernel) (by decide +kernel)
theorem w_st_Lw_meanBar : Cond.static M_Lw_meanBar.1 ∈ z_gw := z_mem (i := 1565) (by decide +kernel) (by decide +kernel)
theorem d_Lw_law_1784 : decode code 1784 = .ok (.istore 6, 2) := by decide +kernel
theorem d_Lw_law_1786 : decode code 1786 = .ok (.aload_n 2, 1) := by decide +kernel
theorem d_Lw_law_1787 : decode code 1787 = .ok (.invokevirtual 340, 3) := by decide +kernel
theorem ok_Lw_law_Mm_meanBar : z_ok M_Lw_law M_Mm_meanBar 0 := ⟨z_mem (i := 2052) (by decide +kernel) (by decide +kernel), rfl, ⟨by decide +kernel, by decide +kernel, by decide +kernel⟩, ⟨by decide, by decide⟩, z_mem (i := 71) (by decide +kernel) (by decide +kernel), rfl⟩
theorem ln_Lw_340 : Cond.methodLink "IronpourLaw" 340 M_Mm_meanBar.1 ∈ z_gw := z_mem (i := 2049) (by decide +kernel) (by decide +kernel)
theorem w_im_Mm_meanBar : Cond.instanceMethod M_Mm_meanBar.1 ∈ z_gw := z_mem (i := 2050) (by decide +kernel) (by decide +kernel)
theorem w_se_Mm_meanBar : Cond.selects M_Mm_meanBar.1.cls M_Mm_meanBar.1 M_Mm_meanBar.1 ∈ z_gw := z_mem (i := 2051) (by decide +kernel) (by decide +kernel)
theorem d_Lw_law_1790 : decode code 1790 = .ok (.dstore 7, 2) := by decide +kernel
theorem d_Lw_law_1792 : decode code 1792 = .ok (.goto 16, 3) := by decide +kernel
set_option maxHeartbeats 4000000 in
set_option maxRecDepth 100000 in
theorem LC_meanBar {g : zG} {ad : Nat → Nat} {t : zTT} {u : zNN} {w : zW} {j : Nat} (hI : IVm g ad t u w) (hR : REL t u.1 (48 * j)) {r : Nat} (hJ : 7 * j + 7 ≤ g.2.2 41) (hL : g.2.2 41 ≤ 3584) (ih : LWI g ad j r) : DW g M_Lw_law lwQ w 1778 [(5, .int (nI (7 * j))), (4, .ref (ad 70)), (3, .ref (ad 69)), (2, .ref (ad 52)), (1, .ref (ad 0)), (0, .ref (g.2.2 40))] [] (100 * (r + 1)) (1000 * (r + 1)) := by
  refine y_base (cs := []) (z_I.nil w) ?_
  refine y_aload_n d_Lw_law_1778 rfl 4 rfl ?_
  refine y_aload d_Lw_law_1779 1 rfl ?_
  refine yw_callSX (As := [.ref (ad 0), .ref (ad 70)]) (rest := []) ln_Lw_338 w_st_Lw_meanBar ok_Lw_law_Lw_meanBar d_Lw_law_1781 (fun wA hA => W_meanBar (IVm.nil hA hI)) rfl rfl (Nat.le_of_ble_eq_true rfl) (by omega) (by omega) (fun wA1781 hA1781 E wB1781 hx => ?_) (fun wA1781 hA1781 v wB1781 hx => ?_)
  · obtain ⟨⟨v9, e1⟩, -⟩ := hx
    cases e1
  · obtain ⟨⟨v9, e1⟩, hI2⟩ := hx
    cases e1
    refine yw_st (st2 := [.int v9]) rfl ?_
    have hI := hI2
    refine y_base (cs := []) (z_I.nil _) ?_
    refine y_istore (lv' := [(6, .int v9), (5, .int (nI (7 * j))), (4, .ref (ad 70)), (3, .ref (ad 69)), (2, .ref (ad 52)), (1, .ref (ad 0)), (0, .ref (g.2.2 40))]) d_Lw_law_1784 (by decide) rfl ?_
    refine y_aload_n d_Lw_law_1786 rfl 4 rfl ?_
    refine yw_callVL (As := []) (rest := []) (ci := 12) rfl (fun wA hA => (IVm.nil hA hI).rm) ln_Lw_340 w_im_Mm_meanBar w_se_Mm_meanBar ok_Lw_law_Mm_meanBar d_Lw_law_1787 (fun wA hA => K_Mm_meanBar (IVm.nil hA hI)) rfl rfl (Nat.le_of_ble_eq_true rfl) (by omega) (by omega) (fun wA1787 hA1787 E wB1787 hx => ?_) (fun wA1787 hA1787 v wB1787 hx => ?_)
    · obtain ⟨⟨v9, e1⟩, -⟩ := hx
      cases e1
    · obtain ⟨⟨v8, e1⟩, hI2⟩ := hx
      cases e1
      refine yw_st (st2 := [.double v8]) rfl ?_
      have hI := hI2
      refine y_base (cs := []) (z_I.nil _) ?_
      refine y_dstore (lv' := [(7, .double v8), (6, .int v9), (5, .int (nI (7 * j))), (4, .ref (ad 70)), (3, .ref (ad 69)), (2, .ref (ad 52)), (1, .ref (ad 0)), (0, .ref (g.2.2 40))]) d_Lw_law_1790 (by decide) rfl ?_
      refine y_goto (tgt := 1808) d_Lw_law_1792 (by decide) ?_
      refine y_lv (lv' := [(5, .int (nI (7 * j))), (4, .ref (ad 70)), (3, .ref (ad 69)), (2, .ref (ad 52)), (1, .ref (ad 0)), (0, .ref (g.2.2 40))]) [2, 3, 4, 5, 6, 7] rfl ?_
      refine y_end (fun wC hC => ?_)
      exact LC_next (IVm.nil hC hI) (hR.up (by omega)) hJ hL ih (by omega) (by omega)
