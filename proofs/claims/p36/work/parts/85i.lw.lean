theorem d45 : decode M_Lw_law.2.1 45 = .ok (.tableswitch 1763 0 49 #[215, 293, 333, 361, 374, 387, 400, 413, 453, 469, 521, 585, 637, 665, 693, 721, 749, 813, 843, 883, 896, 924, 966, 996, 1024, 1052, 1080, 1108, 1138, 1154, 1184, 1228, 1318, 1348, 1364, 1420, 1436, 1449, 1477, 1505, 1533, 1575, 1603, 1631, 1659, 1687, 1703, 1716, 1733, 1750], 215) := by decide +kernel
theorem LW_sw {g : zG} {ad : Nat → Nat} {t : zTT} {u : zNN} {w : zW} {j : Nat} (hI : IVm g ad t u w) (hR : REL t u.1 (48 * j)) {r : Nat} (hJ : 7 * j + 7 ≤ g.2.2 41) (hL : g.2.2 41 ≤ 3584) (ih : LWI g ad j r) : DW g M_Lw_law lwQ w 45 [(5, .int (nI (7 * j))), (4, .ref (ad 70)), (3, .ref (ad 69)), (2, .ref (ad 52)), (1, .ref (ad 0)), (0, .ref (g.2.2 40))] [.int (zs g (7 * j) &&& 63)] (100 * (r + 1)) (1000 * (r + 1)) := by
  obtain ⟨k, hk, e⟩ := z_63 (zs g (7 * j))
  rw [e]
  refine y_base (cs := []) (z_I.nil w) ?_
  match k, hk with
  | 0, _ => exact y_tableIn (off := 215) (tgt := 260) d45 (by decide) (by decide) (by decide) (by decide) (y_end (fun wC hC => LC_draw (IVm.nil hC hI) hR hJ hL ih))
  | 1, _ => exact y_tableIn (off := 293) (tgt := 338) d45 (by decide) (by decide) (by decide) (by decide) (y_end (fun wC hC => LC_cell (IVm.nil hC hI) hR hJ hL ih))
  | 2, _ => exact y_tableIn (off := 333) (tgt := 378) d45 (by decide) (by decide) (by decide) (by decide) (y_end (fun wC hC => LC_part (IVm.nil hC hI) hR hJ hL ih))
  | 3, _ => exact y_tableIn (off := 361) (tgt := 406) d45 (by decide) (by decide) (by decide) (by decide) (y_end (fun wC hC => LC_undercut (IVm.nil hC hI) hR hJ hL ih))
  | 4, _ => exact y_tableIn (off := 374) (tgt := 419) d45 (by decide) (by decide) (by decide) (by decide) (y_end (fun wC hC => LC_cores (IVm.nil hC hI) hR hJ hL ih))
  | 5, _ => exact y_tableIn (off := 387) (tgt := 432) d45 (by decide) (by decide) (by decide) (by decide) (y_end (fun wC hC => LC_loose (IVm.nil hC hI) hR hJ hL ih))
  | 6, _ => exact y_tableIn (off := 400) (tgt := 445) d45 (by decide) (by decide) (by decide) (by decide) (y_end (fun wC hC => LC_weight (IVm.nil hC hI) hR hJ hL ih))
  | 7, _ => exact y_tableIn (off := 413) (tgt := 458) d45 (by decide) (by decide) (by decide) (by decide) (y_end (fun wC hC => LC_filledIn (IVm.nil hC hI) hR hJ hL ih))
  | 8, _ => exact y_tableIn (off := 453) (tgt := 498) d45 (by decide) (by decide) (by decide) (by decide) (y_end (fun wC hC => LC_speed (IVm.nil hC hI) hR hJ hL ih))
  | 9, _ => exact y_tableIn (off := 469) (tgt := 514) d45 (by decide) (by decide) (by decide) (by decide) (y_end (fun wC hC => LC_frozenIn (IVm.nil hC hI) hR hJ hL ih))
  | 10, _ => exact y_tableIn (off := 521) (tgt := 566) d45 (by decide) (by decide) (by decide) (by decide) (y_end (fun wC hC => LC_heatAt (IVm.nil hC hI) hR hJ hL ih))
  | 11, _ => exact y_tableIn (off := 585) (tgt := 630) d45 (by decide) (by decide) (by decide) (by decide) (y_end (fun wC hC => LC_isFed (IVm.nil hC hI) hR hJ hL ih))
  | 12, _ => exact y_tableIn (off := 637) (tgt := 682) d45 (by decide) (by decide) (by decide) (by decide) (y_end (fun wC hC => LC_shrunk (IVm.nil hC hI) hR hJ hL ih))
  | 13, _ => exact y_tableIn (off := 665) (tgt := 710) d45 (by decide) (by decide) (by decide) (by decide) (y_end (fun wC hC => LC_shrunkAnew (IVm.nil hC hI) hR hJ hL ih))
  | 14, _ => exact y_tableIn (off := 693) (tgt := 738) d45 (by decide) (by decide) (by decide) (by decide) (y_end (fun wC hC => LC_lastPlace (IVm.nil hC hI) hR hJ hL ih))
  | 15, _ => exact y_tableIn (off := 721) (tgt := 766) d45 (by decide) (by decide) (by decide) (by decide) (y_end (fun wC hC => LC_bestFeeder (IVm.nil hC hI) hR hJ hL ih))
  | 16, _ => exact y_tableIn (off := 749) (tgt := 794) d45 (by decide) (by decide) (by decide) (by decide) (y_end (fun wC hC => LC_mill (IVm.nil hC hI) hR hJ hL ih))
  | 17, _ => exact y_tableIn (off := 813) (tgt := 858) d45 (by decide) (by decide) (by decide) (by decide) (y_end (fun wC hC => LC_sand (IVm.nil hC hI) hR hJ hL ih))
  | 18, _ => exact y_tableIn (off := 843) (tgt := 888) d45 (by decide) (by decide) (by decide) (by decide) (y_end (fun wC hC => LC_makeCores (IVm.nil hC hI) hR hJ hL ih))
  | 19, _ => exact y_tableIn (off := 883) (tgt := 928) d45 (by decide) (by decide) (by decide) (by decide) (y_end (fun wC hC => LC_goodCores (IVm.nil hC hI) hR hJ hL ih))
  | 20, _ => exact y_tableIn (off := 896) (tgt := 941) d45 (by decide) (by decide) (by decide) (by decide) (y_end (fun wC hC => LC_hours (IVm.nil hC hI) hR hJ hL ih))
  | 21, _ => exact y_tableIn (off := 924) (tgt := 969) d45 (by decide) (by decide) (by decide) (by decide) (y_end (fun wC hC => LC_charge (IVm.nil hC hI) hR hJ hL ih))
  | 22, _ => exact y_tableIn (off := 966) (tgt := 1011) d45 (by decide) (by decide) (by decide) (by decide) (y_end (fun wC hC => LC_furnace (IVm.nil hC hI) hR hJ hL ih))
  | 23, _ => exact y_tableIn (off := 996) (tgt := 1041) d45 (by decide) (by decide) (by decide) (by decide) (y_end (fun wC hC => LC_hold (IVm.nil hC hI) hR hJ hL ih))
  | 24, _ => exact y_tableIn (off := 1024) (tgt := 1069) d45 (by decide) (by decide) (by decide) (by decide) (y_end (fun wC hC => LC_tap (IVm.nil hC hI) hR hJ hL ih))
  | 25, _ => exact y_tableIn (off := 1052) (tgt := 1097) d45 (by decide) (by decide) (by decide) (by decide) (y_end (fun wC hC => LC_treat (IVm.nil hC hI) hR hJ hL ih))
  | 26, _ => exact y_tableIn (off := 1080) (tgt := 1125) d45 (by decide) (by decide) (by decide) (by decide) (y_end (fun wC hC => LC_minutes (IVm.nil hC hI) hR hJ hL ih))
  | 27, _ => exact y_tableIn (off := 1108) (tgt := 1153) d45 (by decide) (by decide) (by decide) (by decide) (y_end (fun wC hC => LC_ladle (IVm.nil hC hI) hR hJ hL ih))
  | 28, _ => exact y_tableIn (off := 1138) (tgt := 1183) d45 (by decide) (by decide) (by decide) (by decide) (y_end (fun wC hC => LC_pig (IVm.nil hC hI) hR hJ hL ih))
  | 29, _ => exact y_tableIn (off := 1154) (tgt := 1199) d45 (by decide) (by decide) (by decide) (by decide) (y_end (fun wC hC => LC_pool (IVm.nil hC hI) hR hJ hL ih))
  | 30, _ => exact y_tableIn (off := 1184) (tgt := 1229) d45 (by decide) (by decide) (by decide) (by decide) (y_end (fun wC hC => LC_poolHas (IVm.nil hC hI) hR hJ hL ih))
  | 31, _ => exact y_tableIn (off := 1228) (tgt := 1273) d45 (by decide) (by decide) (by decide) (by decide) (y_end (fun wC hC => LC_leastCost (IVm.nil hC hI) hR hJ hL ih))
  | 32, _ => exact y_tableIn (off := 1318) (tgt := 1363) d45 (by decide) (by decide) (by decide) (by decide) (y_end (fun wC hC => LC_cheapest (IVm.nil hC hI) hR hJ hL ih))
  | 33, _ => exact y_tableIn (off := 1348) (tgt := 1393) d45 (by decide) (by decide) (by decide) (by decide) (y_end (fun wC hC => LC_mould (IVm.nil hC hI) hR hJ hL ih))
  | 34, _ => exact y_tableIn (off := 1364) (tgt := 1409) d45 (by decide) (by decide) (by decide) (by decide) (y_end (fun wC hC => LC_waiting (IVm.nil hC hI) hR hJ hL ih))
  | 35, _ => exact y_tableIn (off := 1420) (tgt := 1465) d45 (by decide) (by decide) (by decide) (by decide) (y_end (fun wC hC => LC_pour (IVm.nil hC hI) hR hJ hL ih))
  | 36, _ => exact y_tableIn (off := 1436) (tgt := 1481) d45 (by decide) (by decide) (by decide) (by decide) (y_end (fun wC hC => LC_castings (IVm.nil hC hI) hR hJ hL ih))
  | 37, _ => exact y_tableIn (off := 1449) (tgt := 1494) d45 (by decide) (by decide) (by decide) (by decide) (y_end (fun wC hC => LC_alloy (IVm.nil hC hI) hR hJ hL ih))
  | 38, _ => exact y_tableIn (off := 1477) (tgt := 1522) d45 (by decide) (by decide) (by decide) (by decide) (y_end (fun wC hC => LC_faults (IVm.nil hC hI) hR hJ hL ih))
  | 39, _ => exact y_tableIn (off := 1505) (tgt := 1550) d45 (by decide) (by decide) (by decide) (by decide) (y_end (fun wC hC => LC_shrunkIn (IVm.nil hC hI) hR hJ hL ih))
  | 40, _ => exact y_tableIn (off := 1533) (tgt := 1578) d45 (by decide) (by decide) (by decide) (by decide) (y_end (fun wC hC => LC_has (IVm.nil hC hI) hR hJ hL ih))
  | 41, _ => exact y_tableIn (off := 1575) (tgt := 1620) d45 (by decide) (by decide) (by decide) (by decide) (y_end (fun wC hC => LC_bar (IVm.nil hC hI) hR hJ hL ih))
  | 42, _ => exact y_tableIn (off := 1603) (tgt := 1648) d45 (by decide) (by decide) (by decide) (by decide) (y_end (fun wC hC => LC_weld (IVm.nil hC hI) hR hJ hL ih))
  | 43, _ => exact y_tableIn (off := 1631) (tgt := 1676) d45 (by decide) (by decide) (by decide) (by decide) (y_end (fun wC hC => LC_deliver (IVm.nil hC hI) hR hJ hL ih))
  | 44, _ => exact y_tableIn (off := 1659) (tgt := 1704) d45 (by decide) (by decide) (by decide) (by decide) (y_end (fun wC hC => LC_breakUp (IVm.nil hC hI) hR hJ hL ih))
  | 45, _ => exact y_tableIn (off := 1687) (tgt := 1732) d45 (by decide) (by decide) (by decide) (by decide) (y_end (fun wC hC => LC_worst (IVm.nil hC hI) hR hJ hL ih))
  | 46, _ => exact y_tableIn (off := 1703) (tgt := 1748) d45 (by decide) (by decide) (by decide) (by decide) (y_end (fun wC hC => LC_delivered (IVm.nil hC hI) hR hJ hL ih))
  | 47, _ => exact y_tableIn (off := 1716) (tgt := 1761) d45 (by decide) (by decide) (by decide) (by decide) (y_end (fun wC hC => LC_goodShare (IVm.nil hC hI) hR hJ hL ih))
  | 48, _ => exact y_tableIn (off := 1733) (tgt := 1778) d45 (by decide) (by decide) (by decide) (by decide) (y_end (fun wC hC => LC_meanBar (IVm.nil hC hI) hR hJ hL ih))
  | 49, _ => exact y_tableIn (off := 1750) (tgt := 1795) d45 (by decide) (by decide) (by decide) (by decide) (y_end (fun wC hC => LC_isSound (IVm.nil hC hI) hR hJ hL ih))
  | 50, _ => exact y_tableOut (tgt := 1808) d45 (by decide) (by decide) (y_end (fun wC hC => LC_next (IVm.nil hC hI) (hR.up (by omega)) hJ hL ih (by omega) (by omega)))
  | 51, _ => exact y_tableOut (tgt := 1808) d45 (by decide) (by decide) (y_end (fun wC hC => LC_next (IVm.nil hC hI) (hR.up (by omega)) hJ hL ih (by omega) (by omega)))
  | 52, _ => exact y_tableOut (tgt := 1808) d45 (by decide) (by decide) (y_end (fun wC hC => LC_next (IVm.nil hC hI) (hR.up (by omega)) hJ hL ih (by omega) (by omega)))
  | 53, _ => exact y_tableOut (tgt := 1808) d45 (by decide) (by decide) (y_end (fun wC hC => LC_next (IVm.nil hC hI) (hR.up (by omega)) hJ hL ih (by omega) (by omega)))
  | 54, _ => exact y_tableOut (tgt := 1808) d45 (by decide) (by decide) (y_end (fun wC hC => LC_next (IVm.nil hC hI) (hR.up (by omega)) hJ hL ih (by omega) (by omega)))
  | 55, _ => exact y_tableOut (tgt := 1808) d45 (by decide) (by decide) (y_end (fun wC hC => LC_next (IVm.nil hC hI) (hR.up (by omega)) hJ hL ih (by omega) (by omega)))
  | 56, _ => exact y_tableOut (tgt := 1808) d45 (by decide) (by decide) (y_end (fun wC hC => LC_next (IVm.nil hC hI) (hR.up (by omega)) hJ hL ih (by omega) (by omega)))
  | 57, _ => exact y_tableOut (tgt := 1808) d45 (by decide) (by decide) (y_end (fun wC hC => LC_next (IVm.nil hC hI) (hR.up (by omega)) hJ hL ih (by omega) (by omega)))
  | 58, _ => exact y_tableOut (tgt := 1808) d45 (by decide) (by decide) (y_end (fun wC hC => LC_next (IVm.nil hC hI) (hR.up (by omega)) hJ hL ih (by omega) (by omega)))
  | 59, _ => exact y_tableOut (tgt := 1808) d45 (by decide) (by decide) (y_end (fun wC hC => LC_next (IVm.nil hC hI) (hR.up (by omega)) hJ hL ih (by omega) (by omega)))
  | 60, _ => exact y_tableOut (tgt := 1808) d45 (by decide) (by decide) (y_end (fun wC hC => LC_next (IVm.nil hC hI) (hR.up (by omega)) hJ hL ih (by omega) (by omega)))
  | 61, _ => exact y_tableOut (tgt := 1808) d45 (by decide) (by decide) (y_end (fun wC hC => LC_next (IVm.nil hC hI) (hR.up (by omega)) hJ hL ih (by omega) (by omega)))
  | 62, _ => exact y_tableOut (tgt := 1808) d45 (by decide) (by decide) (y_end (fun wC hC => LC_next (IVm.nil hC hI) (hR.up (by omega)) hJ hL ih (by omega) (by omega)))
  | 63, _ => exact y_tableOut (tgt := 1808) d45 (by decide) (by decide) (y_end (fun wC hC => LC_next (IVm.nil hC hI) (hR.up (by omega)) hJ hL ih (by omega) (by omega)))
  | k + 64, hk => exact absurd hk (by omega)
def zgs : Nat → Int32 := fun k => ([80, 35, 30, 50, 0] : List Int32).getD k 0
def zms : Nat → Int32 := fun k => ([80, 35, 30, 50, 0, 0, 0, 0, 0, -1, 0] : List Int32).getD k 0
def zT0 : zTT := (fun i => ((if i = 2 ∨ i = 53 ∨ i = 6 then (fa_fill (fun _ => 46) (fun _ => 0) 108) else if i = 31 then zgs else if i = 52 then zms else fun _ => 0), fun _ => 0, fun _ => if i = 1 ∨ i = 52 then 4 else 0), fun _ _ => (fun _ => 0, fun _ => 0, fun _ => 0, fun _ => 0))
theorem z_adI {cs : zC} (h : (cs.map Prod.fst).Nodup) {i j : Nat} (hi : i < cs.length) (hj : j < cs.length) (e : (cs.map Prod.fst).getD i 0 = (cs.map Prod.fst).getD j 0) : i = j := by
  have h1 : ∀ k, (hk : k < cs.length) → (cs.map Prod.fst).getD k 0 = (cs[k]'hk).1 := fun k hk => by
    rw [List.getD_eq_getElem?_getD, List.getElem?_map, List.getElem?_eq_getElem hk]; rfl
  exact z_nd h (List.getElem?_eq_getElem hi) (List.getElem?_eq_getElem hj) ((h1 i hi).symm.trans (e.trans (h1 j hj)))
theorem z_fp_ch : z_ch (fa_fill (fun _ => 46) (fun _ => 0) 108) := fill_ch (fun k _ => Or.inl rfl)
theorem REL.start : REL zT0 (fun _ => 0) 0 := by
  refine ⟨rfl, rfl, fun i hi => ?_, ⟨rfl, ⟨by decide, by decide⟩, fun i hi => absurd hi (Nat.not_lt_zero i)⟩, ⟨⟨rfl, rfl, rfl, rfl⟩, fun _ _ => rfl, fun _ _ => rfl, fun _ _ => rfl, fun _ _ => rfl⟩, ⟨by decide, fun q => absurd rfl q⟩, Or.inl ⟨rfl, rfl⟩, ⟨rfl, rfl, fun i hi => absurd hi (Nat.not_lt_zero i)⟩, ⟨rfl, rfl, fun i hi => absurd hi (Nat.not_lt_zero i)⟩, ⟨by decide, by decide⟩, ⟨by decide, by decide, by decide⟩, fun k hk => fa_fill_out (f := fun _ => 46) (g := fun _ => 0) hk⟩
  match i, hi with
  | 0, _ => exact ⟨rfl, by decide, by decide⟩
  | 1, _ => exact ⟨rfl, by decide, by decide⟩
  | 2, _ => exact ⟨rfl, by decide, by decide⟩
  | 3, _ => exact ⟨rfl, by decide, by decide⟩
  | 4, _ => exact ⟨rfl, by decide, by decide⟩
  | k + 5, hk => exact absurd hk (by omega)
set_option maxHeartbeats 4000000 in
set_option maxRecDepth 100000 in
theorem IV.start {g : zG} {w0 w : zW} {n : Nat} {a pa pa1 pa2 pa3 ta ta1 ta2 taz taz1 taz2 taz3 taz4 taz5 taz6 ta4 ta5 ta6 sa sa1 sa2 saz saz1 saz2 saz3 saz4 saz5 saz6 sa4 sa5 sa6 gs co co1 co2 co3 fu fub fubg fut1 fut2 fut3 la lab labg gy gyg du dug re wm ac m mp mf mh mn mt mz mc_ mq mgr ml mi mr mm mu mk mx o1 o2 : Nat} (h : z_I w0 w n [(a, .inr (11, [.ref pa, .ref ta, .ref sa, .ref gs, .ref co, .ref fu, .ref la, .ref gy, .ref du, .ref re, .ref wm, .ref ac])), (pa, .inr (8, [.ref pa1, .ref pa2, .ref pa3, .int 4])), (pa1, .inl (1, 108, .inl (fa_fill (fun _ => 46) (fun _ => 0) 108))), (pa2, .inl (2, 108, .inl (fun _ => 0))), (pa3, .inl (0, 108, .inl (fun _ => 0))), (ta, .inr (10, [.ref ta1, .ref ta2, .ref taz, .ref ta4, .ref ta5, .ref ta6, .int 0, .int 0])), (ta1, .inl (1, 108, .inl (fa_fill (fun _ => 46) (fun _ => 0) 108))), (ta2, .inl (0, 108, .inl (fun _ => 0))), (taz, .inr (2, [.ref taz1, .ref taz2, .ref taz3, .ref taz4, .ref taz5, .ref taz6, .int 0])), (taz1, .inl (0, 108, .inl (fun _ => 0))), (taz2, .inl (0, 108, .inl (fun _ => 0))), (taz3, .inl (0, 108, .inl (fun _ => 0))), (taz4, .inl (0, 108, .inl (fun _ => 0))), (taz5, .inl (0, 108, .inl (fun _ => 0))), (taz6, .inl (0, 108, .inl (fun _ => 0))), (ta4, .inl (2, 108, .inl (fun _ => 0))), (ta5, .inl (2, 108, .inl (fun _ => 0))), (ta6, .inl (0, 108, .inl (fun _ => 0))), (sa, .inr (10, [.ref sa1, .ref sa2, .ref saz, .ref sa4, .ref sa5, .ref sa6, .int 0, .int 0])), (sa1, .inl (1, 108, .inl (fa_fill (fun _ => 46) (fun _ => 0) 108))), (sa2, .inl (0, 108, .inl (fun _ => 0))), (saz, .inr (2, [.ref saz1, .ref saz2, .ref saz3, .ref saz4, .ref saz5, .ref saz6, .int 0])), (saz1, .inl (0, 108, .inl (fun _ => 0))), (saz2, .inl (0, 108, .inl (fun _ => 0))), (saz3, .inl (0, 108, .inl (fun _ => 0))), (saz4, .inl (0, 108, .inl (fun _ => 0))), (saz5, .inl (0, 108, .inl (fun _ => 0))), (saz6, .inl (0, 108, .inl (fun _ => 0))), (sa4, .inl (2, 108, .inl (fun _ => 0))), (sa5, .inl (2, 108, .inl (fun _ => 0))), (sa6, .inl (0, 108, .inl (fun _ => 0))), (gs, .inr (4, [.int 80, .int 35, .int 30, .int 50, .int 0])), (co, .inr (1, [.ref co1, .ref co2, .ref co3, .int 0])), (co1, .inl (0, 20, .inl (fun _ => 0))), (co2, .inl (0, 20, .inl (fun _ => 0))), (co3, .inl (0, 20, .inl (fun _ => 0))), (fu, .inr (3, [.ref fub, .ref fut1, .ref fut2, .ref fut3, .long 0])), (fub, .inr (6, [.ref fubg, .int 0])), (fubg, .inl (3, 4, .inr (.inl (fun _ => 0)))), (fut1, .inl (3, 4, .inr (.inl (fun _ => 0)))), (fut2, .inl (3, 4, .inr (.inl (fun _ => 0)))), (fut3, .inl (3, 4, .inr (.inl (fun _ => 0)))), (la, .inr (5, [.ref lab, .int 0, .int 0, .int 0])), (lab, .inr (6, [.ref labg, .int 0])), (labg, .inl (3, 4, .inr (.inl (fun _ => 0)))), (gy, .inr (6, [.ref gyg, .int 0])), (gyg, .inl (3, 4, .inr (.inl (fun _ => 0)))), (du, .inr (6, [.ref dug, .int 0])), (dug, .inl (3, 4, .inr (.inl (fun _ => 0)))), (re, .inr (9, [.int 0, .int 0, .int 0])), (wm, .inr (13, [.int 0, .ref (g.2.2 4), .int 0])), (ac, .inr (13, [.int 0, .ref (g.2.2 4), .int 0])), (m, .inr (12, [.int 0, .ref mp, .int 4, .ref mf, .ref mh, .ref mn, .ref mt, .ref mz, .ref mc_, .ref mq, .ref mgr, .int 80, .int 35, .int 30, .int 50, .int 0, .int 0, .ref ml, .ref mi, .ref mr, .int 0, .int 0, .int 0, .int (-1), .int 0, .ref mm, .ref mu, .ref mk, .ref mx, .long 0, .long 0])), (mp, .inl (1, 108, .inl (fa_fill (fun _ => 46) (fun _ => 0) 108))), (mf, .inl (0, 108, .inl (fun _ => 0))), (mh, .inl (0, 108, .inl (fun _ => 0))), (mn, .inl (0, 108, .inl (fun _ => 0))), (mt, .inl (0, 108, .inl (fun _ => 0))), (mz, .inl (0, 108, .inl (fun _ => 0))), (mc_, .inl (2, 108, .inl (fun _ => 0))), (mq, .inl (0, 108, .inl (fun _ => 0))), (mgr, .inl (0, 108, .inl (fun _ => 0))), (ml, .inr (13, [.int 0, .ref (g.2.2 4), .int 0])), (mi, .inl (0, 4, .inl (fun _ => 0))), (mr, .inl (3, 16, .inr (.inl (fun _ => 0)))), (mm, .inr (13, [.int 0, .ref (g.2.2 4), .int 0])), (mu, .inr (13, [.int 0, .ref (g.2.2 4), .int 0])), (mk, .inr (13, [.int 0, .ref (g.2.2 4), .int 0])), (mx, .inr (13, [.int 0, .ref (g.2.2 4), .int 0])), (o1, .inl (3, 1, .inr (.inl (fun _ => 0)))), (o2, .inl (4, 1, .inr (.inr (.inr (.inl (fun _ => 0))))))]) : IV g (fun i => ([a, pa, pa1, pa2, pa3, ta, ta1, ta2, taz, taz1, taz2, taz3, taz4, taz5, taz6, ta4, ta5, ta6, sa, sa1, sa2, saz, saz1, saz2, saz3, saz4, saz5, saz6, sa4, sa5, sa6, gs, co, co1, co2, co3, fu, fub, fubg, fut1, fut2, fut3, la, lab, labg, gy, gyg, du, dug, re, wm, ac, m, mp, mf, mh, mn, mt, mz, mc_, mq, mgr, ml, mi, mr, mm, mu, mk, mx, o1, o2] : List Nat).getD i 0) zT0 (fun _ => 0, fun _ => none, fun _ _ => 0) w := by
  refine ⟨⟨fun i j hi hj e => z_adI h.2.2.1 hi hj e, fun i hi => ?_⟩, ⟨fun L hL => ?_, fun L hL k hk => absurd hk (Nat.not_lt_zero k), ⟨fun L1 L2 _ _ q h1 _ => (by cases h1), fun L hL j k hj => absurd hj (Nat.not_lt_zero j)⟩, by decide, by decide, by decide, by decide, rfl, by decide, rfl⟩, z_fp_ch, z_fp_ch, ⟨by decide, by decide⟩, ⟨by decide, by decide⟩⟩
  · match i, hi with
    | 0, _ => exact ⟨_, h.at (q0 := 0) rfl, kd_0.mpr rfl⟩
    | 1, _ => exact ⟨_, h.at (q0 := 1) rfl, kd_1.mpr rfl⟩
    | 2, _ => exact ⟨_, h.at (q0 := 2) rfl, kd_2.mpr rfl⟩
    | 3, _ => exact ⟨_, h.at (q0 := 3) rfl, kd_3.mpr ⟨_, rfl⟩⟩
    | 4, _ => exact ⟨_, h.at (q0 := 4) rfl, kd_4.mpr ⟨_, rfl⟩⟩
    | 5, _ => exact ⟨_, h.at (q0 := 5) rfl, kd_5.mpr rfl⟩
    | 6, _ => exact ⟨_, h.at (q0 := 6) rfl, kd_6.mpr rfl⟩
    | 7, _ => exact ⟨_, h.at (q0 := 7) rfl, kd_7.mpr rfl⟩
    | 8, _ => exact ⟨_, h.at (q0 := 8) rfl, kd_8.mpr rfl⟩
    | 9, _ => exact ⟨_, h.at (q0 := 9) rfl, kd_9.mpr rfl⟩
    | 10, _ => exact ⟨_, h.at (q0 := 10) rfl, kd_10.mpr rfl⟩
    | 11, _ => exact ⟨_, h.at (q0 := 11) rfl, kd_11.mpr rfl⟩
    | 12, _ => exact ⟨_, h.at (q0 := 12) rfl, kd_12.mpr rfl⟩
    | 13, _ => exact ⟨_, h.at (q0 := 13) rfl, kd_13.mpr rfl⟩
    | 14, _ => exact ⟨_, h.at (q0 := 14) rfl, kd_14.mpr rfl⟩
    | 15, _ => exact ⟨_, h.at (q0 := 15) rfl, kd_15.mpr ⟨(fun _ _ => Or.inl rfl), rfl⟩⟩
    | 16, _ => exact ⟨_, h.at (q0 := 16) rfl, kd_16.mpr rfl⟩
    | 17, _ => exact ⟨_, h.at (q0 := 17) rfl, kd_17.mpr rfl⟩
    | 18, _ => exact ⟨_, h.at (q0 := 18) rfl, kd_18.mpr ⟨_, _, rfl⟩⟩
    | 19, _ => exact ⟨_, h.at (q0 := 19) rfl, kd_19.mpr ⟨_, rfl⟩⟩
    | 20, _ => exact ⟨_, h.at (q0 := 20) rfl, kd_20.mpr ⟨_, rfl⟩⟩
    | 21, _ => exact ⟨_, h.at (q0 := 21) rfl, kd_21.mpr ⟨_, rfl⟩⟩
    | 22, _ => exact ⟨_, h.at (q0 := 22) rfl, kd_22.mpr ⟨_, rfl⟩⟩
    | 23, _ => exact ⟨_, h.at (q0 := 23) rfl, kd_23.mpr ⟨_, rfl⟩⟩
    | 24, _ => exact ⟨_, h.at (q0 := 24) rfl, kd_24.mpr ⟨_, rfl⟩⟩
    | 25, _ => exact ⟨_, h.at (q0 := 25) rfl, kd_25.mpr ⟨_, rfl⟩⟩
    | 26, _ => exact ⟨_, h.at (q0 := 26) rfl, kd_26.mpr ⟨_, rfl⟩⟩
    | 27, _ => exact ⟨_, h.at (q0 := 27) rfl, kd_27.mpr ⟨_, rfl⟩⟩
    | 28, _ => exact ⟨_, h.at (q0 := 28) rfl, kd_28.mpr ⟨_, rfl⟩⟩
    | 29, _ => exact ⟨_, h.at (q0 := 29) rfl, kd_29.mpr ⟨_, rfl⟩⟩
    | 30, _ => exact ⟨_, h.at (q0 := 30) rfl, kd_30.mpr ⟨_, rfl⟩⟩
    | 31, _ => exact ⟨_, h.at (q0 := 31) rfl, kd_31.mpr rfl⟩
    | 32, _ => exact ⟨_, h.at (q0 := 32) rfl, kd_32.mpr ⟨(Nat.zero_le 20), rfl⟩⟩
    | 33, _ => exact ⟨_, h.at (q0 := 33) rfl, kd_33.mpr rfl⟩
    | 34, _ => exact ⟨_, h.at (q0 := 34) rfl, kd_34.mpr rfl⟩
    | 35, _ => exact ⟨_, h.at (q0 := 35) rfl, kd_35.mpr rfl⟩
    | 36, _ => exact ⟨_, h.at (q0 := 36) rfl, kd_36.mpr rfl⟩
    | 37, _ => exact ⟨_, h.at (q0 := 37) rfl, kd_37.mpr rfl⟩
    | 38, _ => exact ⟨_, h.at (q0 := 38) rfl, kd_38.mpr rfl⟩
    | 39, _ => exact ⟨_, h.at (q0 := 39) rfl, kd_39.mpr rfl⟩
    | 40, _ => exact ⟨_, h.at (q0 := 40) rfl, kd_40.mpr rfl⟩
    | 41, _ => exact ⟨_, h.at (q0 := 41) rfl, kd_41.mpr rfl⟩
    | 42, _ => exact ⟨_, h.at (q0 := 42) rfl, kd_42.mpr ⟨(Or.inl rfl), rfl⟩⟩
    | 43, _ => exact ⟨_, h.at (q0 := 43) rfl, kd_43.mpr ⟨(by decide), rfl⟩⟩
    | 44, _ => exact ⟨_, h.at (q0 := 44) rfl, kd_44.mpr rfl⟩
    | 45, _ => exact ⟨_, h.at (q0 := 45) rfl, kd_45.mpr rfl⟩
    | 46, _ => exact ⟨_, h.at (q0 := 46) rfl, kd_46.mpr rfl⟩
    | 47, _ => exact ⟨_, h.at (q0 := 47) rfl, kd_47.mpr rfl⟩
    | 48, _ => exact ⟨_, h.at (q0 := 48) rfl, kd_48.mpr rfl⟩
    | 49, _ => exact ⟨_, h.at (q0 := 49) rfl, kd_49.mpr rfl⟩
    | 50, _ => exact ⟨_, h.at (q0 := 50) rfl, kd_50.mpr ⟨_, _, _, rfl⟩⟩
    | 51, _ => exact ⟨_, h.at (q0 := 51) rfl, kd_51.mpr ⟨_, _, _, rfl⟩⟩
    | 52, _ => exact ⟨_, h.at (q0 := 52) rfl, kd_52.mpr ⟨_, rfl⟩⟩
    | 53, _ => exact ⟨_, h.at (q0 := 53) rfl, kd_53.mpr rfl⟩
    | 54, _ => exact ⟨_, h.at (q0 := 54) rfl, kd_54.mpr ⟨_, rfl⟩⟩
    | 55, _ => exact ⟨_, h.at (q0 := 55) rfl, kd_55.mpr ⟨_, rfl⟩⟩
    | 56, _ => exact ⟨_, h.at (q0 := 56) rfl, kd_56.mpr ⟨_, rfl⟩⟩
    | 57, _ => exact ⟨_, h.at (q0 := 57) rfl, kd_57.mpr ⟨_, rfl⟩⟩
    | 58, _ => exact ⟨_, h.at (q0 := 58) rfl, kd_58.mpr ⟨_, rfl⟩⟩
    | 59, _ => exact ⟨_, h.at (q0 := 59) rfl, kd_59.mpr ⟨_, rfl⟩⟩
    | 60, _ => exact ⟨_, h.at (q0 := 60) rfl, kd_60.mpr ⟨_, rfl⟩⟩
    | 61, _ => exact ⟨_, h.at (q0 := 61) rfl, kd_61.mpr ⟨_, rfl⟩⟩
    | 62, _ => exact ⟨_, h.at (q0 := 62) rfl, kd_62.mpr ⟨_, _, _, rfl⟩⟩
    | 63, _ => exact ⟨_, h.at (q0 := 63) rfl, kd_63.mpr rfl⟩
    | 64, _ => exact ⟨_, h.at (q0 := 64) rfl, kd_64.mpr rfl⟩
    | 65, _ => exact ⟨_, h.at (q0 := 65) rfl, kd_65.mpr ⟨_, _, _, rfl⟩⟩
    | 66, _ => exact ⟨_, h.at (q0 := 66) rfl, kd_66.mpr ⟨_, _, _, rfl⟩⟩
    | 67, _ => exact ⟨_, h.at (q0 := 67) rfl, kd_67.mpr ⟨_, _, _, rfl⟩⟩
    | 68, _ => exact ⟨_, h.at (q0 := 68) rfl, kd_68.mpr ⟨_, _, _, rfl⟩⟩
    | 69, _ => exact ⟨_, h.at (q0 := 69) rfl, kd_69.mpr rfl⟩
    | 70, _ => exact ⟨_, h.at (q0 := 70) rfl, kd_70.mpr ⟨_, rfl⟩⟩
    | i + 71, hi => exact absurd hi (by omega)
  · match L, hL with
    | 0, _ => exact ⟨_, _, h.at (q0 := 50) rfl, Or.inl ⟨rfl, rfl, rfl⟩⟩
    | 1, _ => exact ⟨_, _, h.at (q0 := 51) rfl, Or.inl ⟨rfl, rfl, rfl⟩⟩
    | 2, _ => exact ⟨_, _, h.at (q0 := 62) rfl, Or.inl ⟨rfl, rfl, rfl⟩⟩
    | 3, _ => exact ⟨_, _, h.at (q0 := 65) rfl, Or.inl ⟨rfl, rfl, rfl⟩⟩
    | 4, _ => exact ⟨_, _, h.at (q0 := 66) rfl, Or.inl ⟨rfl, rfl, rfl⟩⟩
    | 5, _ => exact ⟨_, _, h.at (q0 := 67) rfl, Or.inl ⟨rfl, rfl, rfl⟩⟩
    | 6, _ => exact ⟨_, _, h.at (q0 := 68) rfl, Or.inl ⟨rfl, rfl, rfl⟩⟩
    | L + 7, hL => exact absurd hL (by omega)
theorem d_Lw_law_28 : decode code 28 = .ok (.iload 5, 2) := zo_21 (d := 5) (zd_b zq_code_0 28 rfl rfl rfl) (zd_b zq_code_0 29 rfl rfl rfl)
theorem d_Lw_law_30 : decode code 30 = .ok (.aload_n 0, 1) := zo_42 (zd_b zq_code_0 30 rfl rfl rfl)
theorem d_Lw_law_31 : decode code 31 = .ok (.arraylength, 1) := zo_190 (zd_b zq_code_0 31 rfl rfl rfl)
theorem d_Lw_law_32 : decode code 32 = .ok (.bipush 7, 2) := zo_16 (d := 7) (zd_b zq_code_1 0 rfl rfl rfl) (zd_b zq_code_1 1 rfl rfl rfl) (by decide +kernel)
theorem d_Lw_law_34 : decode code 34 = .ok (.isub, 1) := zo_100 (zd_b zq_code_1 2 rfl rfl rfl)
theorem d_Lw_law_35 : decode code 35 = .ok (.if_icmp .gt 1779, 3) := zo_163 (d := 6) (e := 243) (zd_b zq_code_1 3 rfl rfl rfl) (zd_b zq_code_1 4 rfl rfl rfl) (zd_b zq_code_1 5 rfl rfl rfl) (by decide +kernel)
theorem d_Lw_law_1814 : decode code 1814 = .ok (.iconst 1, 1) := zo_4 (zd_b zq_code_56 22 rfl rfl rfl)
theorem d_Lw_law_1815 : decode code 1815 = .ok (.ireturn, 1) := zo_172 (zd_b zq_code_56 23 rfl rfl rfl)
theorem d_Lw_law_38 : decode code 38 = .ok (.aload_n 0, 1) := zo_42 (zd_b zq_code_1 6 rfl rfl rfl)
theorem d_Lw_law_39 : decode code 39 = .ok (.iload 5, 2) := zo_21 (d := 5) (zd_b zq_code_1 7 rfl rfl rfl) (zd_b zq_code_1 8 rfl rfl rfl)
theorem d_Lw_law_41 : decode code 41 = .ok (.iaload, 1) := zo_46 (zd_b zq_code_1 9 rfl rfl rfl)
theorem d_Lw_law_42 : decode code 42 = .ok (.bipush 63, 2) := zo_16 (d := 63) (zd_b zq_code_1 10 rfl rfl rfl) (zd_b zq_code_1 11 rfl rfl rfl) (by decide +kernel)
theorem d_Lw_law_44 : decode code 44 = .ok (.iand, 1) := zo_126 (zd_b zq_code_1 12 rfl rfl rfl)
set_option maxHeartbeats 4000000 in
set_option maxRecDepth 100000 in
theorem LW_head {g : zG} {ad : Nat → Nat} {t : zTT} {u : zNN} {w : zW} (hI : IVm g ad t u w) {j kc ks : Nat} (hj : 7 * j ≤ g.2.2 41) (hL : g.2.2 41 ≤ 3584) (hk : 7 * j + 7 ≤ g.2.2 41 → DW g M_Lw_law lwQ w 45 [(5, .int (nI (7 * j))), (4, .ref (ad 70)), (3, .ref (ad 69)), (2, .ref (ad 52)), (1, .ref (ad 0)), (0, .ref (g.2.2 40))] [.int (zs g (7 * j) &&& 63)] kc ks) : DW g M_Lw_law lwQ w 28 [(5, .int (nI (7 * j))), (4, .ref (ad 70)), (3, .ref (ad 69)), (2, .ref (ad 52)), (1, .ref (ad 0)), (0, .ref (g.2.2 40))] [] kc ks := by
  refine y_base (cs := []) (z_I.nil w) ?_
  refine y_iload d_Lw_law_28 0 rfl ?_
  refine y_aload_n d_Lw_law_30 rfl 5 rfl ?_
  refine y_slen (v := nI (g.2.2 41)) d_Lw_law_31 rfl ?_
  refine y_bipush d_Lw_law_32 (v := 7) (by decide) ?_
  refine y_isub d_Lw_law_34 (v := nI (g.2.2 41) - 7) rfl ?_
  refine y_icmp_gt (tgt := 1814) d_Lw_law_35 (by decide) (fun c_35 => ?_) (fun c_35 => ?_)
  · refine y_iconst d_Lw_law_1814 (v := 1) (by decide) ?_
    refine y_iret d_Lw_law_1815 rfl rfl ?_
    exact fun w1 h1 => rfl
  · have hJ : 7 * j + 7 ≤ g.2.2 41 := Classical.byContradiction (fun q => c_35 (z_shl q (by omega) (by omega)))
    refine y_aload_n d_Lw_law_38 rfl 5 rfl ?_
    refine y_iload d_Lw_law_39 0 rfl ?_
    refine y_sld (v := zs g (7 * j)) d_Lw_law_41 (vp_in_nI (by omega) (by omega)) (by rw [nI_clamp (by omega)]; rfl) ?_
    refine y_bipush d_Lw_law_42 (v := 63) (by decide) ?_
    refine y_iand d_Lw_law_44 (v := zs g (7 * j) &&& 63) rfl ?_
    refine y_end (fun wC hC => ?_)
    obtain rfl := z_I.same (z_I.nil _) hC
    exact hk hJ
theorem LW_loop {g : zG} {ad : Nat → Nat} (hL : g.2.2 41 ≤ 3584) : ∀ (r j : Nat), g.2.2 41 < 7 * j + 7 * r + 7 → 7 * j ≤ g.2.2 41 → ∀ (t : zTT) (u : zNN) (w : zW), IVm g ad t u w → REL t u.1 (48 * j) → DW g M_Lw_law lwQ w 28 [(5, .int (nI (7 * j))), (4, .ref (ad 70)), (3, .ref (ad 69)), (2, .ref (ad 52)), (1, .ref (ad 0)), (0, .ref (g.2.2 40))] [] (100 * r) (1000 * r) := by
  intro r
  induction r with
  | zero => exact fun j h1 h2 t u w hI hR => LW_head hI h2 hL (fun hJ => absurd hJ (by omega))
  | succ r ih => exact fun j h1 h2 t u w hI hR => LW_head hI h2 hL (fun hJ => LW_sw hI hR hJ hL (ih (j + 1) (by omega) (by omega)))
theorem d_Lw_law_0 : decode code 0 = .ok (.new 8, 3) := zo_187 (d := 0) (e := 8) (zd_b zq_code_0 0 rfl rfl rfl) (zd_b zq_code_0 1 rfl rfl rfl) (zd_b zq_code_0 2 rfl rfl rfl)
theorem nc_Lw_8 : z_nc "IronpourLaw" 8 11 12 [.null, .null, .null, .null, .null, .null, .null, .null, .null, .null, .null, .null] := ⟨R_Ip, F_Ip, t_Ip, rfl, u_Ip, t_Ip_ok, z_mj1 (i := 38) rfl (by decide +kernel), z_mj1 (i := 39) rfl (by decide +kernel), z_mj1 (i := 1) rfl (by decide +kernel), by decide +kernel⟩
theorem d_Lw_law_3 : decode code 3 = .ok (.dup, 1) := zo_89 (zd_b zq_code_0 3 rfl rfl rfl)
theorem d_Lw_law_4 : decode code 4 = .ok (.invokespecial 165, 3) := zo_183 (d := 0) (e := 165) (zd_b zq_code_0 4 rfl rfl rfl) (zd_b zq_code_0 5 rfl rfl rfl) (zd_b zq_code_0 6 rfl rfl rfl)
theorem ok_Lw_law_Ip_init : z_ok M_Lw_law M_Ip_init 0 := ⟨z_mj1 (i := 42) rfl (by decide +kernel), rfl, ⟨by decide +kernel, by decide +kernel, by decide +kernel⟩, ⟨by decide, by decide⟩, z_mj1 (i := 1) rfl (by decide +kernel), rfl⟩
theorem ln_Lw_165 : Cond.methodLink "IronpourLaw" 165 M_Ip_init.1 ∈ z_gw := z_mj1 (i := 40) rfl (by decide +kernel)
theorem w_im_Ip_init : Cond.instanceMethod M_Ip_init.1 ∈ z_gw := z_mj1 (i := 41) rfl (by decide +kernel)
theorem d_Lw_law_7 : decode code 7 = .ok (.astore_n 1, 1) := zo_76 (zd_b zq_code_0 7 rfl rfl rfl)
theorem d_Lw_law_8 : decode code 8 = .ok (.new 166, 3) := zo_187 (d := 0) (e := 166) (zd_b zq_code_0 8 rfl rfl rfl) (zd_b zq_code_0 9 rfl rfl rfl) (zd_b zq_code_0 10 rfl rfl rfl)
theorem nc_Lw_166 : z_nc "IronpourLaw" 166 12 31 [.int 0, .null, .int 0, .null, .null, .null, .null, .null, .null, .null, .null, .int 0, .int 0, .int 0, .int 0, .int 0, .int 0, .null, .null, .null, .int 0, .int 0, .int 0, .int 0, .int 0, .null, .null, .null, .null, .long 0, .long 0] := ⟨R_Mm, F_Mm, t_Mm, rfl, u_Mm, t_Mm_ok, z_mj7 (i := 75) rfl (by decide +kernel), z_mj7 (i := 76) rfl (by decide +kernel), z_mj1 (i := 14) rfl (by decide +kernel), by decide +kernel⟩
theorem d_Lw_law_11 : decode code 11 = .ok (.dup, 1) := zo_89 (zd_b zq_code_0 11 rfl rfl rfl)
theorem d_Lw_law_12 : decode code 12 = .ok (.invokespecial 168, 3) := zo_183 (d := 0) (e := 168) (zd_b zq_code_0 12 rfl rfl rfl) (zd_b zq_code_0 13 rfl rfl rfl) (zd_b zq_code_0 14 rfl rfl rfl)
theorem ok_Lw_law_Mm_init : z_ok M_Lw_law M_Mm_init 0 := ⟨z_mj7 (i := 79) rfl (by decide +kernel), rfl, ⟨by decide +kernel, by decide +kernel, by decide +kernel⟩, ⟨by decide, by decide⟩, z_mj1 (i := 14) rfl (by decide +kernel), rfl⟩
theorem ln_Lw_168 : Cond.methodLink "IronpourLaw" 168 M_Mm_init.1 ∈ z_gw := z_mj7 (i := 77) rfl (by decide +kernel)
theorem w_im_Mm_init : Cond.instanceMethod M_Mm_init.1 ∈ z_gw := z_mj7 (i := 78) rfl (by decide +kernel)
theorem d_Lw_law_15 : decode code 15 = .ok (.astore_n 2, 1) := zo_77 (zd_b zq_code_0 15 rfl rfl rfl)
theorem d_Lw_law_16 : decode code 16 = .ok (.iconst 1, 1) := zo_4 (zd_b zq_code_0 16 rfl rfl rfl)
theorem d_Lw_law_17 : decode code 17 = .ok (.newarray .long, 2) := by decide +kernel
theorem d_Lw_law_19 : decode code 19 = .ok (.astore_n 3, 1) := zo_78 (zd_b zq_code_0 19 rfl rfl rfl)
theorem d_Lw_law_20 : decode code 20 = .ok (.iconst 1, 1) := zo_4 (zd_b zq_code_0 20 rfl rfl rfl)
theorem d_Lw_law_21 : decode code 21 = .ok (.newarray .double, 2) := by decide +kernel
theorem ac_double : Cond.arrayClass .double ∈ z_gw := z_mj9 (i := 80) rfl (by decide +kernel)
theorem d_Lw_law_23 : decode code 23 = .ok (.astore 4, 2) := zo_58 (d := 4) (zd_b zq_code_0 23 rfl rfl rfl) (zd_b zq_code_0 24 rfl rfl rfl)
theorem d_Lw_law_25 : decode code 25 = .ok (.iconst 0, 1) := zo_3 (zd_b zq_code_0 25 rfl rfl rfl)
theorem d_Lw_law_26 : decode code 26 = .ok (.istore 5, 2) := zo_54 (d := 5) (zd_b zq_code_0 26 rfl rfl rfl) (zd_b zq_code_0 27 rfl rfl rfl)
set_option maxHeartbeats 4000000 in
set_option maxRecDepth 100000 in
theorem LW_start {g : zG} {w : zW} {r : Nat} (hL : g.2.2 41 ≤ 3584) (hr : g.2.2 41 < 7 * r + 7) : DW g M_Lw_law lwQ w 0 [(0, .ref (g.2.2 40))] [] (184 + 100 * r) (5400 + 1000 * r) := by
  refine y_base (cs := []) (z_I.nil w) ?_
  refine y_new nc_Lw_8 d_Lw_law_0 (by omega) (by omega) (fun a => ?_)
  refine y_cs (cs2 := [(a, .inr (11, [.null, .null, .null, .null, .null, .null, .null, .null, .null, .null, .null, .null]))]) rfl ?_
  refine y_dup d_Lw_law_3 rfl ?_
  refine y_callI (As := []) (rest := [.ref a]) (csC := [(a, .inr (11, [.null, .null, .null, .null, .null, .null, .null, .null, .null, .null, .null, .null]))]) (is := [0]) rfl rfl ln_Lw_165 w_im_Ip_init ok_Lw_law_Ip_init d_Lw_law_4 (C_Ip_init g a) rfl rfl (Nat.le_of_ble_eq_true rfl) rfl (by decide) (by omega) (by omega) (fun E cs1 hx => ?_) (fun v cs1 hx => ?_)
  · obtain ⟨pa, pa1, pa2, pa3, ta, ta1, ta2, taz, taz1, taz2, taz3, taz4, taz5, taz6, ta4, ta5, ta6, sa, sa1, sa2, saz, saz1, saz2, saz3, saz4, saz5, saz6, sa4, sa5, sa6, gs, co, co1, co2, co3, fu, fub, fubg, fut1, fut2, fut3, la, lab, labg, gy, gyg, du, dug, re, wm, ac, e1, -⟩ := hx
    cases e1
  · obtain ⟨pa, pa1, pa2, pa3, ta, ta1, ta2, taz, taz1, taz2, taz3, taz4, taz5, taz6, ta4, ta5, ta6, sa, sa1, sa2, saz, saz1, saz2, saz3, saz4, saz5, saz6, sa4, sa5, sa6, gs, co, co1, co2, co3, fu, fub, fubg, fut1, fut2, fut3, la, lab, labg, gy, gyg, du, dug, re, wm, ac, e1, rfl⟩ := hx
    cases e1
    refine ⟨rfl, ?_⟩
    refine y_st (st2 := [.ref a]) rfl ?_
    refine y_cs (cs2 := [(a, .inr (11, [.ref pa, .ref ta, .ref sa, .ref gs, .ref co, .ref fu, .ref la, .ref gy, .ref du, .ref re, .ref wm, .ref ac])), (pa, .inr (8, [.ref pa1, .ref pa2, .ref pa3, .int 4])), (pa1, .inl (1, 108, .inl (fa_fill (fun _ => 46) (fun _ => 0) 108))), (pa2, .inl (2, 108, .inl (fun _ => 0))), (pa3, .inl (0, 108, .inl (fun _ => 0))), (ta, .inr (10, [.ref ta1, .ref ta2, .ref taz, .ref ta4, .ref ta5, .ref ta6, .int 0, .int 0])), (ta1, .inl (1, 108, .inl (fa_fill (fun _ => 46) (fun _ => 0) 108))), (ta2, .inl (0, 108, .inl (fun _ => 0))), (taz, .inr (2, [.ref taz1, .ref taz2, .ref taz3, .ref taz4, .ref taz5, .ref taz6, .int 0])), (taz1, .inl (0, 108, .inl (fun _ => 0))), (taz2, .inl (0, 108, .inl (fun _ => 0))), (taz3, .inl (0, 108, .inl (fun _ => 0))), (taz4, .inl (0, 108, .inl (fun _ => 0))), (taz5, .inl (0, 108, .inl (fun _ => 0))), (taz6, .inl (0, 108, .inl (fun _ => 0))), (ta4, .inl (2, 108, .inl (fun _ => 0))), (ta5, .inl (2, 108, .inl (fun _ => 0))), (ta6, .inl (0, 108, .inl (fun _ => 0))), (sa, .inr (10, [.ref sa1, .ref sa2, .ref saz, .ref sa4, .ref sa5, .ref sa6, .int 0, .int 0])), (sa1, .inl (1, 108, .inl (fa_fill (fun _ => 46) (fun _ => 0) 108))), (sa2, .inl (0, 108, .inl (fun _ => 0))), (saz, .inr (2, [.ref saz1, .ref saz2, .ref saz3, .ref saz4, .ref saz5, .ref saz6, .int 0])), (saz1, .inl (0, 108, .inl (fun _ => 0))), (saz2, .inl (0, 108, .inl (fun _ => 0))), (saz3, .inl (0, 108, .inl (fun _ => 0))), (saz4, .inl (0, 108, .inl (fun _ => 0))), (saz5, .inl (0, 108, .inl (fun _ => 0))), (saz6, .inl (0, 108, .inl (fun _ => 0))), (sa4, .inl (2, 108, .inl (fun _ => 0))), (sa5, .inl (2, 108, .inl (fun _ => 0))), (sa6, .inl (0, 108, .inl (fun _ => 0))), (gs, .inr (4, [.int 80, .int 35, .int 30, .int 50, .int 0])), (co, .inr (1, [.ref co1, .ref co2, .ref co3, .int 0])), (co1, .inl (0, 20, .inl (fun _ => 0))), (co2, .inl (0, 20, .inl (fun _ => 0))), (co3, .inl (0, 20, .inl (fun _ => 0))), (fu, .inr (3, [.ref fub, .ref fut1, .ref fut2, .ref fut3, .long 0])), (fub, .inr (6, [.ref fubg, .int 0])), (fubg, .inl (3, 4, .inr (.inl (fun _ => 0)))), (fut1, .inl (3, 4, .inr (.inl (fun _ => 0)))), (fut2, .inl (3, 4, .inr (.inl (fun _ => 0)))), (fut3, .inl (3, 4, .inr (.inl (fun _ => 0)))), (la, .inr (5, [.ref lab, .int 0, .int 0, .int 0])), (lab, .inr (6, [.ref labg, .int 0])), (labg, .inl (3, 4, .inr (.inl (fun _ => 0)))), (gy, .inr (6, [.ref gyg, .int 0])), (gyg, .inl (3, 4, .inr (.inl (fun _ => 0)))), (du, .inr (6, [.ref dug, .int 0])), (dug, .inl (3, 4, .inr (.inl (fun _ => 0)))), (re, .inr (9, [.int 0, .int 0, .int 0])), (wm, .inr (13, [.int 0, .ref (g.2.2 4), .int 0])), (ac, .inr (13, [.int 0, .ref (g.2.2 4), .int 0]))]) rfl ?_
    refine y_astore_n (lv' := [(1, .ref a), (0, .ref (g.2.2 40))]) d_Lw_law_7 rfl (by decide) rfl ?_
    refine y_new nc_Lw_166 d_Lw_law_8 (by omega) (by omega) (fun m => ?_)
    refine y_cs (cs2 := [(a, .inr (11, [.ref pa, .ref ta, .ref sa, .ref gs, .ref co, .ref fu, .ref la, .ref gy, .ref du, .ref re, .ref wm, .ref ac])), (pa, .inr (8, [.ref pa1, .ref pa2, .ref pa3, .int 4])), (pa1, .inl (1, 108, .inl (fa_fill (fun _ => 46) (fun _ => 0) 108))), (pa2, .inl (2, 108, .inl (fun _ => 0))), (pa3, .inl (0, 108, .inl (fun _ => 0))), (ta, .inr (10, [.ref ta1, .ref ta2, .ref taz, .ref ta4, .ref ta5, .ref ta6, .int 0, .int 0])), (ta1, .inl (1, 108, .inl (fa_fill (fun _ => 46) (fun _ => 0) 108))), (ta2, .inl (0, 108, .inl (fun _ => 0))), (taz, .inr (2, [.ref taz1, .ref taz2, .ref taz3, .ref taz4, .ref taz5, .ref taz6, .int 0])), (taz1, .inl (0, 108, .inl (fun _ => 0))), (taz2, .inl (0, 108, .inl (fun _ => 0))), (taz3, .inl (0, 108, .inl (fun _ => 0))), (taz4, .inl (0, 108, .inl (fun _ => 0))), (taz5, .inl (0, 108, .inl (fun _ => 0))), (taz6, .inl (0, 108, .inl (fun _ => 0))), (ta4, .inl (2, 108, .inl (fun _ => 0))), (ta5, .inl (2, 108, .inl (fun _ => 0))), (ta6, .inl (0, 108, .inl (fun _ => 0))), (sa, .inr (10, [.ref sa1, .ref sa2, .ref saz, .ref sa4, .ref sa5, .ref sa6, .int 0, .int 0])), (sa1, .inl (1, 108, .inl (fa_fill (fun _ => 46) (fun _ => 0) 108))), (sa2, .inl (0, 108, .inl (fun _ => 0))), (saz, .inr (2, [.ref saz1, .ref saz2, .ref saz3, .ref saz4, .ref saz5, .ref saz6, .int 0])), (saz1, .inl (0, 108, .inl (fun _ => 0))), (saz2, .inl (0, 108, .inl (fun _ => 0))), (saz3, .inl (0, 108, .inl (fun _ => 0))), (saz4, .inl (0, 108, .inl (fun _ => 0))), (saz5, .inl (0, 108, .inl (fun _ => 0))), (saz6, .inl (0, 108, .inl (fun _ => 0))), (sa4, .inl (2, 108, .inl (fun _ => 0))), (sa5, .inl (2, 108, .inl (fun _ => 0))), (sa6, .inl (0, 108, .inl (fun _ => 0))), (gs, .inr (4, [.int 80, .int 35, .int 30, .int 50, .int 0])), (co, .inr (1, [.ref co1, .ref co2, .ref co3, .int 0])), (co1, .inl (0, 20, .inl (fun _ => 0))), (co2, .inl (0, 20, .inl (fun _ => 0))), (co3, .inl (0, 20, .inl (fun _ => 0))), (fu, .inr (3, [.ref fub, .ref fut1, .ref fut2, .ref fut3, .long 0])), (fub, .inr (6, [.ref fubg, .int 0])), (fubg, .inl (3, 4, .inr (.inl (fun _ => 0)))), (fut1, .inl (3, 4, .inr (.inl (fun _ => 0)))), (fut2, .inl (3, 4, .inr (.inl (fun _ => 0)))), (fut3, .inl (3, 4, .inr (.inl (fun _ => 0)))), (la, .inr (5, [.ref lab, .int 0, .int 0, .int 0])), (lab, .inr (6, [.ref labg, .int 0])), (labg, .inl (3, 4, .inr (.inl (fun _ => 0)))), (gy, .inr (6, [.ref gyg, .int 0])), (gyg, .inl (3, 4, .inr (.inl (fun _ => 0)))), (du, .inr (6, [.ref dug, .int 0])), (dug, .inl (3, 4, .inr (.inl (fun _ => 0)))), (re, .inr (9, [.int 0, .int 0, .int 0])), (wm, .inr (13, [.int 0, .ref (g.2.2 4), .int 0])), (ac, .inr (13, [.int 0, .ref (g.2.2 4), .int 0])), (m, .inr (12, [.int 0, .null, .int 0, .null, .null, .null, .null, .null, .null, .null, .null, .int 0, .int 0, .int 0, .int 0, .int 0, .int 0, .null, .null, .null, .int 0, .int 0, .int 0, .int 0, .int 0, .null, .null, .null, .null, .long 0, .long 0]))]) rfl ?_
    refine y_dup d_Lw_law_11 rfl ?_
    refine y_callI (As := []) (rest := [.ref m]) (csC := [(m, .inr (12, [.int 0, .null, .int 0, .null, .null, .null, .null, .null, .null, .null, .null, .int 0, .int 0, .int 0, .int 0, .int 0, .int 0, .null, .null, .null, .int 0, .int 0, .int 0, .int 0, .int 0, .null, .null, .null, .null, .long 0, .long 0]))]) (is := [52]) rfl rfl ln_Lw_168 w_im_Mm_init ok_Lw_law_Mm_init d_Lw_law_12 (C_Mm_init g m) rfl rfl (Nat.le_of_ble_eq_true rfl) rfl (by decide) (by omega) (by omega) (fun E cs1 hx => ?_) (fun v cs1 hx => ?_)
    · obtain ⟨mp, mf, mh, mn, mt, mz, mc_, mq, mgr, ml, mi, mr, mm, mu, mk, mx, e1, -⟩ := hx
      cases e1
    · obtain ⟨mp, mf, mh, mn, mt, mz, mc_, mq, mgr, ml, mi, mr, mm, mu, mk, mx, e1, rfl⟩ := hx
      cases e1
      refine ⟨rfl, ?_⟩
      refine y_st (st2 := [.ref m]) rfl ?_
      refine y_cs (cs2 := [(a, .inr (11, [.ref pa, .ref ta, .ref sa, .ref gs, .ref co, .ref fu, .ref la, .ref gy, .ref du, .ref re, .ref wm, .ref ac])), (pa, .inr (8, [.ref pa1, .ref pa2, .ref pa3, .int 4])), (pa1, .inl (1, 108, .inl (fa_fill (fun _ => 46) (fun _ => 0) 108))), (pa2, .inl (2, 108, .inl (fun _ => 0))), (pa3, .inl (0, 108, .inl (fun _ => 0))), (ta, .inr (10, [.ref ta1, .ref ta2, .ref taz, .ref ta4, .ref ta5, .ref ta6, .int 0, .int 0])), (ta1, .inl (1, 108, .inl (fa_fill (fun _ => 46) (fun _ => 0) 108))), (ta2, .inl (0, 108, .inl (fun _ => 0))), (taz, .inr (2, [.ref taz1, .ref taz2, .ref taz3, .ref taz4, .ref taz5, .ref taz6, .int 0])), (taz1, .inl (0, 108, .inl (fun _ => 0))), (taz2, .inl (0, 108, .inl (fun _ => 0))), (taz3, .inl (0, 108, .inl (fun _ => 0))), (taz4, .inl (0, 108, .inl (fun _ => 0))), (taz5, .inl (0, 108, .inl (fun _ => 0))), (taz6, .inl (0, 108, .inl (fun _ => 0))), (ta4, .inl (2, 108, .inl (fun _ => 0))), (ta5, .inl (2, 108, .inl (fun _ => 0))), (ta6, .inl (0, 108, .inl (fun _ => 0))), (sa, .inr (10, [.ref sa1, .ref sa2, .ref saz, .ref sa4, .ref sa5, .ref sa6, .int 0, .int 0])), (sa1, .inl (1, 108, .inl (fa_fill (fun _ => 46) (fun _ => 0) 108))), (sa2, .inl (0, 108, .inl (fun _ => 0))), (saz, .inr (2, [.ref saz1, .ref saz2, .ref saz3, .ref saz4, .ref saz5, .ref saz6, .int 0])), (saz1, .inl (0, 108, .inl (fun _ => 0))), (saz2, .inl (0, 108, .inl (fun _ => 0))), (saz3, .inl (0, 108, .inl (fun _ => 0))), (saz4, .inl (0, 108, .inl (fun _ => 0))), (saz5, .inl (0, 108, .inl (fun _ => 0))), (saz6, .inl (0, 108, .inl (fun _ => 0))), (sa4, .inl (2, 108, .inl (fun _ => 0))), (sa5, .inl (2, 108, .inl (fun _ => 0))), (sa6, .inl (0, 108, .inl (fun _ => 0))), (gs, .inr (4, [.int 80, .int 35, .int 30, .int 50, .int 0])), (co, .inr (1, [.ref co1, .ref co2, .ref co3, .int 0])), (co1, .inl (0, 20, .inl (fun _ => 0))), (co2, .inl (0, 20, .inl (fun _ => 0))), (co3, .inl (0, 20, .inl (fun _ => 0))), (fu, .inr (3, [.ref fub, .ref fut1, .ref fut2, .ref fut3, .long 0])), (fub, .inr (6, [.ref fubg, .int 0])), (fubg, .inl (3, 4, .inr (.inl (fun _ => 0)))), (fut1, .inl (3, 4, .inr (.inl (fun _ => 0)))), (fut2, .inl (3, 4, .inr (.inl (fun _ => 0)))), (fut3, .inl (3, 4, .inr (.inl (fun _ => 0)))), (la, .inr (5, [.ref lab, .int 0, .int 0, .int 0])), (lab, .inr (6, [.ref labg, .int 0])), (labg, .inl (3, 4, .inr (.inl (fun _ => 0)))), (gy, .inr (6, [.ref gyg, .int 0])), (gyg, .inl (3, 4, .inr (.inl (fun _ => 0)))), (du, .inr (6, [.ref dug, .int 0])), (dug, .inl (3, 4, .inr (.inl (fun _ => 0)))), (re, .inr (9, [.int 0, .int 0, .int 0])), (wm, .inr (13, [.int 0, .ref (g.2.2 4), .int 0])), (ac, .inr (13, [.int 0, .ref (g.2.2 4), .int 0])), (m, .inr (12, [.int 0, .ref mp, .int 4, .ref mf, .ref mh, .ref mn, .ref mt, .ref mz, .ref mc_, .ref mq, .ref mgr, .int 80, .int 35, .int 30, .int 50, .int 0, .int 0, .ref ml, .ref mi, .ref mr, .int 0, .int 0, .int 0, .int (-1), .int 0, .ref mm, .ref mu, .ref mk, .ref mx, .long 0, .long 0])), (mp, .inl (1, 108, .inl (fa_fill (fun _ => 46) (fun _ => 0) 108))), (mf, .inl (0, 108, .inl (fun _ => 0))), (mh, .inl (0, 108, .inl (fun _ => 0))), (mn, .inl (0, 108, .inl (fun _ => 0))), (mt, .inl (0, 108, .inl (fun _ => 0))), (mz, .inl (0, 108, .inl (fun _ => 0))), (mc_, .inl (2, 108, .inl (fun _ => 0))), (mq, .inl (0, 108, .inl (fun _ => 0))), (mgr, .inl (0, 108, .inl (fun _ => 0))), (ml, .inr (13, [.int 0, .ref (g.2.2 4), .int 0])), (mi, .inl (0, 4, .inl (fun _ => 0))), (mr, .inl (3, 16, .inr (.inl (fun _ => 0)))), (mm, .inr (13, [.int 0, .ref (g.2.2 4), .int 0])), (mu, .inr (13, [.int 0, .ref (g.2.2 4), .int 0])), (mk, .inr (13, [.int 0, .ref (g.2.2 4), .int 0])), (mx, .inr (13, [.int 0, .ref (g.2.2 4), .int 0]))]) rfl ?_
      refine y_astore_n (lv' := [(2, .ref m), (1, .ref a), (0, .ref (g.2.2 40))]) d_Lw_law_15 rfl (by decide) rfl ?_
      refine y_iconst d_Lw_law_16 (v := 1) (by decide) ?_
      refine y_newa_long (N := 1) ac_long d_Lw_law_17 (by decide) (by decide) (by decide) (by omega) (by omega) (fun o1 => ?_)
      refine y_cs (cs2 := [(a, .inr (11, [.ref pa, .ref ta, .ref sa, .ref gs, .ref co, .ref fu, .ref la, .ref gy, .ref du, .ref re, .ref wm, .ref ac])), (pa, .inr (8, [.ref pa1, .ref pa2, .ref pa3, .int 4])), (pa1, .inl (1, 108, .inl (fa_fill (fun _ => 46) (fun _ => 0) 108))), (pa2, .inl (2, 108, .inl (fun _ => 0))), (pa3, .inl (0, 108, .inl (fun _ => 0))), (ta, .inr (10, [.ref ta1, .ref ta2, .ref taz, .ref ta4, .ref ta5, .ref ta6, .int 0, .int 0])), (ta1, .inl (1, 108, .inl (fa_fill (fun _ => 46) (fun _ => 0) 108))), (ta2, .inl (0, 108, .inl (fun _ => 0))), (taz, .inr (2, [.ref taz1, .ref taz2, .ref taz3, .ref taz4, .ref taz5, .ref taz6, .int 0])), (taz1, .inl (0, 108, .inl (fun _ => 0))), (taz2, .inl (0, 108, .inl (fun _ => 0))), (taz3, .inl (0, 108, .inl (fun _ => 0))), (taz4, .inl (0, 108, .inl (fun _ => 0))), (taz5, .inl (0, 108, .inl (fun _ => 0))), (taz6, .inl (0, 108, .inl (fun _ => 0))), (ta4, .inl (2, 108, .inl (fun _ => 0))), (ta5, .inl (2, 108, .inl (fun _ => 0))), (ta6, .inl (0, 108, .inl (fun _ => 0))), (sa, .inr (10, [.ref sa1, .ref sa2, .ref saz, .ref sa4, .ref sa5, .ref sa6, .int 0, .int 0])), (sa1, .inl (1, 108, .inl (fa_fill (fun _ => 46) (fun _ => 0) 108))), (sa2, .inl (0, 108, .inl (fun _ => 0))), (saz, .inr (2, [.ref saz1, .ref saz2, .ref saz3, .ref saz4, .ref saz5, .ref saz6, .int 0])), (saz1, .inl (0, 108, .inl (fun _ => 0))), (saz2, .inl (0, 108, .inl (fun _ => 0))), (saz3, .inl (0, 108, .inl (fun _ => 0))), (saz4, .inl (0, 108, .inl (fun _ => 0))), (saz5, .inl (0, 108, .inl (fun _ => 0))), (saz6, .inl (0, 108, .inl (fun _ => 0))), (sa4, .inl (2, 108, .inl (fun _ => 0))), (sa5, .inl (2, 108, .inl (fun _ => 0))), (sa6, .inl (0, 108, .inl (fun _ => 0))), (gs, .inr (4, [.int 80, .int 35, .int 30, .int 50, .int 0])), (co, .inr (1, [.ref co1, .ref co2, .ref co3, .int 0])), (co1, .inl (0, 20, .inl (fun _ => 0))), (co2, .inl (0, 20, .inl (fun _ => 0))), (co3, .inl (0, 20, .inl (fun _ => 0))), (fu, .inr (3, [.ref fub, .ref fut1, .ref fut2, .ref fut3, .long 0])), (fub, .inr (6, [.ref fubg, .int 0])), (fubg, .inl (3, 4, .inr (.inl (fun _ => 0)))), (fut1, .inl (3, 4, .inr (.inl (fun _ => 0)))), (fut2, .inl (3, 4, .inr (.inl (fun _ => 0)))), (fut3, .inl (3, 4, .inr (.inl (fun _ => 0)))), (la, .inr (5, [.ref lab, .int 0, .int 0, .int 0])), (lab, .inr (6, [.ref labg, .int 0])), (labg, .inl (3, 4, .inr (.inl (fun _ => 0)))), (gy, .inr (6, [.ref gyg, .int 0])), (gyg, .inl (3, 4, .inr (.inl (fun _ => 0)))), (du, .inr (6, [.ref dug, .int 0])), (dug, .inl (3, 4, .inr (.inl (fun _ => 0)))), (re, .inr (9, [.int 0, .int 0, .int 0])), (wm, .inr (13, [.int 0, .ref (g.2.2 4), .int 0])), (ac, .inr (13, [.int 0, .ref (g.2.2 4), .int 0])), (m, .inr (12, [.int 0, .ref mp, .int 4, .ref mf, .ref mh, .ref mn, .ref mt, .ref mz, .ref mc_, .ref mq, .ref mgr, .int 80, .int 35, .int 30, .int 50, .int 0, .int 0, .ref ml, .ref mi, .ref mr, .int 0, .int 0, .int 0, .int (-1), .int 0, .ref mm, .ref mu, .ref mk, .ref mx, .long 0, .long 0])), (mp, .inl (1, 108, .inl (fa_fill (fun _ => 46) (fun _ => 0) 108))), (mf, .inl (0, 108, .inl (fun _ => 0))), (mh, .inl (0, 108, .inl (fun _ => 0))), (mn, .inl (0, 108, .inl (fun _ => 0))), (mt, .inl (0, 108, .inl (fun _ => 0))), (mz, .inl (0, 108, .inl (fun _ => 0))), (mc_, .inl (2, 108, .inl (fun _ => 0))), (mq, .inl (0, 108, .inl (fun _ => 0))), (mgr, .inl (0, 108, .inl (fun _ => 0))), (ml, .inr (13, [.int 0, .ref (g.2.2 4), .int 0])), (mi, .inl (0, 4, .inl (fun _ => 0))), (mr, .inl (3, 16, .inr (.inl (fun _ => 0)))), (mm, .inr (13, [.int 0, .ref (g.2.2 4), .int 0])), (mu, .inr (13, [.int 0, .ref (g.2.2 4), .int 0])), (mk, .inr (13, [.int 0, .ref (g.2.2 4), .int 0])), (mx, .inr (13, [.int 0, .ref (g.2.2 4), .int 0])), (o1, .inl (3, 1, .inr (.inl (fun _ => 0))))]) rfl ?_
      refine y_astore_n (lv' := [(3, .ref o1), (2, .ref m), (1, .ref a), (0, .ref (g.2.2 40))]) d_Lw_law_19 rfl (by decide) rfl ?_
      refine y_iconst d_Lw_law_20 (v := 1) (by decide) ?_
      refine y_newa_double (N := 1) ac_double d_Lw_law_21 (by decide) (by decide) (by decide) (by omega) (by omega) (fun o2 => ?_)
      refine y_cs (cs2 := [(a, .inr (11, [.ref pa, .ref ta, .ref sa, .ref gs, .ref co, .ref fu, .ref la, .ref gy, .ref du, .ref re, .ref wm, .ref ac])), (pa, .inr (8, [.ref pa1, .ref pa2, .ref pa3, .int 4])), (pa1, .inl (1, 108, .inl (fa_fill (fun _ => 46) (fun _ => 0) 108))), (pa2, .inl (2, 108, .inl (fun _ => 0))), (pa3, .inl (0, 108, .inl (fun _ => 0))), (ta, .inr (10, [.ref ta1, .ref ta2, .ref taz, .ref ta4, .ref ta5, .ref ta6, .int 0, .int 0])), (ta1, .inl (1, 108, .inl (fa_fill (fun _ => 46) (fun _ => 0) 108))), (ta2, .inl (0, 108, .inl (fun _ => 0))), (taz, .inr (2, [.ref taz1, .ref taz2, .ref taz3, .ref taz4, .ref taz5, .ref taz6, .int 0])), (taz1, .inl (0, 108, .inl (fun _ => 0))), (taz2, .inl (0, 108, .inl (fun _ => 0))), (taz3, .inl (0, 108, .inl (fun _ => 0))), (taz4, .inl (0, 108, .inl (fun _ => 0))), (taz5, .inl (0, 108, .inl (fun _ => 0))), (taz6, .inl (0, 108, .inl (fun _ => 0))), (ta4, .inl (2, 108, .inl (fun _ => 0))), (ta5, .inl (2, 108, .inl (fun _ => 0))), (ta6, .inl (0, 108, .inl (fun _ => 0))), (sa, .inr (10, [.ref sa1, .ref sa2, .ref saz, .ref sa4, .ref sa5, .ref sa6, .int 0, .int 0])), (sa1, .inl (1, 108, .inl (fa_fill (fun _ => 46) (fun _ => 0) 108))), (sa2, .inl (0, 108, .inl (fun _ => 0))), (saz, .inr (2, [.ref saz1, .ref saz2, .ref saz3, .ref saz4, .ref saz5, .ref saz6, .int 0])), (saz1, .inl (0, 108, .inl (fun _ => 0))), (saz2, .inl (0, 108, .inl (fun _ => 0))), (saz3, .inl (0, 108, .inl (fun _ => 0))), (saz4, .inl (0, 108, .inl (fun _ => 0))), (saz5, .inl (0, 108, .inl (fun _ => 0))), (saz6, .inl (0, 108, .inl (fun _ => 0))), (sa4, .inl (2, 108, .inl (fun _ => 0))), (sa5, .inl (2, 108, .inl (fun _ => 0))), (sa6, .inl (0, 108, .inl (fun _ => 0))), (gs, .inr (4, [.int 80, .int 35, .int 30, .int 50, .int 0])), (co, .inr (1, [.ref co1, .ref co2, .ref co3, .int 0])), (co1, .inl (0, 20, .inl (fun _ => 0))), (co2, .inl (0, 20, .inl (fun _ => 0))), (co3, .inl (0, 20, .inl (fun _ => 0))), (fu, .inr (3, [.ref fub, .ref fut1, .ref fut2, .ref fut3, .long 0])), (fub, .inr (6, [.ref fubg, .int 0])), (fubg, .inl (3, 4, .inr (.inl (fun _ => 0)))), (fut1, .inl (3, 4, .inr (.inl (fun _ => 0)))), (fut2, .inl (3, 4, .inr (.inl (fun _ => 0)))), (fut3, .inl (3, 4, .inr (.inl (fun _ => 0)))), (la, .inr (5, [.ref lab, .int 0, .int 0, .int 0])), (lab, .inr (6, [.ref labg, .int 0])), (labg, .inl (3, 4, .inr (.inl (fun _ => 0)))), (gy, .inr (6, [.ref gyg, .int 0])), (gyg, .inl (3, 4, .inr (.inl (fun _ => 0)))), (du, .inr (6, [.ref dug, .int 0])), (dug, .inl (3, 4, .inr (.inl (fun _ => 0)))), (re, .inr (9, [.int 0, .int 0, .int 0])), (wm, .inr (13, [.int 0, .ref (g.2.2 4), .int 0])), (ac, .inr (13, [.int 0, .ref (g.2.2 4), .int 0])), (m, .inr (12, [.int 0, .ref mp, .int 4, .ref mf, .ref mh, .ref mn, .ref mt, .ref mz, .ref mc_, .ref mq, .ref mgr, .int 80, .int 35, .int 30, .int 50, .int 0, .int 0, .ref ml, .ref mi, .ref mr, .int 0, .int 0, .int 0, .int (-1), .int 0, .ref mm, .ref mu, .ref mk, .ref mx, .long 0, .long 0])), (mp, .inl (1, 108, .inl (fa_fill (fun _ => 46) (fun _ => 0) 108))), (mf, .inl (0, 108, .inl (fun _ => 0))), (mh, .inl (0, 108, .inl (fun _ => 0))), (mn, .inl (0, 108, .inl (fun _ => 0))), (mt, .inl (0, 108, .inl (fun _ => 0))), (mz, .inl (0, 108, .inl (fun _ => 0))), (mc_, .inl (2, 108, .inl (fun _ => 0))), (mq, .inl (0, 108, .inl (fun _ => 0))), (mgr, .inl (0, 108, .inl (fun _ => 0))), (ml, .inr (13, [.int 0, .ref (g.2.2 4), .int 0])), (mi, .inl (0, 4, .inl (fun _ => 0))), (mr, .inl (3, 16, .inr (.inl (fun _ => 0)))), (mm, .inr (13, [.int 0, .ref (g.2.2 4), .int 0])), (mu, .inr (13, [.int 0, .ref (g.2.2 4), .int 0])), (mk, .inr (13, [.int 0, .ref (g.2.2 4), .int 0])), (mx, .inr (13, [.int 0, .ref (g.2.2 4), .int 0])), (o1, .inl (3, 1, .inr (.inl (fun _ => 0)))), (o2, .inl (4, 1, .inr (.inr (.inr (.inl (fun _ => 0))))))]) rfl ?_
      refine y_astore (lv' := [(4, .ref o2), (3, .ref o1), (2, .ref m), (1, .ref a), (0, .ref (g.2.2 40))]) d_Lw_law_23 (by decide) rfl ?_
      refine y_iconst d_Lw_law_25 (v := 0) (by decide) ?_
      refine y_istore (lv' := [(5, .int 0), (4, .ref o2), (3, .ref o1), (2, .ref m), (1, .ref a), (0, .ref (g.2.2 40))]) d_Lw_law_26 (by decide) rfl ?_
      refine y_lv (lv' := [(5, .int 0), (4, .ref o2), (3, .ref o1), (2, .ref m), (1, .ref a), (0, .ref (g.2.2 40))]) [0, 1, 2, 3, 4, 5] rfl ?_
      refine y_cs (cs2 := [(a, .inr (11, [.ref pa, .ref ta, .ref sa, .ref gs, .ref co, .ref fu, .ref la, .ref gy, .ref du, .ref re, .ref wm, .ref ac])), (pa, .inr (8, [.ref pa1, .ref pa2, .ref pa3, .int 4])), (pa1, .inl (1, 108, .inl (fa_fill (fun _ => 46) (fun _ => 0) 108))), (pa2, .inl (2, 108, .inl (fun _ => 0))), (pa3, .inl (0, 108, .inl (fun _ => 0))), (ta, .inr (10, [.ref ta1, .ref ta2, .ref taz, .ref ta4, .ref ta5, .ref ta6, .int 0, .int 0])), (ta1, .inl (1, 108, .inl (fa_fill (fun _ => 46) (fun _ => 0) 108))), (ta2, .inl (0, 108, .inl (fun _ => 0))), (taz, .inr (2, [.ref taz1, .ref taz2, .ref taz3, .ref taz4, .ref taz5, .ref taz6, .int 0])), (taz1, .inl (0, 108, .inl (fun _ => 0))), (taz2, .inl (0, 108, .inl (fun _ => 0))), (taz3, .inl (0, 108, .inl (fun _ => 0))), (taz4, .inl (0, 108, .inl (fun _ => 0))), (taz5, .inl (0, 108, .inl (fun _ => 0))), (taz6, .inl (0, 108, .inl (fun _ => 0))), (ta4, .inl (2, 108, .inl (fun _ => 0))), (ta5, .inl (2, 108, .inl (fun _ => 0))), (ta6, .inl (0, 108, .inl (fun _ => 0))), (sa, .inr (10, [.ref sa1, .ref sa2, .ref saz, .ref sa4, .ref sa5, .ref sa6, .int 0, .int 0])), (sa1, .inl (1, 108, .inl (fa_fill (fun _ => 46) (fun _ => 0) 108))), (sa2, .inl (0, 108, .inl (fun _ => 0))), (saz, .inr (2, [.ref saz1, .ref saz2, .ref saz3, .ref saz4, .ref saz5, .ref saz6, .int 0])), (saz1, .inl (0, 108, .inl (fun _ => 0))), (saz2, .inl (0, 108, .inl (fun _ => 0))), (saz3, .inl (0, 108, .inl (fun _ => 0))), (saz4, .inl (0, 108, .inl (fun _ => 0))), (saz5, .inl (0, 108, .inl (fun _ => 0))), (saz6, .inl (0, 108, .inl (fun _ => 0))), (sa4, .inl (2, 108, .inl (fun _ => 0))), (sa5, .inl (2, 108, .inl (fun _ => 0))), (sa6, .inl (0, 108, .inl (fun _ => 0))), (gs, .inr (4, [.int 80, .int 35, .int 30, .int 50, .int 0])), (co, .inr (1, [.ref co1, .ref co2, .ref co3, .int 0])), (co1, .inl (0, 20, .inl (fun _ => 0))), (co2, .inl (0, 20, .inl (fun _ => 0))), (co3, .inl (0, 20, .inl (fun _ => 0))), (fu, .inr (3, [.ref fub, .ref fut1, .ref fut2, .ref fut3, .long 0])), (fub, .inr (6, [.ref fubg, .int 0])), (fubg, .inl (3, 4, .inr (.inl (fun _ => 0)))), (fut1, .inl (3, 4, .inr (.inl (fun _ => 0)))), (fut2, .inl (3, 4, .inr (.inl (fun _ => 0)))), (fut3, .inl (3, 4, .inr (.inl (fun _ => 0)))), (la, .inr (5, [.ref lab, .int 0, .int 0, .int 0])), (lab, .inr (6, [.ref labg, .int 0])), (labg, .inl (3, 4, .inr (.inl (fun _ => 0)))), (gy, .inr (6, [.ref gyg, .int 0])), (gyg, .inl (3, 4, .inr (.inl (fun _ => 0)))), (du, .inr (6, [.ref dug, .int 0])), (dug, .inl (3, 4, .inr (.inl (fun _ => 0)))), (re, .inr (9, [.int 0, .int 0, .int 0])), (wm, .inr (13, [.int 0, .ref (g.2.2 4), .int 0])), (ac, .inr (13, [.int 0, .ref (g.2.2 4), .int 0])), (m, .inr (12, [.int 0, .ref mp, .int 4, .ref mf, .ref mh, .ref mn, .ref mt, .ref mz, .ref mc_, .ref mq, .ref mgr, .int 80, .int 35, .int 30, .int 50, .int 0, .int 0, .ref ml, .ref mi, .ref mr, .int 0, .int 0, .int 0, .int (-1), .int 0, .ref mm, .ref mu, .ref mk, .ref mx, .long 0, .long 0])), (mp, .inl (1, 108, .inl (fa_fill (fun _ => 46) (fun _ => 0) 108))), (mf, .inl (0, 108, .inl (fun _ => 0))), (mh, .inl (0, 108, .inl (fun _ => 0))), (mn, .inl (0, 108, .inl (fun _ => 0))), (mt, .inl (0, 108, .inl (fun _ => 0))), (mz, .inl (0, 108, .inl (fun _ => 0))), (mc_, .inl (2, 108, .inl (fun _ => 0))), (mq, .inl (0, 108, .inl (fun _ => 0))), (mgr, .inl (0, 108, .inl (fun _ => 0))), (ml, .inr (13, [.int 0, .ref (g.2.2 4), .int 0])), (mi, .inl (0, 4, .inl (fun _ => 0))), (mr, .inl (3, 16, .inr (.inl (fun _ => 0)))), (mm, .inr (13, [.int 0, .ref (g.2.2 4), .int 0])), (mu, .inr (13, [.int 0, .ref (g.2.2 4), .int 0])), (mk, .inr (13, [.int 0, .ref (g.2.2 4), .int 0])), (mx, .inr (13, [.int 0, .ref (g.2.2 4), .int 0])), (o1, .inl (3, 1, .inr (.inl (fun _ => 0)))), (o2, .inl (4, 1, .inr (.inr (.inr (.inl (fun _ => 0))))))]) rfl ?_
      refine y_end (fun wC hC => ?_)
      exact yw_bud (by omega) (by omega) (LW_loop hL r 0 (by omega) (by omega) zT0 _ _ (IVm.of (IV.start hC) (fun _ _ => rfl) rfl) REL.start)
