theorem d45 : decode M_Lw_law.2.1 45 = .ok (.tableswitch 1763 0 49 #[215, 293, 333, 361, 374, 387, 400, 413, 453, 469, 521, 585, 637, 665, 693, 721, 749, 813, 843, 883, 896, 924, 966, 996, 1024, 1052, 1080, 1108, 1138, 1154, 1212, 1256, 1346, 1376, 1392, 1420, 1436, 1449, 1477, 1505, 1533, 1575, 1603, 1631, 1659, 1687, 1703, 1716, 1733, 1750], 215) := by decide +kernel
theorem LW_sw {g : zG} {ad : Nat → Nat} {t : zTT} {u : zNN} {w : zW} {j : Nat} (hI : IVm g ad t u w) (hR : REL t u.1 (48 * j)) {r : Nat} (hJ : 7 * j + 7 ≤ g.2.2 41) (hL : g.2.2 41 ≤ 3584) (ih : LWI g ad j r) : DW g M_Lw_law lwQ w 45 [(5, .int (nI (7 * j))), (4, .ref (ad 70)), (3, .ref (ad 69)), (2, .ref (ad 52)), (1, .ref (ad 0)), (0, .ref (g.2.2 40))] [.int (zs g (7 * j) &&& 63)] (100 * (r + 1)) (1000 * (r + 1)) := by
  obtain ⟨k, hk, e⟩ := z_63 (zs g (7 * j))
  rw [e]
  refine y_base (cs := []) (z_I.nil w) ?_
  match k, hk with
  | 0, _ => exact y_tableIn (off := 215) (tgt := 260) d45 (by decide) (by decide) (by decide) (by decide) (y_end (fun wC hC => LC_draw (IVm.nil hC hI) hR hJ hL ih))
  | 1, _ => exact y_tableIn (off := 293) (tgt := 338) d45 (by decide) (by decide) (by decide) (by decide) (y_end (fun wC hC => LC_cell (IVm.nil hC hI) hR hJ hL ih))
  | 2, _ => exact y_tableIn (off := 333) (tgt := 378) d45 (by decide) (by decide) (by decide) (by decide) (y_end (fun wC hC => LC_part (IVm.nil hC hI) hR hJ hL ih))
  | 3, _ => exact y_tableIn (off := 361) (tgt := 406) d45 (by decide) (by decide) (by decide) (by decide) (y_end (fun wC hC => LC_undercut (IVm.nil hC hI) hR hJ hL ih))
  | 4, _ => exact y_tableIn (off := 374) (tgt := 419) d45 (by decide) (by decide) (by decide) (by decide) (y_end (fun wC hC => LC_cores (IVm.nil hC hI) hR hJ hL ih))
  | 5, _ => exact y_tableIn (off := 387) (tgt := 432) d45 (by decide) (by decide) (by decide) (by decide) (y_end (fun wC hC => LC_loose (IVm.nil hC hI) hR hJ hL ih))
  | 6, _ => exact y_tableIn (off := 400) (tgt := 445) d45 (by decide) (by decide) (by decide) (by decide) (y_end (fun wC hC => LC_weight (IVm.nil hC hI) hR hJ hL ih))
  | 7, _ => exact y_tableIn (off := 413) (tgt := 458) d45 (by decide) (by decide) (by decide) (by decide) (y_end (fun wC hC => LC_filledIn (IVm.nil hC hI) hR hJ hL ih))
  | 8, _ => exact y_tableIn (off := 453) (tgt := 498) d45 (by decide) (by decide) (by decide) (by decide) (y_end (fun wC hC => LC_speed (IVm.nil hC hI) hR hJ hL ih))
  | 9, _ => exact y_tableIn (off := 469) (tgt := 514) d45 (by decide) (by decide) (by decide) (by decide) (y_end (fun wC hC => LC_frozenIn (IVm.nil hC hI) hR hJ hL ih))
  | 10, _ => exact y_tableIn (off := 521) (tgt := 566) d45 (by decide) (by decide) (by decide) (by decide) (y_end (fun wC hC => LC_heatAt (IVm.nil hC hI) hR hJ hL ih))
  | 11, _ => exact y_tableIn (off := 585) (tgt := 630) d45 (by decide) (by decide) (by decide) (by decide) (y_end (fun wC hC => LC_isFed (IVm.nil hC hI) hR hJ hL ih))
  | 12, _ => exact y_tableIn (off := 637) (tgt := 682) d45 (by decide) (by decide) (by decide) (by decide) (y_end (fun wC hC => LC_shrunk (IVm.nil hC hI) hR hJ hL ih))
  | 13, _ => exact y_tableIn (off := 665) (tgt := 710) d45 (by decide) (by decide) (by decide) (by decide) (y_end (fun wC hC => LC_shrunkAnew (IVm.nil hC hI) hR hJ hL ih))
  | 14, _ => exact y_tableIn (off := 693) (tgt := 738) d45 (by decide) (by decide) (by decide) (by decide) (y_end (fun wC hC => LC_lastPlace (IVm.nil hC hI) hR hJ hL ih))
  | 15, _ => exact y_tableIn (off := 721) (tgt := 766) d45 (by decide) (by decide) (by decide) (by decide) (y_end (fun wC hC => LC_bestFeeder (IVm.nil hC hI) hR hJ hL ih))
  | 16, _ => exact y_tableIn (off := 749) (tgt := 794) d45 (by decide) (by decide) (by decide) (by decide) (y_end (fun wC hC => LC_mill (IVm.nil hC hI) hR hJ hL ih))
  | 17, _ => exact y_tableIn (off := 813) (tgt := 858) d45 (by decide) (by decide) (by decide) (by decide) (y_end (fun wC hC => LC_sand (IVm.nil hC hI) hR hJ hL ih))
  | 18, _ => exact y_tableIn (off := 843) (tgt := 888) d45 (by decide) (by decide) (by decide) (by decide) (y_end (fun wC hC => LC_makeCores (IVm.nil hC hI) hR hJ hL ih))
  | 19, _ => exact y_tableIn (off := 883) (tgt := 928) d45 (by decide) (by decide) (by decide) (by decide) (y_end (fun wC hC => LC_goodCores (IVm.nil hC hI) hR hJ hL ih))
  | 20, _ => exact y_tableIn (off := 896) (tgt := 941) d45 (by decide) (by decide) (by decide) (by decide) (y_end (fun wC hC => LC_hours (IVm.nil hC hI) hR hJ hL ih))
  | 21, _ => exact y_tableIn (off := 924) (tgt := 969) d45 (by decide) (by decide) (by decide) (by decide) (y_end (fun wC hC => LC_charge (IVm.nil hC hI) hR hJ hL ih))
  | 22, _ => exact y_tableIn (off := 966) (tgt := 1011) d45 (by decide) (by decide) (by decide) (by decide) (y_end (fun wC hC => LC_furnace (IVm.nil hC hI) hR hJ hL ih))
  | 23, _ => exact y_tableIn (off := 996) (tgt := 1041) d45 (by decide) (by decide) (by decide) (by decide) (y_end (fun wC hC => LC_hold (IVm.nil hC hI) hR hJ hL ih))
  | 24, _ => exact y_tableIn (off := 1024) (tgt := 1069) d45 (by decide) (by decide) (by decide) (by decide) (y_end (fun wC hC => LC_tap (IVm.nil hC hI) hR hJ hL ih))
  | 25, _ => exact y_tableIn (off := 1052) (tgt := 1097) d45 (by decide) (by decide) (by decide) (by decide) (y_end (fun wC hC => LC_treat (IVm.nil hC hI) hR hJ hL ih))
  | 26, _ => exact y_tableIn (off := 1080) (tgt := 1125) d45 (by decide) (by decide) (by decide) (by decide) (y_end (fun wC hC => LC_minutes (IVm.nil hC hI) hR hJ hL ih))
  | 27, _ => exact y_tableIn (off := 1108) (tgt := 1153) d45 (by decide) (by decide) (by decide) (by decide) (y_end (fun wC hC => LC_ladle (IVm.nil hC hI) hR hJ hL ih))
  | 28, _ => exact y_tableIn (off := 1138) (tgt := 1183) d45 (by decide) (by decide) (by decide) (by decide) (y_end (fun wC hC => LC_pig (IVm.nil hC hI) hR hJ hL ih))
  | 29, _ => exact y_tableIn (off := 1154) (tgt := 1199) d45 (by decide) (by decide) (by decide) (by decide) (y_end (fun wC hC => LC_pool (IVm.nil hC hI) hR hJ hL ih))
  | 30, _ => exact y_tableIn (off := 1212) (tgt := 1257) d45 (by decide) (by decide) (by decide) (by decide) (y_end (fun wC hC => LC_poolHas (IVm.nil hC hI) hR hJ hL ih))
  | 31, _ => exact y_tableIn (off := 1256) (tgt := 1301) d45 (by decide) (by decide) (by decide) (by decide) (y_end (fun wC hC => LC_leastCost (IVm.nil hC hI) hR hJ hL ih))
  | 32, _ => exact y_tableIn (off := 1346) (tgt := 1391) d45 (by decide) (by decide) (by decide) (by decide) (y_end (fun wC hC => LC_cheapest (IVm.nil hC hI) hR hJ hL ih))
  | 33, _ => exact y_tableIn (off := 1376) (tgt := 1421) d45 (by decide) (by decide) (by decide) (by decide) (y_end (fun wC hC => LC_mould (IVm.nil hC hI) hR hJ hL ih))
  | 34, _ => exact y_tableIn (off := 1392) (tgt := 1437) d45 (by decide) (by decide) (by decide) (by decide) (y_end (fun wC hC => LC_waiting (IVm.nil hC hI) hR hJ hL ih))
  | 35, _ => exact y_tableIn (off := 1420) (tgt := 1465) d45 (by decide) (by decide) (by decide) (by decide) (y_end (fun wC hC => LC_pour (IVm.nil hC hI) hR hJ hL ih))
  | 36, _ => exact y_tableIn (off := 1436) (tgt := 1481) d45 (by decide) (by decide) (by decide) (by decide) (y_end (fun wC hC => LC_castings (IVm.nil hC hI) hR hJ hL ih))
  | 37, _ => exact y_tableIn (off := 1449) (tgt := 1494) d45 (by decide) (by decide) (by decide) (by decide) (y_end (fun wC hC => LC_alloy (IVm.nil hC hI) hR hJ hL ih))
  | 38, _ => exact y_tableIn (off := 1477) (tgt := 1522) d45 (by decide) (by decide) (by decide) (by decide) (y_end (fun wC hC => LC_faults (IVm.nil hC hI) hR hJ hL ih))
  | 39, _ => exact y_tableIn (off := 1505) (tgt := 1550) d45 (by decide) (by decide) (by decide) (by decide) (y_end (fun wC hC => LC_shrunkIn (IVm.nil hC hI) hR hJ hL ih))
  | 40, _ => exact y_tableIn (off := 1533) (tgt := 1578) d45 (by decide) (by decide) (by decide) (by decide) (y_end (fun wC hC => LC_has (IVm.nil hC hI) hR hJ hL ih))
  | 41, _ => exact y_tableIn (off := 1575) (tgt := 1620) d45 (by decide) (by decide) (by decide) (by decide) (y_end (fun wC hC => LC_bar (IVm.nil hC hI) hR hJ hL ih))
  | 42, _ => exact y_tableIn (off := 1603) (tgt := 1648) d45 (by decide) (by decide) (by decide) (by decide) (y_end (fun wC hC => LC_weld (IVm.nil hC hI) hR hJ hL ih))
  | 43, _ => exact y_tableIn (off := 1631) (tgt := 1676) d45 (by decide) (by decide) (by decide) (by decide) (y_end (fun wC hC => LC_deliver (IVm.nil hC hI) hR hJ hL ih))
  | 44, _ => exact y_tableIn (off := 1659) (tgt := 1704) d45 (by decide) (by decide) (by decide) (by decide) (y_end (fun wC hC => LC_breakUp (IVm.nil hC hI) hR hJ hL ih))
  | 45, _ => exact y_tableIn (off := 1687) (tgt := 1732) d45 (by decide) (by decide) (by decide) (by decide) (y_end (fun wC hC => LC_worst (IVm.nil hC hI) hR hJ hL ih))
  | 46, _ => exact y_tableIn (off := 1703) (tgt := 1748) d45 (by decide) (by decide) (by decide) (by decide) (y_end (fun wC hC => LC_delivered (IVm.nil hC hI) hR hJ hL ih))
  | 47, _ => exact y_tableIn (off := 1716) (tgt := 1761) d45 (by decide) (by decide) (by decide) (by decide) (y_end (fun wC hC => LC_goodShare (IVm.nil hC hI) hR hJ hL ih))
  | 48, _ => exact y_tableIn (off := 1733) (tgt := 1778) d45 (by decide) (by decide) (by decide) (by decide) (y_end (fun wC hC => LC_meanBar (IVm.nil hC hI) hR hJ hL ih))
  | 49, _ => exact y_tableIn (off := 1750) (tgt := 1795) d45 (by decide) (by decide) (by decide) (by decide) (y_end (fun wC hC => LC_isSound (IVm.nil hC hI) hR hJ hL ih))
  | 50, _ => exact y_tableOut (tgt := 1808) d45 (by decide) (by decide) (y_end (fun wC hC => LC_next (IVm.nil hC hI) (hR.up (by omega)) hJ hL ih (by omega) (by omega)))
  | 51, _ => exact y_tableOut (tgt := 1808) d45 (by decide) (by decide) (y_end (fun wC hC => LC_next (IVm.nil hC hI) (hR.up (by omega)) hJ hL ih (by omega) (by omega)))
  | 52, _ => exact y_tableOut (tgt := 1808) d45 (by decide) (by decide) (y_end (fun wC hC => LC_next (IVm.nil hC hI) (hR.up (by omega)) hJ hL ih (by omega) (by omega)))
  | 53, _ => exact y_tableOut (tgt := 1808) d45 (by decide) (by decide) (y_end (fun wC hC => LC_next (IVm.nil hC hI) (hR.up (by omega)) hJ hL ih (by omega) (by omega)))
  | 54, _ => exact y_tableOut (tgt := 1808) d45 (by decide) (by decide) (y_end (fun wC hC => LC_next (IVm.nil hC hI) (hR.up (by omega)) hJ hL ih (by omega) (by omega)))
  | 55, _ => exact y_tableOut (tgt := 1808) d45 (by decide) (by decide) (y_end (fun wC hC => LC_next (IVm.nil hC hI) (hR.up (by omega)) hJ hL ih (by omega) (by omega)))
  | 56, _ => exact y_tableOut (tgt := 1808) d45 (by decide) (by decide) (y_end (fun wC hC => LC_next (IVm.nil hC hI) (hR.up (by omega)) hJ hL ih (by omega) (by omega)))
  | 57, _ => exact y_tableOut (tgt := 1808) d45 (by decide) (by decide) (y_end (fun wC hC => LC_next (IVm.nil hC hI) (hR.up (by omega)) hJ hL ih (by omega) (by omega)))
  | 58, _ => exact y_tableOut (tgt := 1808) d45 (by decide) (by decide) (y_end (fun wC hC => LC_next (IVm.nil hC hI) (hR.up (by omega)) hJ hL ih (by omega) (by omega)))
  | 59, _ => exact y_tableOut (tgt := 1808) d45 (by decide) (by decide) (y_end (fun wC hC => LC_next (IVm.nil hC hI) (hR.up (by omega)) hJ hL ih (by omega) (by omega)))
  | 60, _ => exact y_tableOut (tgt := 1808) d45 (by decide) (by decide) (y_end (fun wC hC => LC_next (IVm.nil hC hI) (hR.up (by omega)) hJ hL ih (by omega) (by omega)))
  | 61, _ => exact y_tableOut (tgt := 1808) d45 (by decide) (by decide) (y_end (fun wC hC => LC_next (IVm.nil hC hI) (hR.up (by omega)) hJ hL ih (by omega) (by omega)))
  | 62, _ => exact y_tableOut (tgt := 1808) d45 (by decide) (by decide) (y_end (fun wC hC => LC_next (IVm.nil hC hI) (hR.up (by omega)) hJ hL ih (by omega) (by omega)))
  | 63, _ => exact y_tableOut (tgt := 1808) d45 (by decide) (by decide) (y_end (fun wC hC => LC_next (IVm.nil hC hI) (hR.up (by omega)) hJ hL ih (by omega) (by omega)))
  | k + 64, hk => exact absurd hk (by omega)
def zgs : Nat → Int32 := fun k => ([80, 35, 30, 50, 0] : List Int32).getD k 0
def zms : Nat → Int32 := fun k => ([80, 35, 30, 50, 0, 0, 0, 0, 0, -1, 0] : List Int32).getD k 0
def zT0 : zTT := (fun i => ((if i = 2 ∨ i = 53 ∨ i = 6 then (fa_fill (fun _ => 46) (fun _ => 0) 108) else if i = 31 then zgs else if i = 52 then zms else fun _ => 0), fun _ => 0, fun _ => if i = 1 ∨ i = 52 then 4 else 0), fun _ _ => (fun _ => 0, fun _ => 0, fun _ => 0, fun _ => 0))
theorem z_adI {cs : zC} (h : (cs.map Prod.fst).Nodup) {i j : Nat} (hi : i < cs.length) (hj : j < cs.length) (e : (cs.map Prod.fst).getD i 0 = (cs.map Prod.fst).getD j 0) : i = j := by
  have h1 : ∀ k, (hk : k < cs.length) → (cs.map Prod.fst).getD k 0 = (cs[k]'hk).1 := fun k hk => by
    rw [List.getD_eq_getElem?_getD, List.getElem?_map, List.getElem?_eq_getElem hk]; rfl
  exact z_nd h (List.getElem?_eq_getElem hi) (List.getElem?_eq_getElem hj) ((h1 i hi).symm.trans (e.trans (h1 j hj)))
theorem z_fp_ch : z_ch (fa_fill (fun _ => 46) (fun _ => 0) 108) := fill_ch (fun k _ => Or.inl rfl)
theorem REL.start : REL zT0 (fun _ => 0) 0 := by
  refine ⟨rfl, rfl, fun i hi => ?_, ⟨rfl, ⟨by decide, by decide⟩, fun i hi => absurd hi (Nat.not_lt_zero i)⟩, ⟨⟨rfl, rfl, rfl, rfl⟩, fun _ _ => rfl, fun _ _ => rfl, fun _ _ => rfl, fun _ _ => rfl⟩, ⟨by decide, fun q => absurd rfl q⟩, Or.inl ⟨rfl, rfl⟩, ⟨rfl, rfl, fun i hi => absurd hi (Nat.not_lt_zero i)⟩, ⟨rfl, rfl, fun i hi => absurd hi (Nat.not_lt_zero i)⟩, ⟨by decide, by decide⟩, ⟨by decide, by decide, by decide⟩, fun k hk => fa_fill_out (f := fun _ => 46) (g := fun _ => 0) hk⟩
  match i, hi with
  | 0, _ => exact ⟨rfl, by decide, by decide⟩
  | 1, _ => exact ⟨rfl, by decide, by decide⟩
  | 2, _ => exact ⟨rfl, by decide, by decide⟩
  | 3, _ => exact ⟨rfl, by decide, by decide⟩
  | 4, _ => exact ⟨rfl, by decide, by decide⟩
  | k + 5, hk => exact absurd hk (by omega)
