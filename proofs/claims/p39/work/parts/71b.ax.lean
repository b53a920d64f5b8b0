theorem IVf.B {ad : Nat → Nat} {t : zTT} {w : zW} (h : IVf ad t w) (is : List Nat) (csF csE : zC) (ha : csF.map Prod.fst = is.map ad) (hn : is.Nodup) (hb : ∀ i ∈ is, i < 71) (hw : ∀ p ∈ csF, w p.1 = some p.2) (hwE : ∀ p ∈ csE, w p.1 = some p.2) (hf : ∀ p ∈ csE, z_nf ad p.1) (hk : (csE.map (fun p => z_kd p.2)).Nodup) : z_I w w (csF ++ csE).length (csF ++ csE) := by
  have h1 := h.I is csF ha hn hb hw
  have h2 := z_I.kd hwE hk
  refine z_I.mk (fun p hp => (List.mem_append.mp hp).elim (hw p) (hwE p)) ?_
  rw [List.map_append, List.nodup_append]
  refine ⟨h1.2.2.1, h2.2.2.1, fun x hx y hy e => ?_⟩
  obtain ⟨p, hp, rfl⟩ := List.mem_map.mp hy
  rw [ha] at hx
  obtain ⟨j, hj, e2⟩ := List.mem_map.mp hx
  exact hf p hp j (hb j hj) (e2.trans e)
theorem IW.kp {g : zG} {ad : Nat → Nat} {t : zTT} {u : zNN} {w w1 : zW} (h : IW g ad t u w) {L q : Nat} {e : zE} (hL : L < 7) (hq : z_nf ad q) (hw : w q = some e) (hk : (z_kd e).1 = 1 ∨ (z_kd e).2.1 < 5) (hke : z_ke (fun q => q = ad (z_lx.getD L 0) ∨ u.2.1 L = some q) w w1) : w1 q = some e :=
  hke q e (fun h9 => by
    rcases h9 with h9 | h9
    · exact hq _ ((show ∀ L, L < 7 → z_lx.getD L 0 < 71 by decide) L hL) h9.symm
    · obtain ⟨N, f, e5⟩ := (h.2.1.1 L hL).bk h9
      rw [hw] at e5
      cases e5
      rcases hk with c | c
      · cases c
      · exact absurd c (by show ¬ (5 : Nat) < 5; decide)) hw
theorem z_narc {v : Int32} (h : z_kind v) : vp_nar .char v = v := by
  rcases h with rfl | rfl | rfl | rfl | rfl | rfl <;> decide
theorem fill_ch {f g : Nat → Int32} (h : z_ch f) : z_ch (fa_fill f g 108) := fun k hk => by
  rw [fa_fill_in hk]
  exact h k hk
theorem cnt_cg {p q : Nat → Bool} : ∀ n, (∀ k, k < n → p k = q k) → fa_cnt p n = fa_cnt q n
  | 0, _ => rfl
  | n + 1, h => by rw [fa_cnt, fa_cnt, cnt_cg n (fun k hk => h k (by omega)), h n (by omega)]
theorem fill_gt {f g : Nat → Int32} : fa_cnt (fun k => decide (fa_fill f g 108 k = 103)) 12 = fa_cnt (fun k => decide (f k = 103)) 12 := cnt_cg 12 (fun k hk => by rw [fa_fill_in (by omega)])
theorem SZ.s34 {u : zNN} {m m2 : Nat} {bk bk2 : Option Nat} {el el2 : Nat → Nat} (h : SZ u) (hm : m ≤ 10) (he : m2 = m) : SZ (u_set (u_set u 3 m bk el) 4 m2 bk2 el2) := by
  obtain ⟨h0, h1, h2, h3, h4, h5, h6⟩ := h
  exact ⟨h0, h1, h2, hm, he, h5, h6⟩
theorem SZ.s56 {u : zNN} {m m2 : Nat} {bk bk2 : Option Nat} {el el2 : Nat → Nat} (h : SZ u) (hm : m ≤ 30) (he : m2 = m) : SZ (u_set (u_set u 5 m bk el) 6 m2 bk2 el2) := by
  obtain ⟨h0, h1, h2, h3, h4, h5, h6⟩ := h
  exact ⟨h0, h1, h2, h3, h4, hm, he⟩
theorem EL.elt3 {ad : Nat → Nat} {w : zW} {a : Nat} {v : zV} (h : EL ad 3 w a v) : z_elt w a := ⟨_, h.2.1, ⟨show (1 : Nat) < 5 by decide, cst_1⟩, fun q => by cases q⟩
theorem EL.elt4 {ad : Nat → Nat} {w : zW} {a : Nat} {v : zV} (h : EL ad 4 w a v) : z_elt w a := ⟨_, h.2.1, ⟨show (0 : Nat) < 5 by decide, cst_0⟩, fun q => by cases q⟩
theorem EL.elt5 {ad : Nat → Nat} {w : zW} {a : Nat} {v : zV} (h : EL ad 5 w a v) : z_elt w a := ⟨_, h.2.1, ⟨show (0 : Nat) < 5 by decide, cst_0⟩, fun q => by cases q⟩
theorem EL.elt6 {ad : Nat → Nat} {w : zW} {a : Nat} {v : zV} (h : EL ad 6 w a v) : z_elt w a := ⟨_, h.2, ⟨show (3 : Nat) < 5 by decide, cst_3⟩, fun q => by cases q⟩
