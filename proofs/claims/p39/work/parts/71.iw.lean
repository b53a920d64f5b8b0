theorem IW.gen0 {g : zG} {ad : Nat → Nat} {t t2 : zTT} {u : zNN} {w w1 : zW} (h : IW g ad t u w) {is L2 : List Nat} {cs1 : zC} {m : Nat} (h1 : z_I w w1 m cs1) (ha : (cs1.map Prod.fst).take m = is.map ad ++ L2) (hk : KDs ad t2 is cs1) (hb : ∀ i ∈ is, i < 71) (hl : ∀ i ∈ is, i ∉ z_lx) (hn : ∀ q ∈ L2, z_nf ad q) (hs : ∀ i, i < 71 → i ∉ is → t2.1 i = t.1 i) (ht : tOK t → tOK t2) (hE : ∀ L, L < 7 → ∀ k, k < u.1 L → EL ad L w1 (u.2.2 L k) (t2.2 L k)) (hB : ∀ (q N : Nat) (f : Nat → Option Nat), z_nf ad q → w q = some (.inl (5, N, .inr (.inr (.inr (.inr f))))) → w1 q = some (.inl (5, N, .inr (.inr (.inr (.inr f)))))) : IW g ad t2 u w1 := by
  have hke := h1.ke ha
  refine ⟨h.1.st2 h1 ha hk hb hn hs, ⟨fun L hL => ?_, hE, h.2.1.2.2⟩, ht h.2.2⟩
  have hx : z_lx.getD L 0 < 71 ∧ z_lx.getD L 0 ∈ z_lx := (show ∀ L, L < 7 → z_lx.getD L 0 < 71 ∧ z_lx.getD L 0 ∈ z_lx by decide) L hL
  obtain ⟨md, dd, e1, e2⟩ := h.2.1.1 L hL
  have e1' : w1 (ad (z_lx.getD L 0)) = some (.inr (13, [.int md, .ref dd, .int (nI (u.1 L))])) := hke _ _ (fun h9 => by
    rcases List.mem_append.mp h9 with h9 | h9
    · obtain ⟨j, hj, e9⟩ := List.mem_map.mp h9
      have := h.1.1 j _ (hb j hj) hx.1 e9
      exact hl j hj (this ▸ hx.2)
    · exact hn _ h9 _ hx.1 rfl) e1
  refine ⟨md, dd, e1', ?_⟩
  rcases e2 with e2 | ⟨e2, N, f, e3, e4, e5, e6⟩
  · exact Or.inl e2
  · exact Or.inr ⟨e2, N, f, e3, e4, hB dd N f (h.1.n5 e5) e5, e6⟩
theorem IW.gen {g : zG} {ad : Nat → Nat} {t t2 : zTT} {u : zNN} {w w1 : zW} (h : IW g ad t u w) {is L2 : List Nat} {cs1 : zC} {m : Nat} (h1 : z_I w w1 m cs1) (ha : (cs1.map Prod.fst).take m = is.map ad ++ L2) (hk : KDs ad t2 is cs1) (hb : ∀ i ∈ is, i < 71) (hl : ∀ i ∈ is, i ∉ z_lx) (hn : ∀ q ∈ L2, z_nf ad q) (he : ∀ q ∈ L2, ∃ e, w q = some e ∧ w1 q = some e) (hs : ∀ i, i < 71 → i ∉ is → t2.1 i = t.1 i) (ht : tOK t → tOK t2) (ht2 : t2.2 = t.2) : IW g ad t2 u w1 := by
  have hke := h1.ke ha
  have hsim : ∀ q e, z_nf ad q → w q = some e → w1 q = some e := fun q e hq hw => by
    by_cases hm : q ∈ L2
    · obtain ⟨e1, a1, a2⟩ := he q hm
      rw [hw] at a1
      cases a1
      exact a2
    · refine hke q e (fun h9 => ?_) hw
      rcases List.mem_append.mp h9 with h9 | h9
      · obtain ⟨j, hj, e9⟩ := List.mem_map.mp h9
        exact hq j (hb j hj) e9
      · exact hm h9
  exact h.gen0 h1 ha hk hb hl hn hs ht (fun L hL k hk9 => by rw [ht2]; exact (h.2.1.2.1 L hL k hk9).ke3 (fun q e h0 h2 _ => hsim q e h0 h2)) (fun q N f h0 h2 => hsim q _ h0 h2)
theorem IVf.nfr {ad : Nat → Nat} {t : zTT} {w : zW} (h : IVf ad t w) {q : Nat} (hq : w q = none) : z_nf ad q := fun i hi e => by
  obtain ⟨e0, he, -⟩ := h.2 i hi
  rw [e, hq] at he
  cases he
theorem IW.nel {g : zG} {ad : Nat → Nat} {t : zTT} {u : zNN} {w : zW} (h : IW g ad t u w) {q : Nat} (hq : w q = none) : ∀ L, L < 7 → ∀ k, k < u.1 L → ¬ u.2.2 L k = q := fun L hL k hk e => by
  obtain ⟨e0, he, -⟩ := (h.2.1.2.1 L hL k hk).tag
  rw [e, hq] at he
  cases he
theorem IW.rem {g : zG} {ad : Nat → Nat} {t : zTT} {u : zNN} {w w1 : zW} (h : IW g ad t u w) {L m i : Nat} (hL : L < 7) (hn : u.1 L = m + 1) (hi : i ≤ m) (e2 : z_L g w1 (ad (z_lx.getD L 0)) m (u.2.1 L) (z_del (u.2.2 L) i)) (e3 : z_ke (fun q => q = ad (z_lx.getD L 0) ∨ u.2.1 L = some q) w w1) : IW g ad (tls t L (z_dlV (t.2 L) i)) (u_set u L m (u.2.1 L) (z_del (u.2.2 L) i)) w1 := by
  refine h.list hL e2 (fun q hq => Or.inl hq) e3 (fun k hk => ?_) (fun j k hj hk e => ?_)
  · unfold z_del z_dlV
    by_cases q : k < i
    · rw [if_pos q, if_pos q]; exact h.2.1.2.1 L hL k (by omega)
    · rw [if_neg q, if_neg q]; exact h.2.1.2.1 L hL (k + 1) (by omega)
  · unfold z_del at e
    have hin := h.2.1.2.2.2 L hL
    by_cases qj : j < i
    · rw [if_pos qj] at e
      by_cases qk : k < i
      · rw [if_pos qk] at e; exact hin j k (by omega) (by omega) e
      · rw [if_neg qk] at e; have := hin j (k + 1) (by omega) (by omega) e; omega
    · rw [if_neg qj] at e
      by_cases qk : k < i
      · rw [if_pos qk] at e; have := hin (j + 1) k (by omega) (by omega) e; omega
      · rw [if_neg qk] at e; have := hin (j + 1) (k + 1) (by omega) (by omega) e; omega
theorem IW.app {g : zG} {ad : Nat → Nat} {t : zTT} {u : zNN} {w w1 : zW} (h : IW g ad t u w) {L v : Nat} {vv : zV} {bk2 : Option Nat} (hL : L < 7) (hv : EL ad L w v vv) (hfr : ∀ k, k < u.1 L → ¬ u.2.2 L k = v) (e2 : z_L g w1 (ad (z_lx.getD L 0)) (u.1 L + 1) bk2 (z_app (u.2.2 L) (u.1 L) v)) (hb : ∀ q, bk2 = some q → u.2.1 L = some q ∨ w q = none) (e3 : z_ke (fun q => q = ad (z_lx.getD L 0) ∨ u.2.1 L = some q) w w1) : IW g ad (tls t L (z_apV (t.2 L) (u.1 L) vv)) (u_set u L (u.1 L + 1) bk2 (z_app (u.2.2 L) (u.1 L) v)) w1 := by
  refine h.list hL e2 hb e3 (fun k hk => ?_) (fun j k hj hk e => ?_)
  · unfold z_app z_apV
    by_cases q : k = u.1 L
    · rw [if_pos q, if_pos q]; exact hv
    · rw [if_neg q, if_neg q]; exact h.2.1.2.1 L hL k (by omega)
  · unfold z_app at e
    by_cases qj : j = u.1 L
    · rw [if_pos qj] at e
      by_cases qk : k = u.1 L
      · omega
      · rw [if_neg qk] at e; exact absurd e.symm (hfr k (by omega))
    · rw [if_neg qj] at e
      by_cases qk : k = u.1 L
      · rw [if_pos qk] at e; exact absurd e (hfr j (by omega))
      · rw [if_neg qk] at e; exact h.2.1.2.2.2 L hL j k (by omega) (by omega) e
section
variable {g : zG} {M : zM} {Ψ : zO → zW → Prop} {w0 : zW} {n pc : Nat} {lv lv' : List (Nat × Value)} {st : List Value} {cs cs' : zC} {kc ks : Nat}
theorem y_fdiv {x y : UInt32} (hd : decode M.2.1 pc = .ok (.fdiv, 1)) (hne : vf_n32 (FP.fdiv x y)) (k : DU g M Ψ w0 n (pc + 1) lv (.float (FP.fdiv x y) :: st) cs kc ks) : DU g M Ψ w0 n pc lv (.float y :: .float x :: st) cs kc ks := fun w p l e R s m args below meth c A mc ms H locs cells slots ls ws I C T => lv_fdiv C.1.1 C.1.2.1 hd hne (k w p l e R s m args below meth c A mc ms H locs cells slots ls ws I C T)
theorem y_ddiv {x y : UInt64} (hd : decode M.2.1 pc = .ok (.ddiv, 1)) (hne : vf_n64 (FP.ddiv x y)) (k : DU g M Ψ w0 n (pc + 1) lv (.double (FP.ddiv x y) :: st) cs kc ks) : DU g M Ψ w0 n pc lv (.double y :: .double x :: st) cs kc ks := fun w p l e R s m args below meth c A mc ms H locs cells slots ls ws I C T => lv_ddiv C.1.1 C.1.2.1 hd hne (k w p l e R s m args below meth c A mc ms H locs cells slots ls ws I C T)
theorem y_f2d {x : UInt32} (hd : decode M.2.1 pc = .ok (.f2d, 1)) (hne : vf_n64 (FP.f2d x)) (k : DU g M Ψ w0 n (pc + 1) lv (.double (FP.f2d x) :: st) cs kc ks) : DU g M Ψ w0 n pc lv (.float x :: st) cs kc ks := fun w p l e R s m args below meth c A mc ms H locs cells slots ls ws I C T => lv_f2d C.1.1 C.1.2.1 hd hne (k w p l e R s m args below meth c A mc ms H locs cells slots ls ws I C T)
end
