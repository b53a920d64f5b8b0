theorem G_best {g : zG} {ad : Nat → Nat} {t0 : zTT} {u : zNN} {f : Nat → Int32} {p : Nat} {w : zW} {h : Int32} (hW : Wd g ad t0 u f p w) (hh : 1200 ≤ h ∧ h ≤ 1500) : zMB g M_Ip_bestFeeder [.ref (ad 0), .int h] w (fun o w1 => (o = .inr "java/util/NoSuchElementException" ∨ ∃ c, c < 108 ∧ o = .inl (some (.int (nI c))) ∧ f c = 46 ∧ shO (upd f c 114) h < shO f h) ∧ Wd g ad t0 u f p w1) 4 20 := by
  obtain ⟨t, hI, rfl, rfl, e3, e4⟩ := hW
  exact (Qy_Ip_bestFeederN hI h hh).mono (Nat.le_refl _) (Nat.le_refl _) (fun o w1 k => by
    obtain ⟨k1, l, k2, k3⟩ := k
    exact ⟨k1, Wd.z (t := t) k2 e3 e4 k3⟩)
theorem dR_n {v : Int32} (h : dR (.inr "java/util/NoSuchElementException") v) : v = -200005 := by
  rcases h with h | ⟨h, e⟩ | ⟨h, e⟩ | ⟨h, e⟩ | ⟨h, e⟩ | ⟨h, e⟩
  · cases h
  · exact absurd (Sum.inr.inj h) (by decide)
  · exact absurd (Sum.inr.inj h) (by decide)
  · exact absurd (Sum.inr.inj h) (by decide)
  · exact e
  · exact absurd (Sum.inr.inj h) (by decide)
theorem T_best {g : zG} {ad : Nat → Nat} {t0 : zTT} {u : zNN} {f : Nat → Int32} {p : Nat} {w : zW} {h : Int32} (hW : Wd g ad t0 u f p w) (hh : 1200 ≤ h ∧ h ≤ 1500) : zMB g M_Lw_ask [.ref (ad 0), .int 29, .int h, .int 0] w (fun o w1 => (∃ v : Int32, o = .inl (some (.int v)) ∧ (v = -200005 ∨ ∃ c, c < 108 ∧ v = nI c ∧ f c = 46 ∧ shO (upd f c 114) h < shO f h)) ∧ Wd g ad t0 u f p w1) 4 20 := by
  have hv : ∀ (v9 : Option Value) (w1 : zW), ((Sum.inl v9 : zO) = .inr "java/util/NoSuchElementException" ∨ ∃ c, c < 108 ∧ (Sum.inl v9 : zO) = .inl (some (.int (nI c))) ∧ f c = 46 ∧ shO (upd f c 114) h < shO f h) ∧ Wd g ad t0 u f p w1 → ∃ i : Int32, v9 = some (.int i) := fun v9 w1 k => by
    rcases k.1 with e | ⟨c, -, e, -⟩
    · cases e
    · exact ⟨_, Sum.inl.inj e⟩
  refine D_ask hW.ra 29 h 0 ((D_asked hW.ra 29 h 0 0 0 0 (by decide) (A_29 hW.ra h 0 0 0 (G_best hW hh) hv) hv (fun E w1 k => ?_)).mono (Nat.le_refl _) (Nat.le_refl _) (fun o w1 k => ?_)) (fun v9 w1 k => ?_)
  · rcases k.1 with e | ⟨c, -, e, -⟩
    · exact (Sum.inr.inj e) ▸ Or.inr (Or.inr (Or.inr (Or.inl rfl)))
    · cases e
  · obtain ⟨o2, v2, ⟨k1, k2⟩, kd, rfl⟩ := k
    rcases k1 with rfl | ⟨c, hc, rfl, k3, k4⟩
    · exact ⟨⟨v2, rfl, Or.inl (dR_n kd)⟩, k2⟩
    · exact ⟨⟨v2, rfl, Or.inr ⟨c, hc, dR_i kd, k3, k4⟩⟩, k2⟩
  · obtain ⟨⟨i, e, -⟩, -⟩ := k
    exact ⟨i, Sum.inl.inj e⟩
theorem sh_lt {P : Nat → Int32} {h : Int32} : shO P h < 2 ^ 31 := Nat.lt_of_le_of_lt (fa_cnt_le _ _) (by decide)
theorem nI_m1 {a : Nat} (h : 1 ≤ a) : nI a + (-1) = nI (a - 1) := (Int32.sub_eq_add_neg (nI a) 1).symm.trans (nI_sub1 h)
theorem fz_0 {ks : Nat → Int32} {i : Nat} (h : z_bi (frB ks i) = 0) : z_bi (frB ks (i + 1)) = 0 := by
  rw [frB_s]
  cases e : frB ks i with
  | true => rw [e] at h; exact absurd h (by decide)
  | false => rfl
theorem fz_b {ks : Nat → Int32} {i : Nat} {v : Int32} (e : ks i = v) (h : drB v = false) : z_bi (frB ks (i + 1)) = 0 := by
  rw [frB_s, e, h, Bool.and_false]
  rfl
theorem fz_g {ks : Nat → Int32} {i : Nat} {v : Int32} (h0 : ¬ z_bi (frB ks i) = 0) (e : ks i = v) (h1 : ¬ v = 46) (h2 : ¬ v = 107) : z_bi (frB ks (i + 1)) = 1 := by
  have hd : drB v = true := decide_eq_true ⟨h1, h2⟩
  rw [frB_s, e, hd, Bool.and_true]
  cases q : frB ks i with
  | true => rfl
  | false => rw [q] at h0; exact absurd rfl h0
def ksD (f : Nat → Int32) (p x : Nat) : Nat → Int32 := fun k => f ((p - 1 - k) * 12 + x)
def ksU (f : Nat → Int32) (p x : Nat) : Nat → Int32 := fun k => f ((p + k) * 12 + x)
theorem ksD_e {f : Nat → Int32} {p x i : Nat} : ksD f p x i = f (12 * (p - 1 - i) + x) := by unfold ksD; rw [Nat.mul_comm]
theorem ksU_e {f : Nat → Int32} {p x i : Nat} : ksU f p x i = f (12 * (p + i) + x) := by unfold ksU; rw [Nat.mul_comm]
theorem lwU_d {f : Nat → Int32} {p x y : Nat} (h : y < p) : lwU f p x y = (tmB (f (12 * y + x)) && !frB (ksD f p x) (p - 1 - y)) := by
  unfold lwU
  rw [if_pos h]
  rfl
theorem lwU_u {f : Nat → Int32} {p x y : Nat} (h : ¬ y < p) : lwU f p x y = (tmB (f (12 * y + x)) && !frB (ksU f p x) (y - p)) := by
  unfold lwU
  rw [if_neg h]
  rfl
theorem un_1 {f : Nat → Int32} {p x y a : Nat} {b : Bool} (hu : lwU f p x y = (tmB (f (12 * y + x)) && !b)) (hb : z_bi b = 0) (hm : ¬ z_bi (tmB (f (12 * y + x))) = 0) (ha : a = lwT f p x + fa_cnt (lwU f p x) y) : a + 1 = lwT f p x + fa_cnt (lwU f p x) (y + 1) := by
  have e : lwU f p x y = true := by
    rw [hu]
    cases b with
    | true => exact absurd hb (by decide)
    | false =>
      cases q : tmB (f (12 * y + x)) with
      | true => rfl
      | false => rw [q] at hm; exact absurd rfl hm
  rw [fa_cnt_yes e, ha]
  omega
theorem un_0 {f : Nat → Int32} {p x y a : Nat} {b : Bool} (hu : lwU f p x y = (tmB (f (12 * y + x)) && !b)) (hb : ¬ z_bi b = 0 ∨ z_bi (tmB (f (12 * y + x))) = 0) (ha : a = lwT f p x + fa_cnt (lwU f p x) y) : a = lwT f p x + fa_cnt (lwU f p x) (y + 1) := by
  have e : lwU f p x y = false := by
    rw [hu]
    cases b with
    | true => exact Bool.and_false _
    | false =>
      cases q : tmB (f (12 * y + x)) with
      | true => rw [q] at hb; exact absurd hb (by decide)
      | false => rfl
  rw [fa_cnt_no e, ha]
theorem co_lt {f : Nat → Int32} : coN f < 2 ^ 31 := Nat.lt_of_le_of_lt (rgS_le rfl 108) (by decide)
theorem tl1n9 {a : Nat} : nI a + (if (1 : Int32) = 0 then 0 else 1) = nI (a + 1) := by
  rw [if_neg (by decide)]
  exact nI_add _ 1
theorem tl0n9 {a : Nat} : nI a + (if (0 : Int32) = 0 then 0 else 1) = nI a := by
  rw [if_pos rfl]
  exact nI_add _ 0
abbrev M_Lw_isBest : zM := (⟨"IronpourLaw", "isBest", "(LIronpour;I)Z"⟩, method_20_code, 8, (Option.some FieldType.boolean), 14, 351, [])
theorem d_Lw_isBest_0 : decode method_20_code 0 = .ok (.aload_n 0, 1) := zo_42 (zd_b zq_method_20_code_0 0 rfl rfl rfl)
theorem d_Lw_isBest_1 : decode method_20_code 1 = .ok (.bipush 26, 2) := zo_16 (d := 26) (zd_b zq_method_20_code_0 1 rfl rfl rfl) (zd_b zq_method_20_code_0 2 rfl rfl rfl) (by decide +kernel)
theorem d_Lw_isBest_3 : decode method_20_code 3 = .ok (.iload_n 1, 1) := zo_27 (zd_b zq_method_20_code_0 3 rfl rfl rfl)
theorem d_Lw_isBest_4 : decode method_20_code 4 = .ok (.iconst 0, 1) := zo_3 (zd_b zq_method_20_code_0 4 rfl rfl rfl)
theorem d_Lw_isBest_5 : decode method_20_code 5 = .ok (.invokestatic 193, 3) := zo_184 (d := 0) (e := 193) (zd_b zq_method_20_code_0 5 rfl rfl rfl) (zd_b zq_method_20_code_0 6 rfl rfl rfl) (zd_b zq_method_20_code_0 7 rfl rfl rfl)
theorem ok_Lw_isBest_Lw_ask : z_ok M_Lw_isBest M_Lw_ask 4 := ⟨z_mj6 (i := 177) rfl (by decide +kernel), rfl, ⟨by decide +kernel, by decide +kernel, by decide +kernel⟩, ⟨by decide, by decide⟩, z_mj1 (i := 0) rfl (by decide +kernel), rfl⟩
theorem d_Lw_isBest_8 : decode method_20_code 8 = .ok (.istore_n 2, 1) := zo_61 (zd_b zq_method_20_code_0 8 rfl rfl rfl)
theorem d_Lw_isBest_9 : decode method_20_code 9 = .ok (.aload_n 0, 1) := zo_42 (zd_b zq_method_20_code_0 9 rfl rfl rfl)
theorem d_Lw_isBest_10 : decode method_20_code 10 = .ok (.bipush 29, 2) := zo_16 (d := 29) (zd_b zq_method_20_code_0 10 rfl rfl rfl) (zd_b zq_method_20_code_0 11 rfl rfl rfl) (by decide +kernel)
theorem d_Lw_isBest_12 : decode method_20_code 12 = .ok (.iload_n 1, 1) := zo_27 (zd_b zq_method_20_code_0 12 rfl rfl rfl)
theorem d_Lw_isBest_13 : decode method_20_code 13 = .ok (.iconst 0, 1) := zo_3 (zd_b zq_method_20_code_0 13 rfl rfl rfl)
theorem d_Lw_isBest_14 : decode method_20_code 14 = .ok (.invokestatic 193, 3) := zo_184 (d := 0) (e := 193) (zd_b zq_method_20_code_0 14 rfl rfl rfl) (zd_b zq_method_20_code_0 15 rfl rfl rfl) (zd_b zq_method_20_code_0 16 rfl rfl rfl)
theorem d_Lw_isBest_17 : decode method_20_code 17 = .ok (.istore_n 3, 1) := zo_62 (zd_b zq_method_20_code_0 17 rfl rfl rfl)
theorem d_Lw_isBest_18 : decode method_20_code 18 = .ok (.iload_n 3, 1) := zo_29 (zd_b zq_method_20_code_0 18 rfl rfl rfl)
theorem d_Lw_isBest_19 : decode method_20_code 19 = .ok (.ldc 171, 2) := zo_18 (d := 171) (zd_b zq_method_20_code_0 19 rfl rfl rfl) (zd_b zq_method_20_code_0 20 rfl rfl rfl)
theorem d_Lw_isBest_21 : decode method_20_code 21 = .ok (.if_icmp .ne 5, 3) := zo_160 (d := 0) (e := 5) (zd_b zq_method_20_code_0 21 rfl rfl rfl) (zd_b zq_method_20_code_0 22 rfl rfl rfl) (zd_b zq_method_20_code_0 23 rfl rfl rfl) (by decide +kernel)
theorem d_Lw_isBest_26 : decode method_20_code 26 = .ok (.iload_n 3, 1) := zo_29 (zd_b zq_method_20_code_0 26 rfl rfl rfl)
theorem d_Lw_isBest_27 : decode method_20_code 27 = .ok (.bipush 12, 2) := zo_16 (d := 12) (zd_b zq_method_20_code_0 27 rfl rfl rfl) (zd_b zq_method_20_code_0 28 rfl rfl rfl) (by decide +kernel)
theorem d_Lw_isBest_29 : decode method_20_code 29 = .ok (.irem, 1) := zo_112 (zd_b zq_method_20_code_0 29 rfl rfl rfl)
theorem d_Lw_isBest_30 : decode method_20_code 30 = .ok (.istore 4, 2) := zo_54 (d := 4) (zd_b zq_method_20_code_0 30 rfl rfl rfl) (zd_b zq_method_20_code_0 31 rfl rfl rfl)
theorem d_Lw_isBest_32 : decode method_20_code 32 = .ok (.iload_n 3, 1) := zo_29 (zd_b zq_method_20_code_1 0 rfl rfl rfl)
theorem d_Lw_isBest_33 : decode method_20_code 33 = .ok (.bipush 12, 2) := zo_16 (d := 12) (zd_b zq_method_20_code_1 1 rfl rfl rfl) (zd_b zq_method_20_code_1 2 rfl rfl rfl) (by decide +kernel)
theorem d_Lw_isBest_35 : decode method_20_code 35 = .ok (.idiv, 1) := zo_108 (zd_b zq_method_20_code_1 3 rfl rfl rfl)
theorem d_Lw_isBest_36 : decode method_20_code 36 = .ok (.istore 5, 2) := zo_54 (d := 5) (zd_b zq_method_20_code_1 4 rfl rfl rfl) (zd_b zq_method_20_code_1 5 rfl rfl rfl)
theorem d_Lw_isBest_38 : decode method_20_code 38 = .ok (.aload_n 0, 1) := zo_42 (zd_b zq_method_20_code_1 6 rfl rfl rfl)
theorem d_Lw_isBest_39 : decode method_20_code 39 = .ok (.iload 4, 2) := zo_21 (d := 4) (zd_b zq_method_20_code_1 7 rfl rfl rfl) (zd_b zq_method_20_code_1 8 rfl rfl rfl)
theorem d_Lw_isBest_41 : decode method_20_code 41 = .ok (.iload 5, 2) := zo_21 (d := 5) (zd_b zq_method_20_code_1 9 rfl rfl rfl) (zd_b zq_method_20_code_1 10 rfl rfl rfl)
theorem d_Lw_isBest_43 : decode method_20_code 43 = .ok (.invokestatic 197, 3) := zo_184 (d := 0) (e := 197) (zd_b zq_method_20_code_1 11 rfl rfl rfl) (zd_b zq_method_20_code_1 12 rfl rfl rfl) (zd_b zq_method_20_code_1 13 rfl rfl rfl)
theorem ok_Lw_isBest_Lw_at : z_ok M_Lw_isBest M_Lw_at 3 := ⟨z_mj6 (i := 174) rfl (by decide +kernel), rfl, ⟨by decide +kernel, by decide +kernel, by decide +kernel⟩, ⟨by decide, by decide⟩, z_mj1 (i := 0) rfl (by decide +kernel), rfl⟩
theorem d_Lw_isBest_46 : decode method_20_code 46 = .ok (.bipush 46, 2) := zo_16 (d := 46) (zd_b zq_method_20_code_1 14 rfl rfl rfl) (zd_b zq_method_20_code_1 15 rfl rfl rfl) (by decide +kernel)
theorem d_Lw_isBest_48 : decode method_20_code 48 = .ok (.if_icmp .ne 36, 3) := zo_160 (d := 0) (e := 36) (zd_b zq_method_20_code_1 16 rfl rfl rfl) (zd_b zq_method_20_code_1 17 rfl rfl rfl) (zd_b zq_method_20_code_1 18 rfl rfl rfl) (by decide +kernel)
theorem d_Lw_isBest_51 : decode method_20_code 51 = .ok (.aload_n 0, 1) := zo_42 (zd_b zq_method_20_code_1 19 rfl rfl rfl)
theorem d_Lw_isBest_52 : decode method_20_code 52 = .ok (.bipush 26, 2) := zo_16 (d := 26) (zd_b zq_method_20_code_1 20 rfl rfl rfl) (zd_b zq_method_20_code_1 21 rfl rfl rfl) (by decide +kernel)
theorem d_Lw_isBest_54 : decode method_20_code 54 = .ok (.iload_n 1, 1) := zo_27 (zd_b zq_method_20_code_1 22 rfl rfl rfl)
theorem d_Lw_isBest_55 : decode method_20_code 55 = .ok (.iconst 0, 1) := zo_3 (zd_b zq_method_20_code_1 23 rfl rfl rfl)
theorem d_Lw_isBest_56 : decode method_20_code 56 = .ok (.invokestatic 193, 3) := zo_184 (d := 0) (e := 193) (zd_b zq_method_20_code_1 24 rfl rfl rfl) (zd_b zq_method_20_code_1 25 rfl rfl rfl) (zd_b zq_method_20_code_1 26 rfl rfl rfl)
theorem d_Lw_isBest_59 : decode method_20_code 59 = .ok (.iload_n 2, 1) := zo_28 (zd_b zq_method_20_code_1 27 rfl rfl rfl)
theorem d_Lw_isBest_60 : decode method_20_code 60 = .ok (.if_icmp .ne 24, 3) := zo_160 (d := 0) (e := 24) (zd_b zq_method_20_code_1 28 rfl rfl rfl) (zd_b zq_method_20_code_1 29 rfl rfl rfl) (zd_b zq_method_20_code_1 30 rfl rfl rfl) (by decide +kernel)
theorem d_Lw_isBest_63 : decode method_20_code 63 = .ok (.aload_n 0, 1) := zo_42 (zd_b zq_method_20_code_1 31 rfl rfl rfl)
theorem d_Lw_isBest_64 : decode method_20_code 64 = .ok (.iconst 0, 1) := zo_3 (zd_b zq_method_20_code_2 0 rfl rfl rfl)
theorem d_Lw_isBest_65 : decode method_20_code 65 = .ok (.bipush 114, 2) := zo_16 (d := 114) (zd_b zq_method_20_code_2 1 rfl rfl rfl) (zd_b zq_method_20_code_2 2 rfl rfl rfl) (by decide +kernel)
theorem d_Lw_isBest_67 : decode method_20_code 67 = .ok (.iload 4, 2) := zo_21 (d := 4) (zd_b zq_method_20_code_2 3 rfl rfl rfl) (zd_b zq_method_20_code_2 4 rfl rfl rfl)
theorem d_Lw_isBest_69 : decode method_20_code 69 = .ok (.iload 5, 2) := zo_21 (d := 5) (zd_b zq_method_20_code_2 5 rfl rfl rfl) (zd_b zq_method_20_code_2 6 rfl rfl rfl)
theorem d_Lw_isBest_71 : decode method_20_code 71 = .ok (.iconst 1, 1) := zo_4 (zd_b zq_method_20_code_2 7 rfl rfl rfl)
theorem d_Lw_isBest_72 : decode method_20_code 72 = .ok (.iconst 1, 1) := zo_4 (zd_b zq_method_20_code_2 8 rfl rfl rfl)
theorem d_Lw_isBest_73 : decode method_20_code 73 = .ok (.invokestatic 175, 3) := zo_184 (d := 0) (e := 175) (zd_b zq_method_20_code_2 9 rfl rfl rfl) (zd_b zq_method_20_code_2 10 rfl rfl rfl) (zd_b zq_method_20_code_2 11 rfl rfl rfl)
theorem ok_Lw_isBest_Lw_deed : z_okX M_Lw_isBest M_Lw_deed 7 := ⟨z_mj2 (i := 227) rfl (by decide +kernel), by decide, ⟨by decide +kernel, by decide +kernel, by decide +kernel⟩, ⟨by decide, by decide⟩, z_mj1 (i := 0) rfl (by decide +kernel), rfl⟩
theorem d_Lw_isBest_76 : decode method_20_code 76 = .ok (.iconst 1, 1) := zo_4 (zd_b zq_method_20_code_2 12 rfl rfl rfl)
theorem d_Lw_isBest_77 : decode method_20_code 77 = .ok (.if_icmp .ne 7, 3) := zo_160 (d := 0) (e := 7) (zd_b zq_method_20_code_2 13 rfl rfl rfl) (zd_b zq_method_20_code_2 14 rfl rfl rfl) (zd_b zq_method_20_code_2 15 rfl rfl rfl) (by decide +kernel)
theorem d_Lw_isBest_80 : decode method_20_code 80 = .ok (.iconst 1, 1) := zo_4 (zd_b zq_method_20_code_2 16 rfl rfl rfl)
theorem d_Lw_isBest_81 : decode method_20_code 81 = .ok (.goto 4, 3) := zo_167 (d := 0) (e := 4) (zd_b zq_method_20_code_2 17 rfl rfl rfl) (zd_b zq_method_20_code_2 18 rfl rfl rfl) (zd_b zq_method_20_code_2 19 rfl rfl rfl) (by decide +kernel)
theorem d_Lw_isBest_85 : decode method_20_code 85 = .ok (.istore 6, 2) := zo_54 (d := 6) (zd_b zq_method_20_code_2 21 rfl rfl rfl) (zd_b zq_method_20_code_2 22 rfl rfl rfl)
theorem d_Lw_isBest_87 : decode method_20_code 87 = .ok (.aload_n 0, 1) := zo_42 (zd_b zq_method_20_code_2 23 rfl rfl rfl)
theorem d_Lw_isBest_88 : decode method_20_code 88 = .ok (.bipush 26, 2) := zo_16 (d := 26) (zd_b zq_method_20_code_2 24 rfl rfl rfl) (zd_b zq_method_20_code_2 25 rfl rfl rfl) (by decide +kernel)
theorem d_Lw_isBest_90 : decode method_20_code 90 = .ok (.iload_n 1, 1) := zo_27 (zd_b zq_method_20_code_2 26 rfl rfl rfl)
theorem d_Lw_isBest_91 : decode method_20_code 91 = .ok (.iconst 0, 1) := zo_3 (zd_b zq_method_20_code_2 27 rfl rfl rfl)
theorem d_Lw_isBest_92 : decode method_20_code 92 = .ok (.invokestatic 193, 3) := zo_184 (d := 0) (e := 193) (zd_b zq_method_20_code_2 28 rfl rfl rfl) (zd_b zq_method_20_code_2 29 rfl rfl rfl) (zd_b zq_method_20_code_2 30 rfl rfl rfl)
theorem d_Lw_isBest_95 : decode method_20_code 95 = .ok (.istore 7, 2) := zo_54 (d := 7) (zd_b zq_method_20_code_2 31 rfl rfl rfl) (zd_b zq_method_20_code_3 0 rfl rfl rfl)
theorem d_Lw_isBest_97 : decode method_20_code 97 = .ok (.aload_n 0, 1) := zo_42 (zd_b zq_method_20_code_3 1 rfl rfl rfl)
theorem d_Lw_isBest_98 : decode method_20_code 98 = .ok (.iconst 0, 1) := zo_3 (zd_b zq_method_20_code_3 2 rfl rfl rfl)
theorem d_Lw_isBest_99 : decode method_20_code 99 = .ok (.bipush 46, 2) := zo_16 (d := 46) (zd_b zq_method_20_code_3 3 rfl rfl rfl) (zd_b zq_method_20_code_3 4 rfl rfl rfl) (by decide +kernel)
theorem d_Lw_isBest_101 : decode method_20_code 101 = .ok (.iload 4, 2) := zo_21 (d := 4) (zd_b zq_method_20_code_3 5 rfl rfl rfl) (zd_b zq_method_20_code_3 6 rfl rfl rfl)
theorem d_Lw_isBest_103 : decode method_20_code 103 = .ok (.iload 5, 2) := zo_21 (d := 5) (zd_b zq_method_20_code_3 7 rfl rfl rfl) (zd_b zq_method_20_code_3 8 rfl rfl rfl)
theorem d_Lw_isBest_105 : decode method_20_code 105 = .ok (.iconst 1, 1) := zo_4 (zd_b zq_method_20_code_3 9 rfl rfl rfl)
theorem d_Lw_isBest_106 : decode method_20_code 106 = .ok (.iconst 1, 1) := zo_4 (zd_b zq_method_20_code_3 10 rfl rfl rfl)
theorem d_Lw_isBest_107 : decode method_20_code 107 = .ok (.invokestatic 175, 3) := zo_184 (d := 0) (e := 175) (zd_b zq_method_20_code_3 11 rfl rfl rfl) (zd_b zq_method_20_code_3 12 rfl rfl rfl) (zd_b zq_method_20_code_3 13 rfl rfl rfl)
theorem d_Lw_isBest_110 : decode method_20_code 110 = .ok (.pop, 1) := zo_87 (zd_b zq_method_20_code_3 14 rfl rfl rfl)
theorem d_Lw_isBest_111 : decode method_20_code 111 = .ok (.iload 6, 2) := zo_21 (d := 6) (zd_b zq_method_20_code_3 15 rfl rfl rfl) (zd_b zq_method_20_code_3 16 rfl rfl rfl)
theorem d_Lw_isBest_113 : decode method_20_code 113 = .ok (.ifCond .eq 25, 3) := zo_153 (d := 0) (e := 25) (zd_b zq_method_20_code_3 17 rfl rfl rfl) (zd_b zq_method_20_code_3 18 rfl rfl rfl) (zd_b zq_method_20_code_3 19 rfl rfl rfl) (by decide +kernel)
theorem d_Lw_isBest_116 : decode method_20_code 116 = .ok (.iload 7, 2) := zo_21 (d := 7) (zd_b zq_method_20_code_3 20 rfl rfl rfl) (zd_b zq_method_20_code_3 21 rfl rfl rfl)
theorem d_Lw_isBest_118 : decode method_20_code 118 = .ok (.iload_n 2, 1) := zo_28 (zd_b zq_method_20_code_3 22 rfl rfl rfl)
theorem d_Lw_isBest_119 : decode method_20_code 119 = .ok (.if_icmp .ge 19, 3) := zo_162 (d := 0) (e := 19) (zd_b zq_method_20_code_3 23 rfl rfl rfl) (zd_b zq_method_20_code_3 24 rfl rfl rfl) (zd_b zq_method_20_code_3 25 rfl rfl rfl) (by decide +kernel)
theorem d_Lw_isBest_122 : decode method_20_code 122 = .ok (.aload_n 0, 1) := zo_42 (zd_b zq_method_20_code_3 26 rfl rfl rfl)
theorem d_Lw_isBest_123 : decode method_20_code 123 = .ok (.bipush 26, 2) := zo_16 (d := 26) (zd_b zq_method_20_code_3 27 rfl rfl rfl) (zd_b zq_method_20_code_3 28 rfl rfl rfl) (by decide +kernel)
theorem d_Lw_isBest_125 : decode method_20_code 125 = .ok (.iload_n 1, 1) := zo_27 (zd_b zq_method_20_code_3 29 rfl rfl rfl)
theorem d_Lw_isBest_126 : decode method_20_code 126 = .ok (.iconst 0, 1) := zo_3 (zd_b zq_method_20_code_3 30 rfl rfl rfl)
theorem d_Lw_isBest_127 : decode method_20_code 127 = .ok (.invokestatic 193, 3) := zo_184 (d := 0) (e := 193) (zd_b zq_method_20_code_3 31 rfl rfl rfl) (zd_b zq_method_20_code_4 0 rfl rfl rfl) (zd_b zq_method_20_code_4 1 rfl rfl rfl)
theorem d_Lw_isBest_130 : decode method_20_code 130 = .ok (.iload_n 2, 1) := zo_28 (zd_b zq_method_20_code_4 2 rfl rfl rfl)
theorem d_Lw_isBest_131 : decode method_20_code 131 = .ok (.if_icmp .ne 7, 3) := zo_160 (d := 0) (e := 7) (zd_b zq_method_20_code_4 3 rfl rfl rfl) (zd_b zq_method_20_code_4 4 rfl rfl rfl) (zd_b zq_method_20_code_4 5 rfl rfl rfl) (by decide +kernel)
theorem d_Lw_isBest_134 : decode method_20_code 134 = .ok (.iconst 1, 1) := zo_4 (zd_b zq_method_20_code_4 6 rfl rfl rfl)
theorem d_Lw_isBest_135 : decode method_20_code 135 = .ok (.goto 4, 3) := zo_167 (d := 0) (e := 4) (zd_b zq_method_20_code_4 7 rfl rfl rfl) (zd_b zq_method_20_code_4 8 rfl rfl rfl) (zd_b zq_method_20_code_4 9 rfl rfl rfl) (by decide +kernel)
theorem d_Lw_isBest_139 : decode method_20_code 139 = .ok (.ireturn, 1) := zo_172 (zd_b zq_method_20_code_4 11 rfl rfl rfl)
theorem d_Lw_isBest_24 : decode method_20_code 24 = .ok (.iconst 1, 1) := zo_4 (zd_b zq_method_20_code_0 24 rfl rfl rfl)
theorem d_Lw_isBest_25 : decode method_20_code 25 = .ok (.ireturn, 1) := zo_172 (zd_b zq_method_20_code_0 25 rfl rfl rfl)
set_option maxHeartbeats 4000000 in
set_option maxRecDepth 100000 in
theorem Z_isBest {g : zG} {ad : Nat → Nat} {t0 : zTT} {u : zNN} {f : Nat → Int32} {p : Nat} {w : zW} (hW : Wd g ad t0 u f p w) {h : Int32} (hh : 1250 ≤ h ∧ h < 1450) : zMB g M_Lw_isBest [.ref (ad 0), .int h] w (fun o w1 => o = .inl (some (.int 1)) ∧ Wd g ad t0 u f p w1) 20 100 := by
  refine y_of (by decide) rfl (Nat.le_of_ble_eq_true rfl) (y_base (cs := []) (z_I.nil w) ?_)
  refine y_lvE (lv2 := [(0, .ref (ad 0)), (1, .int h)]) rfl ?_
  refine y_aload_n d_Lw_isBest_0 rfl 0 rfl ?_
  refine y_bipush d_Lw_isBest_1 (v := 26) (by decide) ?_
  refine y_iload_n d_Lw_isBest_3 rfl 1 rfl ?_
  refine y_iconst d_Lw_isBest_4 (v := 0) (by decide) ?_
  refine yw_callS (As := [.ref (ad 0), .int 26, .int h, .int 0]) (rest := []) ln_Lw_193 w_st_Lw_ask ok_Lw_isBest_Lw_ask d_Lw_isBest_5 (fun wA hA => T_shrunk (hW.e (z_I.same (z_I.nil _) hA)) (hh_w hh)) rfl rfl (Nat.le_of_ble_eq_true rfl) (by omega) (by omega) (fun wA5 hA5 E wB5 hx => ?_) (fun wA5 hA5 v wB5 hx => ?_)
  · obtain ⟨e9, -⟩ := hx
    cases e9
  · obtain ⟨e9, hW2, -⟩ := hx
    cases e9
    refine yw_st (st2 := [.int (nI (shO f h))]) rfl ?_
    refine y_base (cs := []) (z_I.nil _) ?_
    refine y_istore_n (lv' := [(2, .int (nI (shO f h))), (0, .ref (ad 0)), (1, .int h)]) d_Lw_isBest_8 rfl (by decide) rfl ?_
    refine y_aload_n d_Lw_isBest_9 rfl 1 rfl ?_
    refine y_bipush d_Lw_isBest_10 (v := 29) (by decide) ?_
    refine y_iload_n d_Lw_isBest_12 rfl 2 rfl ?_
    refine y_iconst d_Lw_isBest_13 (v := 0) (by decide) ?_
    refine yw_callS (As := [.ref (ad 0), .int 29, .int h, .int 0]) (rest := []) ln_Lw_193 w_st_Lw_ask ok_Lw_isBest_Lw_ask d_Lw_isBest_14 (fun wA hA => T_best (hW2.e (z_I.same (z_I.nil _) hA)) (hh_w hh)) rfl rfl (Nat.le_of_ble_eq_true rfl) (by omega) (by omega) (fun wA14 hA14 E wB14 hx => ?_) (fun wA14 hA14 v wB14 hx => ?_)
    · obtain ⟨⟨v9, e9, -⟩, -⟩ := hx
      cases e9
    · obtain ⟨⟨v9, e9, hv9⟩, hW3⟩ := hx
      cases e9
      refine yw_st (st2 := [.int v9]) rfl ?_
      refine y_base (cs := []) (z_I.nil _) ?_
      refine y_istore_n (lv' := [(3, .int v9), (2, .int (nI (shO f h))), (0, .ref (ad 0)), (1, .int h)]) d_Lw_isBest_17 rfl (by decide) rfl ?_
      refine y_iload_n d_Lw_isBest_18 rfl 0 rfl ?_
      refine y_ldc ct_Lw_171 d_Lw_isBest_19 ?_
      refine y_icmp_ne (tgt := 26) d_Lw_isBest_21 (by decide) (fun c_21 => ?_) (fun c_21 => ?_)
      · obtain ⟨c, hc, rfl, h46, hlt⟩ := hv9.resolve_left c_21
        refine y_iload_n d_Lw_isBest_26 rfl 0 rfl ?_
        refine y_bipush d_Lw_isBest_27 (v := 12) (by decide) ?_
        refine y_irem d_Lw_isBest_29 (v := nI (c % 12)) (by decide) (nI_mod12 (by omega)) ?_
        refine y_istore (lv' := [(4, .int (nI (c % 12))), (3, .int (nI c)), (2, .int (nI (shO f h))), (0, .ref (ad 0)), (1, .int h)]) d_Lw_isBest_30 (by decide) rfl ?_
        refine y_iload_n d_Lw_isBest_32 rfl 1 rfl ?_
        refine y_bipush d_Lw_isBest_33 (v := 12) (by decide) ?_
        refine y_idiv d_Lw_isBest_35 (v := nI (c / 12)) (by decide) (nI_div12 (by omega)) ?_
        refine y_istore (lv' := [(5, .int (nI (c / 12))), (4, .int (nI (c % 12))), (3, .int (nI c)), (2, .int (nI (shO f h))), (0, .ref (ad 0)), (1, .int h)]) d_Lw_isBest_36 (by decide) rfl ?_
        refine y_aload_n d_Lw_isBest_38 rfl 4 rfl ?_
        refine y_iload d_Lw_isBest_39 1 rfl ?_
        refine y_iload d_Lw_isBest_41 0 rfl ?_
        refine yw_callS (As := [.ref (ad 0), .int (nI (c % 12)), .int (nI (c / 12))]) (rest := []) ln_Lw_197 w_st_Lw_at ok_Lw_isBest_Lw_at d_Lw_isBest_43 (fun wA hA => T_at (x := c % 12) (y := c / 12) (hW3.e (z_I.same (z_I.nil _) hA)) (Nat.mod_lt _ (by decide)) (by omega)) rfl rfl (Nat.le_of_ble_eq_true rfl) (by omega) (by omega) (fun wA43 hA43 E wB43 hx => ?_) (fun wA43 hA43 v wB43 hx => ?_)
        · exact absurd hx.1 (by simp)
        · obtain ⟨e1, e2⟩ := hx
          cases e1
          refine yw_st (st2 := [.int (f (12 * (c / 12) + c % 12))]) rfl ?_
          subst e2
          refine y_go hA43 ?_
          refine y_st (st2 := [.int 46]) (by rw [Nat.div_add_mod, h46]) ?_
          refine y_bipush d_Lw_isBest_46 (v := 46) (by decide) ?_
          refine y_icmp_ne (tgt := 84) d_Lw_isBest_48 (by decide) (fun c_48 => ?_) (fun c_48 => ?_)
          · exact absurd c_48 (by decide)
          · refine y_aload_n d_Lw_isBest_51 rfl 4 rfl ?_
            refine y_bipush d_Lw_isBest_52 (v := 26) (by decide) ?_
            refine y_iload_n d_Lw_isBest_54 rfl 5 rfl ?_
            refine y_iconst d_Lw_isBest_55 (v := 0) (by decide) ?_
            refine yw_callS (As := [.ref (ad 0), .int 26, .int h, .int 0]) (rest := []) ln_Lw_193 w_st_Lw_ask ok_Lw_isBest_Lw_ask d_Lw_isBest_56 (fun wA hA => T_shrunk (hW3.e (z_I.same (z_I.nil _) hA)) (hh_w hh)) rfl rfl (Nat.le_of_ble_eq_true rfl) (by omega) (by omega) (fun wA56 hA56 E wB56 hx => ?_) (fun wA56 hA56 v wB56 hx => ?_)
            · obtain ⟨e9, -⟩ := hx
              cases e9
            · obtain ⟨e9, hW4, -⟩ := hx
              cases e9
              refine yw_st (st2 := [.int (nI (shO f h))]) rfl ?_
              refine y_base (cs := []) (z_I.nil _) ?_
              refine y_iload_n d_Lw_isBest_59 rfl 3 rfl ?_
              refine y_icmp_ne (tgt := 84) d_Lw_isBest_60 (by decide) (fun c_60 => ?_) (fun c_60 => ?_)
              · exact absurd rfl c_60
              · refine y_aload_n d_Lw_isBest_63 rfl 4 rfl ?_
                refine y_iconst d_Lw_isBest_64 (v := 0) (by decide) ?_
                refine y_bipush d_Lw_isBest_65 (v := 114) (by decide) ?_
                refine y_iload d_Lw_isBest_67 1 rfl ?_
                refine y_iload d_Lw_isBest_69 0 rfl ?_
                refine y_iconst d_Lw_isBest_71 (v := 1) (by decide) ?_
                refine y_iconst d_Lw_isBest_72 (v := 1) (by decide) ?_
                refine yw_callSX (As := [.ref (ad 0), .int 0, .int 114, .int (nI (c % 12)), .int (nI (c / 12)), .int 1, .int 1]) (rest := []) ln_Lw_175 w_st_Lw_deed ok_Lw_isBest_Lw_deed d_Lw_isBest_73 (fun wA hA => T_draw1 (k := 114) (x := c % 12) (y := c / 12)  (hW4.e (z_I.same (z_I.nil _) hA)) (by unfold z_kind; decide) (by decide) (Nat.mod_lt _ (by decide)) (by omega) (by rw [Nat.div_add_mod, h46]; decide)) rfl rfl (Nat.le_of_ble_eq_true rfl) (by omega) (by omega) (fun wA73 hA73 E wB73 hx => ?_) (fun wA73 hA73 v wB73 hx => ?_)
                · obtain ⟨e9, -⟩ := hx
                  cases e9
                · obtain ⟨e9, hW5⟩ := hx
                  cases e9
                  rw [Nat.div_add_mod] at hW5
                  refine yw_st (st2 := [.int 1]) rfl ?_
                  refine y_base (cs := []) (z_I.nil _) ?_
                  refine y_iconst d_Lw_isBest_76 (v := 1) (by decide) ?_
                  refine y_icmp_ne (tgt := 84) d_Lw_isBest_77 (by decide) (fun c_77 => ?_) (fun c_77 => ?_)
                  · exact absurd c_77 (by decide)
                  · refine y_iconst d_Lw_isBest_80 (v := 1) (by decide) ?_
                    refine y_goto (tgt := 85) d_Lw_isBest_81 (by decide) ?_
                    refine y_istore (lv' := [(6, .int 1), (5, .int (nI (c / 12))), (4, .int (nI (c % 12))), (3, .int (nI c)), (2, .int (nI (shO f h))), (0, .ref (ad 0)), (1, .int h)]) d_Lw_isBest_85 (by decide) rfl ?_
                    refine y_aload_n d_Lw_isBest_87 rfl 5 rfl ?_
                    refine y_bipush d_Lw_isBest_88 (v := 26) (by decide) ?_
                    refine y_iload_n d_Lw_isBest_90 rfl 6 rfl ?_
                    refine y_iconst d_Lw_isBest_91 (v := 0) (by decide) ?_
                    refine yw_callS (As := [.ref (ad 0), .int 26, .int h, .int 0]) (rest := []) ln_Lw_193 w_st_Lw_ask ok_Lw_isBest_Lw_ask d_Lw_isBest_92 (fun wA hA => T_shrunk (hW5.e (z_I.same (z_I.nil _) hA)) (hh_w hh)) rfl rfl (Nat.le_of_ble_eq_true rfl) (by omega) (by omega) (fun wA92 hA92 E wB92 hx => ?_) (fun wA92 hA92 v wB92 hx => ?_)
                    · obtain ⟨e9, -⟩ := hx
                      cases e9
                    · obtain ⟨e9, hW6, -⟩ := hx
                      cases e9
                      refine yw_st (st2 := [.int (nI (shO (upd f c 114) h))]) rfl ?_
                      refine y_base (cs := []) (z_I.nil _) ?_
                      refine y_istore (lv' := [(7, .int (nI (shO (upd f c 114) h))), (6, .int 1), (5, .int (nI (c / 12))), (4, .int (nI (c % 12))), (3, .int (nI c)), (2, .int (nI (shO f h))), (0, .ref (ad 0)), (1, .int h)]) d_Lw_isBest_95 (by decide) rfl ?_
                      refine y_aload_n d_Lw_isBest_97 rfl 6 rfl ?_
                      refine y_iconst d_Lw_isBest_98 (v := 0) (by decide) ?_
                      refine y_bipush d_Lw_isBest_99 (v := 46) (by decide) ?_
                      refine y_iload d_Lw_isBest_101 3 rfl ?_
                      refine y_iload d_Lw_isBest_103 2 rfl ?_
                      refine y_iconst d_Lw_isBest_105 (v := 1) (by decide) ?_
                      refine y_iconst d_Lw_isBest_106 (v := 1) (by decide) ?_
                      refine yw_callSX (As := [.ref (ad 0), .int 0, .int 46, .int (nI (c % 12)), .int (nI (c / 12)), .int 1, .int 1]) (rest := []) ln_Lw_175 w_st_Lw_deed ok_Lw_isBest_Lw_deed d_Lw_isBest_107 (fun wA hA => T_draw1 (k := 46) (x := c % 12) (y := c / 12)  (hW6.e (z_I.same (z_I.nil _) hA)) (by unfold z_kind; decide) (by decide) (Nat.mod_lt _ (by decide)) (by omega) (by rw [Nat.div_add_mod, upd_at]; decide)) rfl rfl (Nat.le_of_ble_eq_true rfl) (by omega) (by omega) (fun wA107 hA107 E wB107 hx => ?_) (fun wA107 hA107 v wB107 hx => ?_)
                      · obtain ⟨e9, -⟩ := hx
                        cases e9
                      · obtain ⟨e9, hW7⟩ := hx
                        cases e9
                        rw [Nat.div_add_mod, fa_upd_twice, fa_upd_same h46] at hW7
                        refine yw_st (st2 := [.int 1]) rfl ?_
                        refine y_base (cs := []) (z_I.nil _) ?_
                        refine y_pop d_Lw_isBest_110 rfl ?_
                        refine y_iload d_Lw_isBest_111 1 rfl ?_
                        refine y_if_eq (tgt := 138) d_Lw_isBest_113 (by decide) (fun c_113 => ?_) (fun c_113 => ?_)
                        · exact absurd c_113 (by decide)
                        · refine y_iload d_Lw_isBest_116 0 rfl ?_
                          refine y_iload_n d_Lw_isBest_118 rfl 5 rfl ?_
                          refine y_icmp_ge (tgt := 138) d_Lw_isBest_119 (by decide) (fun c_119 => ?_) (fun c_119 => ?_)
                          · exact absurd (z_le (a := shO f h) (b := shO (upd f c 114) h) sh_lt sh_lt c_119) (by omega)
                          · refine y_aload_n d_Lw_isBest_122 rfl 6 rfl ?_
                            refine y_bipush d_Lw_isBest_123 (v := 26) (by decide) ?_
                            refine y_iload_n d_Lw_isBest_125 rfl 7 rfl ?_
                            refine y_iconst d_Lw_isBest_126 (v := 0) (by decide) ?_
                            refine yw_callS (As := [.ref (ad 0), .int 26, .int h, .int 0]) (rest := []) ln_Lw_193 w_st_Lw_ask ok_Lw_isBest_Lw_ask d_Lw_isBest_127 (fun wA hA => T_shrunk (hW7.e (z_I.same (z_I.nil _) hA)) (hh_w hh)) rfl rfl (Nat.le_of_ble_eq_true rfl) (by omega) (by omega) (fun wA127 hA127 E wB127 hx => ?_) (fun wA127 hA127 v wB127 hx => ?_)
                            · obtain ⟨e9, -⟩ := hx
                              cases e9
                            · obtain ⟨e9, hW8, -⟩ := hx
                              cases e9
                              refine yw_st (st2 := [.int (nI (shO f h))]) rfl ?_
                              refine y_base (cs := []) (z_I.nil _) ?_
                              refine y_iload_n d_Lw_isBest_130 rfl 5 rfl ?_
                              refine y_icmp_ne (tgt := 138) d_Lw_isBest_131 (by decide) (fun c_131 => ?_) (fun c_131 => ?_)
                              · exact absurd rfl c_131
                              · refine y_iconst d_Lw_isBest_134 (v := 1) (by decide) ?_
                                refine y_goto (tgt := 139) d_Lw_isBest_135 (by decide) ?_
                                refine y_iret d_Lw_isBest_139 rfl rfl ?_
                                exact fun w1 k1 => ⟨rfl, hW8.e (z_I.same (z_I.nil _) k1)⟩
      · refine y_iconst d_Lw_isBest_24 (v := 1) (by decide) ?_
        refine y_iret d_Lw_isBest_25 rfl rfl ?_
        exact fun w1 k1 => ⟨rfl, hW3.e (z_I.same (z_I.nil _) k1)⟩
abbrev M_Lw_isUndercut : zM := (⟨"IronpourLaw", "isUndercut", "(LIronpour;I)Z"⟩, method_21_code, 7, (Option.some FieldType.boolean), 14, 351, [])
theorem d_Lw_isUndercut_38 : decode method_21_code 38 = .ok (.iload 6, 2) := zo_21 (d := 6) (zd_b zq_method_21_code_1 6 rfl rfl rfl) (zd_b zq_method_21_code_1 7 rfl rfl rfl)
theorem d_Lw_isUndercut_40 : decode method_21_code 40 = .ok (.iload 4, 2) := zo_21 (d := 4) (zd_b zq_method_21_code_1 8 rfl rfl rfl) (zd_b zq_method_21_code_1 9 rfl rfl rfl)
theorem d_Lw_isUndercut_42 : decode method_21_code 42 = .ok (.if_icmp .eq 58, 3) := zo_159 (d := 0) (e := 58) (zd_b zq_method_21_code_1 10 rfl rfl rfl) (zd_b zq_method_21_code_1 11 rfl rfl rfl) (zd_b zq_method_21_code_1 12 rfl rfl rfl) (by decide +kernel)
theorem d_Lw_isUndercut_45 : decode method_21_code 45 = .ok (.iload 5, 2) := zo_21 (d := 5) (zd_b zq_method_21_code_1 13 rfl rfl rfl) (zd_b zq_method_21_code_1 14 rfl rfl rfl)
theorem d_Lw_isUndercut_47 : decode method_21_code 47 = .ok (.ifCond .eq 31, 3) := zo_153 (d := 0) (e := 31) (zd_b zq_method_21_code_1 15 rfl rfl rfl) (zd_b zq_method_21_code_1 16 rfl rfl rfl) (zd_b zq_method_21_code_1 17 rfl rfl rfl) (by decide +kernel)
theorem d_Lw_isUndercut_78 : decode method_21_code 78 = .ok (.iconst 0, 1) := zo_3 (zd_b zq_method_21_code_2 14 rfl rfl rfl)
theorem d_Lw_isUndercut_79 : decode method_21_code 79 = .ok (.istore 5, 2) := zo_54 (d := 5) (zd_b zq_method_21_code_2 15 rfl rfl rfl) (zd_b zq_method_21_code_2 16 rfl rfl rfl)
theorem d_Lw_isUndercut_81 : decode method_21_code 81 = .ok (.iload 6, 2) := zo_21 (d := 6) (zd_b zq_method_21_code_2 17 rfl rfl rfl) (zd_b zq_method_21_code_2 18 rfl rfl rfl)
theorem d_Lw_isUndercut_83 : decode method_21_code 83 = .ok (.iload 4, 2) := zo_21 (d := 4) (zd_b zq_method_21_code_2 19 rfl rfl rfl) (zd_b zq_method_21_code_2 20 rfl rfl rfl)
theorem d_Lw_isUndercut_85 : decode method_21_code 85 = .ok (.iload_n 1, 1) := zo_27 (zd_b zq_method_21_code_2 21 rfl rfl rfl)
theorem d_Lw_isUndercut_86 : decode method_21_code 86 = .ok (.if_icmp .ge 7, 3) := zo_162 (d := 0) (e := 7) (zd_b zq_method_21_code_2 22 rfl rfl rfl) (zd_b zq_method_21_code_2 23 rfl rfl rfl) (zd_b zq_method_21_code_2 24 rfl rfl rfl) (by decide +kernel)
theorem d_Lw_isUndercut_89 : decode method_21_code 89 = .ok (.iconst (-1), 1) := zo_2 (zd_b zq_method_21_code_2 25 rfl rfl rfl)
theorem d_Lw_isUndercut_90 : decode method_21_code 90 = .ok (.goto 4, 3) := zo_167 (d := 0) (e := 4) (zd_b zq_method_21_code_2 26 rfl rfl rfl) (zd_b zq_method_21_code_2 27 rfl rfl rfl) (zd_b zq_method_21_code_2 28 rfl rfl rfl) (by decide +kernel)
theorem d_Lw_isUndercut_94 : decode method_21_code 94 = .ok (.iadd, 1) := zo_96 (zd_b zq_method_21_code_2 30 rfl rfl rfl)
theorem d_Lw_isUndercut_95 : decode method_21_code 95 = .ok (.istore 6, 2) := zo_54 (d := 6) (zd_b zq_method_21_code_2 31 rfl rfl rfl) (zd_b zq_method_21_code_3 0 rfl rfl rfl)
theorem d_Lw_isUndercut_97 : decode method_21_code 97 = .ok (.goto (-59), 3) := zo_167 (d := 255) (e := 197) (zd_b zq_method_21_code_3 1 rfl rfl rfl) (zd_b zq_method_21_code_3 2 rfl rfl rfl) (zd_b zq_method_21_code_3 3 rfl rfl rfl) (by decide +kernel)
theorem d_Lw_isUndercut_50 : decode method_21_code 50 = .ok (.aload_n 0, 1) := zo_42 (zd_b zq_method_21_code_1 18 rfl rfl rfl)
theorem d_Lw_isUndercut_51 : decode method_21_code 51 = .ok (.iload_n 3, 1) := zo_29 (zd_b zq_method_21_code_1 19 rfl rfl rfl)
theorem d_Lw_isUndercut_52 : decode method_21_code 52 = .ok (.iload 6, 2) := zo_21 (d := 6) (zd_b zq_method_21_code_1 20 rfl rfl rfl) (zd_b zq_method_21_code_1 21 rfl rfl rfl)
theorem d_Lw_isUndercut_54 : decode method_21_code 54 = .ok (.invokestatic 197, 3) := zo_184 (d := 0) (e := 197) (zd_b zq_method_21_code_1 22 rfl rfl rfl) (zd_b zq_method_21_code_1 23 rfl rfl rfl) (zd_b zq_method_21_code_1 24 rfl rfl rfl)
theorem ok_Lw_isUndercut_Lw_at : z_ok M_Lw_isUndercut M_Lw_at 3 := ⟨z_mj6 (i := 174) rfl (by decide +kernel), rfl, ⟨by decide +kernel, by decide +kernel, by decide +kernel⟩, ⟨by decide, by decide⟩, z_mj1 (i := 0) rfl (by decide +kernel), rfl⟩
theorem d_Lw_isUndercut_57 : decode method_21_code 57 = .ok (.bipush 46, 2) := zo_16 (d := 46) (zd_b zq_method_21_code_1 25 rfl rfl rfl) (zd_b zq_method_21_code_1 26 rfl rfl rfl) (by decide +kernel)
theorem d_Lw_isUndercut_59 : decode method_21_code 59 = .ok (.if_icmp .eq 19, 3) := zo_159 (d := 0) (e := 19) (zd_b zq_method_21_code_1 27 rfl rfl rfl) (zd_b zq_method_21_code_1 28 rfl rfl rfl) (zd_b zq_method_21_code_1 29 rfl rfl rfl) (by decide +kernel)
theorem d_Lw_isUndercut_62 : decode method_21_code 62 = .ok (.aload_n 0, 1) := zo_42 (zd_b zq_method_21_code_1 30 rfl rfl rfl)
theorem d_Lw_isUndercut_63 : decode method_21_code 63 = .ok (.iload_n 3, 1) := zo_29 (zd_b zq_method_21_code_1 31 rfl rfl rfl)
theorem d_Lw_isUndercut_64 : decode method_21_code 64 = .ok (.iload 6, 2) := zo_21 (d := 6) (zd_b zq_method_21_code_2 0 rfl rfl rfl) (zd_b zq_method_21_code_2 1 rfl rfl rfl)
theorem d_Lw_isUndercut_66 : decode method_21_code 66 = .ok (.invokestatic 197, 3) := zo_184 (d := 0) (e := 197) (zd_b zq_method_21_code_2 2 rfl rfl rfl) (zd_b zq_method_21_code_2 3 rfl rfl rfl) (zd_b zq_method_21_code_2 4 rfl rfl rfl)
theorem d_Lw_isUndercut_69 : decode method_21_code 69 = .ok (.bipush 107, 2) := zo_16 (d := 107) (zd_b zq_method_21_code_2 5 rfl rfl rfl) (zd_b zq_method_21_code_2 6 rfl rfl rfl) (by decide +kernel)
theorem d_Lw_isUndercut_71 : decode method_21_code 71 = .ok (.if_icmp .eq 7, 3) := zo_159 (d := 0) (e := 7) (zd_b zq_method_21_code_2 7 rfl rfl rfl) (zd_b zq_method_21_code_2 8 rfl rfl rfl) (zd_b zq_method_21_code_2 9 rfl rfl rfl) (by decide +kernel)
theorem d_Lw_isUndercut_74 : decode method_21_code 74 = .ok (.iconst 1, 1) := zo_4 (zd_b zq_method_21_code_2 10 rfl rfl rfl)
theorem d_Lw_isUndercut_75 : decode method_21_code 75 = .ok (.goto 4, 3) := zo_167 (d := 0) (e := 4) (zd_b zq_method_21_code_2 11 rfl rfl rfl) (zd_b zq_method_21_code_2 12 rfl rfl rfl) (zd_b zq_method_21_code_2 13 rfl rfl rfl) (by decide +kernel)
set_option maxHeartbeats 4000000 in
set_option maxRecDepth 100000 in
theorem U_dn (g : zG) {ad : Nat → Nat} {t0 : zTT} {u : zNN} {f : Nat → Int32} {p : Nat} {w : zW} (hW : Wd g ad t0 u f p w) {x y a kc ks : Nat} (hx : x < 12) (hy : y < 9) (hp1 : 1 ≤ p) (hp2 : p < 9) (hyp : y < p) (K : DU g M_Lw_isUndercut (fun o w1 => o = .inl (some (.int 1)) ∧ Wd g ad t0 u f p w1) w 0 100 [(6, .int (nI (p - 1 - (p - 1 - y)))), (5, .int (z_bi (frB (ksD f p x) (p - 1 - y)))), (4, .int (nI y)), (3, .int (nI x)), (2, .int (nI a)), (1, .int (nI p)), (0, .ref (ad 0))] [] [] (kc) (ks)) : ∀ (d i : Nat), i ≤ p - 1 - y → p - 1 - y < i + d → DU g M_Lw_isUndercut (fun o w1 => o = .inl (some (.int 1)) ∧ Wd g ad t0 u f p w1) w 0 38 [(6, .int (nI (p - 1 - i))), (5, .int (z_bi (frB (ksD f p x) i))), (4, .int (nI y)), (3, .int (nI x)), (2, .int (nI a)), (1, .int (nI p)), (0, .ref (ad 0))] [] [] (kc + 2 * (p - 1 - y - i)) (ks + 12 * (p - 1 - y - i)) := by
  intro d
  induction d with
  | zero => intro i k1 k2; exact absurd k2 (by omega)
  | succ d ih =>
    intro i k1 k2
    refine y_iload d_Lw_isUndercut_38 0 rfl ?_
    refine y_iload d_Lw_isUndercut_40 2 rfl ?_
    refine y_icmp_eq (tgt := 100) d_Lw_isUndercut_42 (by decide) (fun c_42 => ?_) (fun c_42 => ?_)
    · obtain rfl : i = p - 1 - y := by have := nI_ij (by omega) (by omega) c_42; omega
      exact y_bud (by omega) (by omega) K
    · have hn9 : i < p - 1 - y := by rcases Nat.lt_or_ge i (p - 1 - y) with h | h; exact h; exact absurd (congrArg nI (show p - 1 - i = y by omega)) c_42
      refine y_iload d_Lw_isUndercut_45 1 rfl ?_
      refine y_if_eq (tgt := 78) d_Lw_isUndercut_47 (by decide) (fun c_47 => ?_) (fun c_47 => ?_)
      · refine y_iconst d_Lw_isUndercut_78 (v := 0) (by decide) ?_
        refine y_istore (lv' := [(5, .int 0), (6, .int (nI (p - 1 - i))), (4, .int (nI y)), (3, .int (nI x)), (2, .int (nI a)), (1, .int (nI p)), (0, .ref (ad 0))]) d_Lw_isUndercut_79 (by decide) rfl ?_
        refine y_iload d_Lw_isUndercut_81 1 rfl ?_
        refine y_iload d_Lw_isUndercut_83 2 rfl ?_
        refine y_iload_n d_Lw_isUndercut_85 rfl 5 rfl ?_
        refine y_icmp_ge (tgt := 93) d_Lw_isUndercut_86 (by decide) (fun c_86 => ?_) (fun c_86 => ?_)
        · exact absurd (z_le (a := p) (b := y) (by omega) (by omega) c_86) (by omega)
        · refine y_iconst d_Lw_isUndercut_89 (v := (-1)) (by decide) ?_
          refine y_goto (tgt := 94) d_Lw_isUndercut_90 (by decide) ?_
          refine y_iadd d_Lw_isUndercut_94 (v := nI (p - 1 - (i + 1))) ((nI_m1 (by omega)).trans (congrArg nI (by omega))) ?_
          refine y_istore (lv' := [(6, .int (nI (p - 1 - (i + 1)))), (5, .int 0), (4, .int (nI y)), (3, .int (nI x)), (2, .int (nI a)), (1, .int (nI p)), (0, .ref (ad 0))]) d_Lw_isUndercut_95 (by decide) rfl ?_
          refine y_goto (tgt := 38) d_Lw_isUndercut_97 (by decide) ?_
          refine y_lv (lv' := [(6, .int (nI (p - 1 - (i + 1)))), (5, .int 0), (4, .int (nI y)), (3, .int (nI x)), (2, .int (nI a)), (1, .int (nI p)), (0, .ref (ad 0))]) [0, 1, 2, 3, 4, 5, 6] rfl ?_
          refine y_lvE (lv2 := [(6, .int (nI (p - 1 - (i + 1)))), (5, .int (z_bi (frB (ksD f p x) (i + 1)))), (4, .int (nI y)), (3, .int (nI x)), (2, .int (nI a)), (1, .int (nI p)), (0, .ref (ad 0))]) (by first | rw [fz_0 c_47] | rw [fz_b ksD_e (by rw [c_59]; decide)] | rw [fz_b ksD_e (by rw [c_71]; decide)] | rw [fz_g c_47 ksD_e c_59 c_71]) ?_
          exact y_bud (by omega) (by omega) (ih (i + 1) (by omega) (by omega))
      · refine y_aload_n d_Lw_isUndercut_50 rfl 6 rfl ?_
        refine y_iload_n d_Lw_isUndercut_51 rfl 3 rfl ?_
        refine y_iload d_Lw_isUndercut_52 0 rfl ?_
        refine yw_callS (As := [.ref (ad 0), .int (nI x), .int (nI (p - 1 - i))]) (rest := []) ln_Lw_197 w_st_Lw_at ok_Lw_isUndercut_Lw_at d_Lw_isUndercut_54 (fun wA hA => T_at (x := x) (y := p - 1 - i) (hW.e (z_I.same (z_I.nil _) hA)) hx (by omega)) rfl rfl (Nat.le_of_ble_eq_true rfl) (by omega) (by omega) (fun wA54 hA54 E wB54 hx => ?_) (fun wA54 hA54 v wB54 hx => ?_)
        · exact absurd hx.1 (by simp)
        · obtain ⟨e1, e2⟩ := hx
          cases e1
          refine yw_st (st2 := [.int (f (12 * (p - 1 - i) + x))]) rfl ?_
          subst e2
          refine y_go hA54 ?_
          refine y_bipush d_Lw_isUndercut_57 (v := 46) (by decide) ?_
          refine y_icmp_eq (tgt := 78) d_Lw_isUndercut_59 (by decide) (fun c_59 => ?_) (fun c_59 => ?_)
          · refine y_iconst d_Lw_isUndercut_78 (v := 0) (by decide) ?_
            refine y_istore (lv' := [(5, .int 0), (6, .int (nI (p - 1 - i))), (4, .int (nI y)), (3, .int (nI x)), (2, .int (nI a)), (1, .int (nI p)), (0, .ref (ad 0))]) d_Lw_isUndercut_79 (by decide) rfl ?_
            refine y_iload d_Lw_isUndercut_81 1 rfl ?_
            refine y_iload d_Lw_isUndercut_83 2 rfl ?_
            refine y_iload_n d_Lw_isUndercut_85 rfl 5 rfl ?_
            refine y_icmp_ge (tgt := 93) d_Lw_isUndercut_86 (by decide) (fun c_86 => ?_) (fun c_86 => ?_)
            · exact absurd (z_le (a := p) (b := y) (by omega) (by omega) c_86) (by omega)
            · refine y_iconst d_Lw_isUndercut_89 (v := (-1)) (by decide) ?_
              refine y_goto (tgt := 94) d_Lw_isUndercut_90 (by decide) ?_
              refine y_iadd d_Lw_isUndercut_94 (v := nI (p - 1 - (i + 1))) ((nI_m1 (by omega)).trans (congrArg nI (by omega))) ?_
              refine y_istore (lv' := [(6, .int (nI (p - 1 - (i + 1)))), (5, .int 0), (4, .int (nI y)), (3, .int (nI x)), (2, .int (nI a)), (1, .int (nI p)), (0, .ref (ad 0))]) d_Lw_isUndercut_95 (by decide) rfl ?_
              refine y_goto (tgt := 38) d_Lw_isUndercut_97 (by decide) ?_
              refine y_lv (lv' := [(6, .int (nI (p - 1 - (i + 1)))), (5, .int 0), (4, .int (nI y)), (3, .int (nI x)), (2, .int (nI a)), (1, .int (nI p)), (0, .ref (ad 0))]) [0, 1, 2, 3, 4, 5, 6] rfl ?_
              refine y_lvE (lv2 := [(6, .int (nI (p - 1 - (i + 1)))), (5, .int (z_bi (frB (ksD f p x) (i + 1)))), (4, .int (nI y)), (3, .int (nI x)), (2, .int (nI a)), (1, .int (nI p)), (0, .ref (ad 0))]) (by first | rw [fz_0 c_47] | rw [fz_b ksD_e (by rw [c_59]; decide)] | rw [fz_b ksD_e (by rw [c_71]; decide)] | rw [fz_g c_47 ksD_e c_59 c_71]) ?_
              exact y_bud (by omega) (by omega) (ih (i + 1) (by omega) (by omega))
          · refine y_aload_n d_Lw_isUndercut_62 rfl 6 rfl ?_
            refine y_iload_n d_Lw_isUndercut_63 rfl 3 rfl ?_
            refine y_iload d_Lw_isUndercut_64 0 rfl ?_
            refine yw_callS (As := [.ref (ad 0), .int (nI x), .int (nI (p - 1 - i))]) (rest := []) ln_Lw_197 w_st_Lw_at ok_Lw_isUndercut_Lw_at d_Lw_isUndercut_66 (fun wA hA => T_at (x := x) (y := p - 1 - i) (hW.e (z_I.same (z_I.nil _) hA)) hx (by omega)) rfl rfl (Nat.le_of_ble_eq_true rfl) (by omega) (by omega) (fun wA66 hA66 E wB66 hx => ?_) (fun wA66 hA66 v wB66 hx => ?_)
            · exact absurd hx.1 (by simp)
            · obtain ⟨e1, e2⟩ := hx
              cases e1
              refine yw_st (st2 := [.int (f (12 * (p - 1 - i) + x))]) rfl ?_
              subst e2
              refine y_go hA66 ?_
              refine y_bipush d_Lw_isUndercut_69 (v := 107) (by decide) ?_
              refine y_icmp_eq (tgt := 78) d_Lw_isUndercut_71 (by decide) (fun c_71 => ?_) (fun c_71 => ?_)
              · refine y_iconst d_Lw_isUndercut_78 (v := 0) (by decide) ?_
                refine y_istore (lv' := [(5, .int 0), (6, .int (nI (p - 1 - i))), (4, .int (nI y)), (3, .int (nI x)), (2, .int (nI a)), (1, .int (nI p)), (0, .ref (ad 0))]) d_Lw_isUndercut_79 (by decide) rfl ?_
                refine y_iload d_Lw_isUndercut_81 1 rfl ?_
                refine y_iload d_Lw_isUndercut_83 2 rfl ?_
                refine y_iload_n d_Lw_isUndercut_85 rfl 5 rfl ?_
                refine y_icmp_ge (tgt := 93) d_Lw_isUndercut_86 (by decide) (fun c_86 => ?_) (fun c_86 => ?_)
                · exact absurd (z_le (a := p) (b := y) (by omega) (by omega) c_86) (by omega)
                · refine y_iconst d_Lw_isUndercut_89 (v := (-1)) (by decide) ?_
                  refine y_goto (tgt := 94) d_Lw_isUndercut_90 (by decide) ?_
                  refine y_iadd d_Lw_isUndercut_94 (v := nI (p - 1 - (i + 1))) ((nI_m1 (by omega)).trans (congrArg nI (by omega))) ?_
                  refine y_istore (lv' := [(6, .int (nI (p - 1 - (i + 1)))), (5, .int 0), (4, .int (nI y)), (3, .int (nI x)), (2, .int (nI a)), (1, .int (nI p)), (0, .ref (ad 0))]) d_Lw_isUndercut_95 (by decide) rfl ?_
                  refine y_goto (tgt := 38) d_Lw_isUndercut_97 (by decide) ?_
                  refine y_lv (lv' := [(6, .int (nI (p - 1 - (i + 1)))), (5, .int 0), (4, .int (nI y)), (3, .int (nI x)), (2, .int (nI a)), (1, .int (nI p)), (0, .ref (ad 0))]) [0, 1, 2, 3, 4, 5, 6] rfl ?_
                  refine y_lvE (lv2 := [(6, .int (nI (p - 1 - (i + 1)))), (5, .int (z_bi (frB (ksD f p x) (i + 1)))), (4, .int (nI y)), (3, .int (nI x)), (2, .int (nI a)), (1, .int (nI p)), (0, .ref (ad 0))]) (by first | rw [fz_0 c_47] | rw [fz_b ksD_e (by rw [c_59]; decide)] | rw [fz_b ksD_e (by rw [c_71]; decide)] | rw [fz_g c_47 ksD_e c_59 c_71]) ?_
                  exact y_bud (by omega) (by omega) (ih (i + 1) (by omega) (by omega))
              · refine y_iconst d_Lw_isUndercut_74 (v := 1) (by decide) ?_
                refine y_goto (tgt := 79) d_Lw_isUndercut_75 (by decide) ?_
                refine y_istore (lv' := [(5, .int 1), (6, .int (nI (p - 1 - i))), (4, .int (nI y)), (3, .int (nI x)), (2, .int (nI a)), (1, .int (nI p)), (0, .ref (ad 0))]) d_Lw_isUndercut_79 (by decide) rfl ?_
                refine y_iload d_Lw_isUndercut_81 1 rfl ?_
                refine y_iload d_Lw_isUndercut_83 2 rfl ?_
                refine y_iload_n d_Lw_isUndercut_85 rfl 5 rfl ?_
                refine y_icmp_ge (tgt := 93) d_Lw_isUndercut_86 (by decide) (fun c_86 => ?_) (fun c_86 => ?_)
                · exact absurd (z_le (a := p) (b := y) (by omega) (by omega) c_86) (by omega)
                · refine y_iconst d_Lw_isUndercut_89 (v := (-1)) (by decide) ?_
                  refine y_goto (tgt := 94) d_Lw_isUndercut_90 (by decide) ?_
                  refine y_iadd d_Lw_isUndercut_94 (v := nI (p - 1 - (i + 1))) ((nI_m1 (by omega)).trans (congrArg nI (by omega))) ?_
                  refine y_istore (lv' := [(6, .int (nI (p - 1 - (i + 1)))), (5, .int 1), (4, .int (nI y)), (3, .int (nI x)), (2, .int (nI a)), (1, .int (nI p)), (0, .ref (ad 0))]) d_Lw_isUndercut_95 (by decide) rfl ?_
                  refine y_goto (tgt := 38) d_Lw_isUndercut_97 (by decide) ?_
                  refine y_lv (lv' := [(6, .int (nI (p - 1 - (i + 1)))), (5, .int 1), (4, .int (nI y)), (3, .int (nI x)), (2, .int (nI a)), (1, .int (nI p)), (0, .ref (ad 0))]) [0, 1, 2, 3, 4, 5, 6] rfl ?_
                  refine y_lvE (lv2 := [(6, .int (nI (p - 1 - (i + 1)))), (5, .int (z_bi (frB (ksD f p x) (i + 1)))), (4, .int (nI y)), (3, .int (nI x)), (2, .int (nI a)), (1, .int (nI p)), (0, .ref (ad 0))]) (by first | rw [fz_0 c_47] | rw [fz_b ksD_e (by rw [c_59]; decide)] | rw [fz_b ksD_e (by rw [c_71]; decide)] | rw [fz_g c_47 ksD_e c_59 c_71]) ?_
                  exact y_bud (by omega) (by omega) (ih (i + 1) (by omega) (by omega))
theorem d_Lw_isUndercut_93 : decode method_21_code 93 = .ok (.iconst 1, 1) := zo_4 (zd_b zq_method_21_code_2 29 rfl rfl rfl)
set_option maxHeartbeats 4000000 in
set_option maxRecDepth 100000 in
theorem U_up (g : zG) {ad : Nat → Nat} {t0 : zTT} {u : zNN} {f : Nat → Int32} {p : Nat} {w : zW} (hW : Wd g ad t0 u f p w) {x y a kc ks : Nat} (hx : x < 12) (hy : y < 9) (hp1 : 1 ≤ p) (hp2 : p < 9) (hyp : p ≤ y) (K : DU g M_Lw_isUndercut (fun o w1 => o = .inl (some (.int 1)) ∧ Wd g ad t0 u f p w1) w 0 100 [(6, .int (nI (p + (y - p)))), (5, .int (z_bi (frB (ksU f p x) (y - p)))), (4, .int (nI y)), (3, .int (nI x)), (2, .int (nI a)), (1, .int (nI p)), (0, .ref (ad 0))] [] [] (kc) (ks)) : ∀ (d i : Nat), i ≤ y - p → y - p < i + d → DU g M_Lw_isUndercut (fun o w1 => o = .inl (some (.int 1)) ∧ Wd g ad t0 u f p w1) w 0 38 [(6, .int (nI (p + i))), (5, .int (z_bi (frB (ksU f p x) i))), (4, .int (nI y)), (3, .int (nI x)), (2, .int (nI a)), (1, .int (nI p)), (0, .ref (ad 0))] [] [] (kc + 2 * (y - p - i)) (ks + 12 * (y - p - i)) := by
  intro d
  induction d with
  | zero => intro i k1 k2; exact absurd k2 (by omega)
  | succ d ih =>
    intro i k1 k2
    refine y_iload d_Lw_isUndercut_38 0 rfl ?_
    refine y_iload d_Lw_isUndercut_40 2 rfl ?_
    refine y_icmp_eq (tgt := 100) d_Lw_isUndercut_42 (by decide) (fun c_42 => ?_) (fun c_42 => ?_)
    · obtain rfl : i = y - p := by have := nI_ij (by omega) (by omega) c_42; omega
      exact y_bud (by omega) (by omega) K
    · have hn9 : i < y - p := by rcases Nat.lt_or_ge i (y - p) with h | h; exact h; exact absurd (congrArg nI (show p + i = y by omega)) c_42
      refine y_iload d_Lw_isUndercut_45 1 rfl ?_
      refine y_if_eq (tgt := 78) d_Lw_isUndercut_47 (by decide) (fun c_47 => ?_) (fun c_47 => ?_)
      · refine y_iconst d_Lw_isUndercut_78 (v := 0) (by decide) ?_
        refine y_istore (lv' := [(5, .int 0), (6, .int (nI (p + i))), (4, .int (nI y)), (3, .int (nI x)), (2, .int (nI a)), (1, .int (nI p)), (0, .ref (ad 0))]) d_Lw_isUndercut_79 (by decide) rfl ?_
        refine y_iload d_Lw_isUndercut_81 1 rfl ?_
        refine y_iload d_Lw_isUndercut_83 2 rfl ?_
        refine y_iload_n d_Lw_isUndercut_85 rfl 5 rfl ?_
        refine y_icmp_ge (tgt := 93) d_Lw_isUndercut_86 (by decide) (fun c_86 => ?_) (fun c_86 => ?_)
        · refine y_iconst d_Lw_isUndercut_93 (v := 1) (by decide) ?_
          refine y_iadd d_Lw_isUndercut_94 (v := nI (p + (i + 1))) (nI_add _ _) ?_
          refine y_istore (lv' := [(6, .int (nI (p + (i + 1)))), (5, .int 0), (4, .int (nI y)), (3, .int (nI x)), (2, .int (nI a)), (1, .int (nI p)), (0, .ref (ad 0))]) d_Lw_isUndercut_95 (by decide) rfl ?_
          refine y_goto (tgt := 38) d_Lw_isUndercut_97 (by decide) ?_
          refine y_lv (lv' := [(6, .int (nI (p + (i + 1)))), (5, .int 0), (4, .int (nI y)), (3, .int (nI x)), (2, .int (nI a)), (1, .int (nI p)), (0, .ref (ad 0))]) [0, 1, 2, 3, 4, 5, 6] rfl ?_
          refine y_lvE (lv2 := [(6, .int (nI (p + (i + 1)))), (5, .int (z_bi (frB (ksU f p x) (i + 1)))), (4, .int (nI y)), (3, .int (nI x)), (2, .int (nI a)), (1, .int (nI p)), (0, .ref (ad 0))]) (by first | rw [fz_0 c_47] | rw [fz_b ksU_e (by rw [c_59]; decide)] | rw [fz_b ksU_e (by rw [c_71]; decide)] | rw [fz_g c_47 ksU_e c_59 c_71]) ?_
          exact y_bud (by omega) (by omega) (ih (i + 1) (by omega) (by omega))
        · exact absurd (z_nle (a := p) (b := y) (by omega) (by omega) c_86) (by omega)
      · refine y_aload_n d_Lw_isUndercut_50 rfl 6 rfl ?_
        refine y_iload_n d_Lw_isUndercut_51 rfl 3 rfl ?_
        refine y_iload d_Lw_isUndercut_52 0 rfl ?_
        refine yw_callS (As := [.ref (ad 0), .int (nI x), .int (nI (p + i))]) (rest := []) ln_Lw_197 w_st_Lw_at ok_Lw_isUndercut_Lw_at d_Lw_isUndercut_54 (fun wA hA => T_at (x := x) (y := p + i) (hW.e (z_I.same (z_I.nil _) hA)) hx (by omega)) rfl rfl (Nat.le_of_ble_eq_true rfl) (by omega) (by omega) (fun wA54 hA54 E wB54 hx => ?_) (fun wA54 hA54 v wB54 hx => ?_)
        · exact absurd hx.1 (by simp)
        · obtain ⟨e1, e2⟩ := hx
          cases e1
          refine yw_st (st2 := [.int (f (12 * (p + i) + x))]) rfl ?_
          subst e2
          refine y_go hA54 ?_
          refine y_bipush d_Lw_isUndercut_57 (v := 46) (by decide) ?_
          refine y_icmp_eq (tgt := 78) d_Lw_isUndercut_59 (by decide) (fun c_59 => ?_) (fun c_59 => ?_)
          · refine y_iconst d_Lw_isUndercut_78 (v := 0) (by decide) ?_
            refine y_istore (lv' := [(5, .int 0), (6, .int (nI (p + i))), (4, .int (nI y)), (3, .int (nI x)), (2, .int (nI a)), (1, .int (nI p)), (0, .ref (ad 0))]) d_Lw_isUndercut_79 (by decide) rfl ?_
            refine y_iload d_Lw_isUndercut_81 1 rfl ?_
            refine y_iload d_Lw_isUndercut_83 2 rfl ?_
            refine y_iload_n d_Lw_isUndercut_85 rfl 5 rfl ?_
            refine y_icmp_ge (tgt := 93) d_Lw_isUndercut_86 (by decide) (fun c_86 => ?_) (fun c_86 => ?_)
            · refine y_iconst d_Lw_isUndercut_93 (v := 1) (by decide) ?_
              refine y_iadd d_Lw_isUndercut_94 (v := nI (p + (i + 1))) (nI_add _ _) ?_
              refine y_istore (lv' := [(6, .int (nI (p + (i + 1)))), (5, .int 0), (4, .int (nI y)), (3, .int (nI x)), (2, .int (nI a)), (1, .int (nI p)), (0, .ref (ad 0))]) d_Lw_isUndercut_95 (by decide) rfl ?_
              refine y_goto (tgt := 38) d_Lw_isUndercut_97 (by decide) ?_
              refine y_lv (lv' := [(6, .int (nI (p + (i + 1)))), (5, .int 0), (4, .int (nI y)), (3, .int (nI x)), (2, .int (nI a)), (1, .int (nI p)), (0, .ref (ad 0))]) [0, 1, 2, 3, 4, 5, 6] rfl ?_
              refine y_lvE (lv2 := [(6, .int (nI (p + (i + 1)))), (5, .int (z_bi (frB (ksU f p x) (i + 1)))), (4, .int (nI y)), (3, .int (nI x)), (2, .int (nI a)), (1, .int (nI p)), (0, .ref (ad 0))]) (by first | rw [fz_0 c_47] | rw [fz_b ksU_e (by rw [c_59]; decide)] | rw [fz_b ksU_e (by rw [c_71]; decide)] | rw [fz_g c_47 ksU_e c_59 c_71]) ?_
              exact y_bud (by omega) (by omega) (ih (i + 1) (by omega) (by omega))
            · exact absurd (z_nle (a := p) (b := y) (by omega) (by omega) c_86) (by omega)
          · refine y_aload_n d_Lw_isUndercut_62 rfl 6 rfl ?_
            refine y_iload_n d_Lw_isUndercut_63 rfl 3 rfl ?_
            refine y_iload d_Lw_isUndercut_64 0 rfl ?_
            refine yw_callS (As := [.ref (ad 0), .int (nI x), .int (nI (p + i))]) (rest := []) ln_Lw_197 w_st_Lw_at ok_Lw_isUndercut_Lw_at d_Lw_isUndercut_66 (fun wA hA => T_at (x := x) (y := p + i) (hW.e (z_I.same (z_I.nil _) hA)) hx (by omega)) rfl rfl (Nat.le_of_ble_eq_true rfl) (by omega) (by omega) (fun wA66 hA66 E wB66 hx => ?_) (fun wA66 hA66 v wB66 hx => ?_)
            · exact absurd hx.1 (by simp)
            · obtain ⟨e1, e2⟩ := hx
              cases e1
              refine yw_st (st2 := [.int (f (12 * (p + i) + x))]) rfl ?_
              subst e2
              refine y_go hA66 ?_
              refine y_bipush d_Lw_isUndercut_69 (v := 107) (by decide) ?_
              refine y_icmp_eq (tgt := 78) d_Lw_isUndercut_71 (by decide) (fun c_71 => ?_) (fun c_71 => ?_)
              · refine y_iconst d_Lw_isUndercut_78 (v := 0) (by decide) ?_
                refine y_istore (lv' := [(5, .int 0), (6, .int (nI (p + i))), (4, .int (nI y)), (3, .int (nI x)), (2, .int (nI a)), (1, .int (nI p)), (0, .ref (ad 0))]) d_Lw_isUndercut_79 (by decide) rfl ?_
                refine y_iload d_Lw_isUndercut_81 1 rfl ?_
                refine y_iload d_Lw_isUndercut_83 2 rfl ?_
                refine y_iload_n d_Lw_isUndercut_85 rfl 5 rfl ?_
                refine y_icmp_ge (tgt := 93) d_Lw_isUndercut_86 (by decide) (fun c_86 => ?_) (fun c_86 => ?_)
                · refine y_iconst d_Lw_isUndercut_93 (v := 1) (by decide) ?_
                  refine y_iadd d_Lw_isUndercut_94 (v := nI (p + (i + 1))) (nI_add _ _) ?_
                  refine y_istore (lv' := [(6, .int (nI (p + (i + 1)))), (5, .int 0), (4, .int (nI y)), (3, .int (nI x)), (2, .int (nI a)), (1, .int (nI p)), (0, .ref (ad 0))]) d_Lw_isUndercut_95 (by decide) rfl ?_
                  refine y_goto (tgt := 38) d_Lw_isUndercut_97 (by decide) ?_
                  refine y_lv (lv' := [(6, .int (nI (p + (i + 1)))), (5, .int 0), (4, .int (nI y)), (3, .int (nI x)), (2, .int (nI a)), (1, .int (nI p)), (0, .ref (ad 0))]) [0, 1, 2, 3, 4, 5, 6] rfl ?_
                  refine y_lvE (lv2 := [(6, .int (nI (p + (i + 1)))), (5, .int (z_bi (frB (ksU f p x) (i + 1)))), (4, .int (nI y)), (3, .int (nI x)), (2, .int (nI a)), (1, .int (nI p)), (0, .ref (ad 0))]) (by first | rw [fz_0 c_47] | rw [fz_b ksU_e (by rw [c_59]; decide)] | rw [fz_b ksU_e (by rw [c_71]; decide)] | rw [fz_g c_47 ksU_e c_59 c_71]) ?_
                  exact y_bud (by omega) (by omega) (ih (i + 1) (by omega) (by omega))
                · exact absurd (z_nle (a := p) (b := y) (by omega) (by omega) c_86) (by omega)
              · refine y_iconst d_Lw_isUndercut_74 (v := 1) (by decide) ?_
                refine y_goto (tgt := 79) d_Lw_isUndercut_75 (by decide) ?_
                refine y_istore (lv' := [(5, .int 1), (6, .int (nI (p + i))), (4, .int (nI y)), (3, .int (nI x)), (2, .int (nI a)), (1, .int (nI p)), (0, .ref (ad 0))]) d_Lw_isUndercut_79 (by decide) rfl ?_
                refine y_iload d_Lw_isUndercut_81 1 rfl ?_
                refine y_iload d_Lw_isUndercut_83 2 rfl ?_
                refine y_iload_n d_Lw_isUndercut_85 rfl 5 rfl ?_
                refine y_icmp_ge (tgt := 93) d_Lw_isUndercut_86 (by decide) (fun c_86 => ?_) (fun c_86 => ?_)
                · refine y_iconst d_Lw_isUndercut_93 (v := 1) (by decide) ?_
                  refine y_iadd d_Lw_isUndercut_94 (v := nI (p + (i + 1))) (nI_add _ _) ?_
                  refine y_istore (lv' := [(6, .int (nI (p + (i + 1)))), (5, .int 1), (4, .int (nI y)), (3, .int (nI x)), (2, .int (nI a)), (1, .int (nI p)), (0, .ref (ad 0))]) d_Lw_isUndercut_95 (by decide) rfl ?_
                  refine y_goto (tgt := 38) d_Lw_isUndercut_97 (by decide) ?_
                  refine y_lv (lv' := [(6, .int (nI (p + (i + 1)))), (5, .int 1), (4, .int (nI y)), (3, .int (nI x)), (2, .int (nI a)), (1, .int (nI p)), (0, .ref (ad 0))]) [0, 1, 2, 3, 4, 5, 6] rfl ?_
                  refine y_lvE (lv2 := [(6, .int (nI (p + (i + 1)))), (5, .int (z_bi (frB (ksU f p x) (i + 1)))), (4, .int (nI y)), (3, .int (nI x)), (2, .int (nI a)), (1, .int (nI p)), (0, .ref (ad 0))]) (by first | rw [fz_0 c_47] | rw [fz_b ksU_e (by rw [c_59]; decide)] | rw [fz_b ksU_e (by rw [c_71]; decide)] | rw [fz_g c_47 ksU_e c_59 c_71]) ?_
                  exact y_bud (by omega) (by omega) (ih (i + 1) (by omega) (by omega))
                · exact absurd (z_nle (a := p) (b := y) (by omega) (by omega) c_86) (by omega)
theorem d_Lw_isUndercut_13 : decode method_21_code 13 = .ok (.iload 4, 2) := zo_21 (d := 4) (zd_b zq_method_21_code_0 13 rfl rfl rfl) (zd_b zq_method_21_code_0 14 rfl rfl rfl)
theorem d_Lw_isUndercut_15 : decode method_21_code 15 = .ok (.bipush 9, 2) := zo_16 (d := 9) (zd_b zq_method_21_code_0 15 rfl rfl rfl) (zd_b zq_method_21_code_0 16 rfl rfl rfl) (by decide +kernel)
theorem d_Lw_isUndercut_17 : decode method_21_code 17 = .ok (.if_icmp .ge 118, 3) := zo_162 (d := 0) (e := 118) (zd_b zq_method_21_code_0 17 rfl rfl rfl) (zd_b zq_method_21_code_0 18 rfl rfl rfl) (zd_b zq_method_21_code_0 19 rfl rfl rfl) (by decide +kernel)
theorem d_Lw_isUndercut_135 : decode method_21_code 135 = .ok (.iinc 3 1, 3) := by decide +kernel
theorem d_Lw_isUndercut_138 : decode method_21_code 138 = .ok (.goto (-134), 3) := zo_167 (d := 255) (e := 122) (zd_b zq_method_21_code_4 10 rfl rfl rfl) (zd_b zq_method_21_code_4 11 rfl rfl rfl) (zd_b zq_method_21_code_4 12 rfl rfl rfl) (by decide +kernel)
theorem d_Lw_isUndercut_4 : decode method_21_code 4 = .ok (.iload_n 3, 1) := zo_29 (zd_b zq_method_21_code_0 4 rfl rfl rfl)
theorem d_Lw_isUndercut_5 : decode method_21_code 5 = .ok (.bipush 12, 2) := zo_16 (d := 12) (zd_b zq_method_21_code_0 5 rfl rfl rfl) (zd_b zq_method_21_code_0 6 rfl rfl rfl) (by decide +kernel)
theorem d_Lw_isUndercut_7 : decode method_21_code 7 = .ok (.if_icmp .ge 134, 3) := zo_162 (d := 0) (e := 134) (zd_b zq_method_21_code_0 7 rfl rfl rfl) (zd_b zq_method_21_code_0 8 rfl rfl rfl) (zd_b zq_method_21_code_0 9 rfl rfl rfl) (by decide +kernel)
theorem d_Lw_isUndercut_10 : decode method_21_code 10 = .ok (.iconst 0, 1) := zo_3 (zd_b zq_method_21_code_0 10 rfl rfl rfl)
theorem d_Lw_isUndercut_11 : decode method_21_code 11 = .ok (.istore 4, 2) := zo_54 (d := 4) (zd_b zq_method_21_code_0 11 rfl rfl rfl) (zd_b zq_method_21_code_0 12 rfl rfl rfl)
theorem d_Lw_isUndercut_20 : decode method_21_code 20 = .ok (.iconst 1, 1) := zo_4 (zd_b zq_method_21_code_0 20 rfl rfl rfl)
theorem d_Lw_isUndercut_21 : decode method_21_code 21 = .ok (.istore 5, 2) := zo_54 (d := 5) (zd_b zq_method_21_code_0 21 rfl rfl rfl) (zd_b zq_method_21_code_0 22 rfl rfl rfl)
theorem d_Lw_isUndercut_23 : decode method_21_code 23 = .ok (.iload 4, 2) := zo_21 (d := 4) (zd_b zq_method_21_code_0 23 rfl rfl rfl) (zd_b zq_method_21_code_0 24 rfl rfl rfl)
theorem d_Lw_isUndercut_25 : decode method_21_code 25 = .ok (.iload_n 1, 1) := zo_27 (zd_b zq_method_21_code_0 25 rfl rfl rfl)
theorem d_Lw_isUndercut_26 : decode method_21_code 26 = .ok (.if_icmp .ge 9, 3) := zo_162 (d := 0) (e := 9) (zd_b zq_method_21_code_0 26 rfl rfl rfl) (zd_b zq_method_21_code_0 27 rfl rfl rfl) (zd_b zq_method_21_code_0 28 rfl rfl rfl) (by decide +kernel)
theorem d_Lw_isUndercut_35 : decode method_21_code 35 = .ok (.iload_n 1, 1) := zo_27 (zd_b zq_method_21_code_1 3 rfl rfl rfl)
theorem d_Lw_isUndercut_36 : decode method_21_code 36 = .ok (.istore 6, 2) := zo_54 (d := 6) (zd_b zq_method_21_code_1 4 rfl rfl rfl) (zd_b zq_method_21_code_1 5 rfl rfl rfl)
theorem d_Lw_isUndercut_100 : decode method_21_code 100 = .ok (.iload_n 2, 1) := zo_28 (zd_b zq_method_21_code_3 4 rfl rfl rfl)
theorem d_Lw_isUndercut_101 : decode method_21_code 101 = .ok (.iload 5, 2) := zo_21 (d := 5) (zd_b zq_method_21_code_3 5 rfl rfl rfl) (zd_b zq_method_21_code_3 6 rfl rfl rfl)
theorem d_Lw_isUndercut_103 : decode method_21_code 103 = .ok (.ifCond .ne 20, 3) := zo_154 (d := 0) (e := 20) (zd_b zq_method_21_code_3 7 rfl rfl rfl) (zd_b zq_method_21_code_3 8 rfl rfl rfl) (zd_b zq_method_21_code_3 9 rfl rfl rfl) (by decide +kernel)
theorem d_Lw_isUndercut_123 : decode method_21_code 123 = .ok (.iconst 0, 1) := zo_3 (zd_b zq_method_21_code_3 27 rfl rfl rfl)
theorem d_Lw_isUndercut_124 : decode method_21_code 124 = .ok (.invokestatic 66, 3) := zo_184 (d := 0) (e := 66) (zd_b zq_method_21_code_3 28 rfl rfl rfl) (zd_b zq_method_21_code_3 29 rfl rfl rfl) (zd_b zq_method_21_code_3 30 rfl rfl rfl)
theorem ok_Lw_isUndercut_Lw_told : z_ok M_Lw_isUndercut M_Lw_told 1 := ⟨z_mj5 (i := 192) rfl (by decide +kernel), rfl, ⟨by decide +kernel, by decide +kernel, by decide +kernel⟩, ⟨by decide, by decide⟩, z_mj1 (i := 0) rfl (by decide +kernel), rfl⟩
theorem d_Lw_isUndercut_127 : decode method_21_code 127 = .ok (.iadd, 1) := zo_96 (zd_b zq_method_21_code_3 31 rfl rfl rfl)
theorem d_Lw_isUndercut_128 : decode method_21_code 128 = .ok (.istore_n 2, 1) := zo_61 (zd_b zq_method_21_code_4 0 rfl rfl rfl)
theorem d_Lw_isUndercut_129 : decode method_21_code 129 = .ok (.iinc 4 1, 3) := by decide +kernel
theorem d_Lw_isUndercut_132 : decode method_21_code 132 = .ok (.goto (-119), 3) := zo_167 (d := 255) (e := 137) (zd_b zq_method_21_code_4 4 rfl rfl rfl) (zd_b zq_method_21_code_4 5 rfl rfl rfl) (zd_b zq_method_21_code_4 6 rfl rfl rfl) (by decide +kernel)
theorem d_Lw_isUndercut_106 : decode method_21_code 106 = .ok (.aload_n 0, 1) := zo_42 (zd_b zq_method_21_code_3 10 rfl rfl rfl)
theorem d_Lw_isUndercut_107 : decode method_21_code 107 = .ok (.iload_n 3, 1) := zo_29 (zd_b zq_method_21_code_3 11 rfl rfl rfl)
theorem d_Lw_isUndercut_108 : decode method_21_code 108 = .ok (.iload 4, 2) := zo_21 (d := 4) (zd_b zq_method_21_code_3 12 rfl rfl rfl) (zd_b zq_method_21_code_3 13 rfl rfl rfl)
theorem d_Lw_isUndercut_110 : decode method_21_code 110 = .ok (.invokestatic 197, 3) := zo_184 (d := 0) (e := 197) (zd_b zq_method_21_code_3 14 rfl rfl rfl) (zd_b zq_method_21_code_3 15 rfl rfl rfl) (zd_b zq_method_21_code_3 16 rfl rfl rfl)
theorem d_Lw_isUndercut_113 : decode method_21_code 113 = .ok (.invokestatic 219, 3) := zo_184 (d := 0) (e := 219) (zd_b zq_method_21_code_3 17 rfl rfl rfl) (zd_b zq_method_21_code_3 18 rfl rfl rfl) (zd_b zq_method_21_code_3 19 rfl rfl rfl)
theorem ok_Lw_isUndercut_Lw_isMetal : z_ok M_Lw_isUndercut M_Lw_isMetal 1 := ⟨z_mj6 (i := 180) rfl (by decide +kernel), rfl, ⟨by decide +kernel, by decide +kernel, by decide +kernel⟩, ⟨by decide, by decide⟩, z_mj1 (i := 0) rfl (by decide +kernel), rfl⟩
theorem d_Lw_isUndercut_116 : decode method_21_code 116 = .ok (.ifCond .eq 7, 3) := zo_153 (d := 0) (e := 7) (zd_b zq_method_21_code_3 20 rfl rfl rfl) (zd_b zq_method_21_code_3 21 rfl rfl rfl) (zd_b zq_method_21_code_3 22 rfl rfl rfl) (by decide +kernel)
theorem d_Lw_isUndercut_119 : decode method_21_code 119 = .ok (.iconst 1, 1) := zo_4 (zd_b zq_method_21_code_3 23 rfl rfl rfl)
theorem d_Lw_isUndercut_120 : decode method_21_code 120 = .ok (.goto 4, 3) := zo_167 (d := 0) (e := 4) (zd_b zq_method_21_code_3 24 rfl rfl rfl) (zd_b zq_method_21_code_3 25 rfl rfl rfl) (zd_b zq_method_21_code_3 26 rfl rfl rfl) (by decide +kernel)
theorem d_Lw_isUndercut_29 : decode method_21_code 29 = .ok (.iload_n 1, 1) := zo_27 (zd_b zq_method_21_code_0 29 rfl rfl rfl)
theorem d_Lw_isUndercut_30 : decode method_21_code 30 = .ok (.iconst 1, 1) := zo_4 (zd_b zq_method_21_code_0 30 rfl rfl rfl)
theorem d_Lw_isUndercut_31 : decode method_21_code 31 = .ok (.isub, 1) := zo_100 (zd_b zq_method_21_code_0 31 rfl rfl rfl)
theorem d_Lw_isUndercut_32 : decode method_21_code 32 = .ok (.goto 4, 3) := zo_167 (d := 0) (e := 4) (zd_b zq_method_21_code_1 0 rfl rfl rfl) (zd_b zq_method_21_code_1 1 rfl rfl rfl) (zd_b zq_method_21_code_1 2 rfl rfl rfl) (by decide +kernel)
set_option maxHeartbeats 4000000 in
set_option maxRecDepth 100000 in
theorem U_cells (g : zG) {ad : Nat → Nat} {t0 : zTT} {u : zNN} {f : Nat → Int32} {p : Nat} {w : zW} (hW : Wd g ad t0 u f p w) (hp1 : 1 ≤ p) (hp2 : p < 9) (K : DU g M_Lw_isUndercut (fun o w1 => o = .inl (some (.int 1)) ∧ Wd g ad t0 u f p w1) w 0 141 [(2, .int (nI (ucT f p 12))), (1, .int (nI p)), (0, .ref (ad 0))] [] [] (3) (18)) : ∀ (d x y a : Nat), x < 12 → y ≤ 9 → 10 * (11 - x) + (9 - y) < d → a = lwT f p x + fa_cnt (lwU f p x) y → DU g M_Lw_isUndercut (fun o w1 => o = .inl (some (.int 1)) ∧ Wd g ad t0 u f p w1) w 0 13 [(4, .int (nI y)), (3, .int (nI x)), (2, .int (nI a)), (1, .int (nI p)), (0, .ref (ad 0))] [] [] (20 * (108 - (9 * x + y)) + 3) (120 * (108 - (9 * x + y)) + 18) := by
  intro d
  induction d with
  | zero => intro x y a hx hy0 k2; exact absurd k2 (by omega)
  | succ d ih =>
    intro x y a hx hy0 k2 hI1
    refine y_iload d_Lw_isUndercut_13 0 rfl ?_
    refine y_bipush d_Lw_isUndercut_15 (v := 9) (by decide) ?_
    refine y_icmp_ge (tgt := 135) d_Lw_isUndercut_17 (by decide) (fun c_17 => ?_) (fun c_17 => ?_)
    · have hn := z_le (a := 9) (b := y) (by omega) (by omega) c_17
      obtain rfl : y = 9 := by omega
      refine y_iinc (lv' := [(3, .int (nI (x + 1))), (4, .int (nI 9)), (2, .int (nI a)), (1, .int (nI p)), (0, .ref (ad 0))]) (v := nI (x + 1)) d_Lw_isUndercut_135 (j := 1) rfl (nI_add _ _) (by decide) rfl ?_
      refine y_goto (tgt := 4) d_Lw_isUndercut_138 (by decide) ?_
      refine y_iload_n d_Lw_isUndercut_4 rfl 0 rfl ?_
      refine y_bipush d_Lw_isUndercut_5 (v := 12) (by decide) ?_
      refine y_icmp_ge (tgt := 141) d_Lw_isUndercut_7 (by decide) (fun c_7 => ?_) (fun c_7 => ?_)
      · have hn9 := z_le (a := 12) (b := x + 1) (by omega) (by omega) c_7
        obtain rfl : x = 11 := by omega
        obtain rfl : a = ucT f p 12 := hI1.trans (show lwT f p 11 + fa_cnt (lwU f p 11) 9 = ucT f p 12 from lw_und hW.ch hp2 12 (Nat.le_refl _))
        refine y_lv (lv' := [(2, .int (nI (ucT f p 12))), (1, .int (nI p)), (0, .ref (ad 0))]) [2, 3, 4] rfl ?_
        exact y_bud (by omega) (by omega) K
      · have hn9 := z_nle (a := 12) (b := x + 1) (by omega) (by omega) c_7
        refine y_iconst d_Lw_isUndercut_10 (v := 0) (by decide) ?_
        refine y_istore (lv' := [(4, .int 0), (3, .int (nI (x + 1))), (2, .int (nI a)), (1, .int (nI p)), (0, .ref (ad 0))]) d_Lw_isUndercut_11 (by decide) rfl ?_
        refine y_lv (lv' := [(4, .int 0), (3, .int (nI (x + 1))), (2, .int (nI a)), (1, .int (nI p)), (0, .ref (ad 0))]) [0, 1, 2, 3, 4] rfl ?_
        refine y_lvE (lv2 := [(4, .int (nI 0)), (3, .int (nI (x + 1))), (2, .int (nI a)), (1, .int (nI p)), (0, .ref (ad 0))]) rfl ?_
        exact y_bud (by omega) (by omega) (ih (x + 1) 0 _ (by omega) (by omega) (by omega) hI1)
    · have hy := z_nle (a := 9) (b := y) (by omega) (by omega) c_17
      refine y_iconst d_Lw_isUndercut_20 (v := 1) (by decide) ?_
      refine y_istore (lv' := [(5, .int 1), (4, .int (nI y)), (3, .int (nI x)), (2, .int (nI a)), (1, .int (nI p)), (0, .ref (ad 0))]) d_Lw_isUndercut_21 (by decide) rfl ?_
      refine y_iload d_Lw_isUndercut_23 1 rfl ?_
      refine y_iload_n d_Lw_isUndercut_25 rfl 4 rfl ?_
      refine y_icmp_ge (tgt := 35) d_Lw_isUndercut_26 (by decide) (fun c_26 => ?_) (fun c_26 => ?_)
      · have hyp : p ≤ y := z_le (by omega) (by omega) c_26
        refine y_iload_n d_Lw_isUndercut_35 rfl 4 rfl ?_
        refine y_istore (lv' := [(6, .int (nI p)), (5, .int 1), (4, .int (nI y)), (3, .int (nI x)), (2, .int (nI a)), (1, .int (nI p)), (0, .ref (ad 0))]) d_Lw_isUndercut_36 (by decide) rfl ?_
        refine y_lv (lv' := [(6, .int (nI p)), (5, .int 1), (4, .int (nI y)), (3, .int (nI x)), (2, .int (nI a)), (1, .int (nI p)), (0, .ref (ad 0))]) [0, 1, 2, 3, 4, 5, 6] rfl ?_
        refine y_lvE (lv2 := [(6, .int (nI (p + 0))), (5, .int (z_bi (frB (ksU f p x) 0))), (4, .int (nI y)), (3, .int (nI x)), (2, .int (nI a)), (1, .int (nI p)), (0, .ref (ad 0))]) rfl ?_
        have hu9 := lwU_u (f := f) (x := x) (Nat.not_lt.mpr hyp)
        refine y_bud (kc2 := 20 * (108 - (9 * x + (y + 1))) + 4 + 2 * (y - p - 0)) (ks2 := 120 * (108 - (9 * x + (y + 1))) + 24 + 12 * (y - p - 0)) (by omega) (by omega) (U_up g hW hx hy hp1 hp2 hyp ?_ (y - p + 1) 0 (Nat.zero_le _) (by omega))
        refine y_iload_n d_Lw_isUndercut_100 rfl 4 rfl ?_
        refine y_iload d_Lw_isUndercut_101 1 rfl ?_
        refine y_if_ne (tgt := 123) d_Lw_isUndercut_103 (by decide) (fun c_103 => ?_) (fun c_103 => ?_)
        · refine y_iconst d_Lw_isUndercut_123 (v := 0) (by decide) ?_
          refine y_callS (As := [.int 0]) (rest := [.int (nI a)]) (csC := []) (is := []) ln_Lw_66 w_st_Lw_told ok_Lw_isUndercut_Lw_told d_Lw_isUndercut_124 (C_Lw_told g 0) rfl rfl (Nat.le_of_ble_eq_true rfl) rfl (by decide) (by omega) (by omega) (fun E cs1 hx => ?_) (fun v cs1 hx => ?_)
          · exact absurd hx.1 (by simp)
          · obtain ⟨e1, rfl⟩ := hx
            cases e1
            refine ⟨rfl, ?_⟩
            refine y_st (st2 := [.int (if (0 : Int32) = 0 then 0 else 1), .int (nI a)]) rfl ?_
            refine y_cs (cs2 := []) rfl ?_
            refine y_iadd d_Lw_isUndercut_127 (v := nI a) tl0n9 ?_
            refine y_istore_n (lv' := [(2, .int (nI a)), (6, .int (nI (p + (y - p)))), (5, .int (z_bi (frB (ksU f p x) (y - p)))), (4, .int (nI y)), (3, .int (nI x)), (1, .int (nI p)), (0, .ref (ad 0))]) d_Lw_isUndercut_128 rfl (by decide) rfl ?_
            refine y_iinc (lv' := [(4, .int (nI (y + 1))), (2, .int (nI a)), (6, .int (nI (p + (y - p)))), (5, .int (z_bi (frB (ksU f p x) (y - p)))), (3, .int (nI x)), (1, .int (nI p)), (0, .ref (ad 0))]) (v := nI (y + 1)) d_Lw_isUndercut_129 (j := 3) rfl (nI_add _ _) (by decide) rfl ?_
            refine y_goto (tgt := 13) d_Lw_isUndercut_132 (by decide) ?_
            refine y_lv (lv' := [(4, .int (nI (y + 1))), (3, .int (nI x)), (2, .int (nI a)), (1, .int (nI p)), (0, .ref (ad 0))]) [0, 4, 1, 5, 6] rfl ?_
            refine y_lv (lv' := [(4, .int (nI (y + 1))), (3, .int (nI x)), (2, .int (nI a)), (1, .int (nI p)), (0, .ref (ad 0))]) [0, 1, 2, 3, 4] rfl ?_
            exact y_bud (by omega) (by omega) (ih x (y + 1) _ hx (by omega) (by omega) (by first | exact un_0 hu9 (Or.inl c_103) hI1 | exact un_0 hu9 (Or.inr c_116) hI1))
        · refine y_aload_n d_Lw_isUndercut_106 rfl 6 rfl ?_
          refine y_iload_n d_Lw_isUndercut_107 rfl 3 rfl ?_
          refine y_iload d_Lw_isUndercut_108 2 rfl ?_
          refine yw_callS (As := [.ref (ad 0), .int (nI x), .int (nI y)]) (rest := [.int (nI a)]) ln_Lw_197 w_st_Lw_at ok_Lw_isUndercut_Lw_at d_Lw_isUndercut_110 (fun wA hA => T_at (x := x) (y := y) (hW.e (z_I.same (z_I.nil _) hA)) hx hy) rfl rfl (Nat.le_of_ble_eq_true rfl) (by omega) (by omega) (fun wA110 hA110 E wB110 hx => ?_) (fun wA110 hA110 v wB110 hx => ?_)
          · exact absurd hx.1 (by simp)
          · obtain ⟨e1, e2⟩ := hx
            cases e1
            refine yw_st (st2 := [.int (f (12 * y + x)), .int (nI a)]) rfl ?_
            subst e2
            refine y_go hA110 ?_
            refine y_callS (As := [.int (f (12 * y + x))]) (rest := [.int (nI a)]) (csC := []) (is := []) ln_Lw_219 w_st_Lw_isMetal ok_Lw_isUndercut_Lw_isMetal d_Lw_isUndercut_113 (C_Lw_isMetal g (f (12 * y + x))) rfl rfl (Nat.le_of_ble_eq_true rfl) rfl (by decide) (by omega) (by omega) (fun E cs1 hx => ?_) (fun v cs1 hx => ?_)
            · exact absurd hx.1 (by simp)
            · obtain ⟨e1, rfl⟩ := hx
              cases e1
              refine ⟨rfl, ?_⟩
              refine y_st (st2 := [.int (z_bi (tmB (f (12 * y + x)))), .int (nI a)]) rfl ?_
              refine y_cs (cs2 := []) rfl ?_
              refine y_if_eq (tgt := 123) d_Lw_isUndercut_116 (by decide) (fun c_116 => ?_) (fun c_116 => ?_)
              · refine y_iconst d_Lw_isUndercut_123 (v := 0) (by decide) ?_
                refine y_callS (As := [.int 0]) (rest := [.int (nI a)]) (csC := []) (is := []) ln_Lw_66 w_st_Lw_told ok_Lw_isUndercut_Lw_told d_Lw_isUndercut_124 (C_Lw_told g 0) rfl rfl (Nat.le_of_ble_eq_true rfl) rfl (by decide) (by omega) (by omega) (fun E cs1 hx => ?_) (fun v cs1 hx => ?_)
                · exact absurd hx.1 (by simp)
                · obtain ⟨e1, rfl⟩ := hx
                  cases e1
                  refine ⟨rfl, ?_⟩
                  refine y_st (st2 := [.int (if (0 : Int32) = 0 then 0 else 1), .int (nI a)]) rfl ?_
                  refine y_cs (cs2 := []) rfl ?_
                  refine y_iadd d_Lw_isUndercut_127 (v := nI a) tl0n9 ?_
                  refine y_istore_n (lv' := [(2, .int (nI a)), (6, .int (nI (p + (y - p)))), (5, .int (z_bi (frB (ksU f p x) (y - p)))), (4, .int (nI y)), (3, .int (nI x)), (1, .int (nI p)), (0, .ref (ad 0))]) d_Lw_isUndercut_128 rfl (by decide) rfl ?_
                  refine y_iinc (lv' := [(4, .int (nI (y + 1))), (2, .int (nI a)), (6, .int (nI (p + (y - p)))), (5, .int (z_bi (frB (ksU f p x) (y - p)))), (3, .int (nI x)), (1, .int (nI p)), (0, .ref (ad 0))]) (v := nI (y + 1)) d_Lw_isUndercut_129 (j := 3) rfl (nI_add _ _) (by decide) rfl ?_
                  refine y_goto (tgt := 13) d_Lw_isUndercut_132 (by decide) ?_
                  refine y_lv (lv' := [(4, .int (nI (y + 1))), (3, .int (nI x)), (2, .int (nI a)), (1, .int (nI p)), (0, .ref (ad 0))]) [0, 4, 1, 5, 6] rfl ?_
                  refine y_lv (lv' := [(4, .int (nI (y + 1))), (3, .int (nI x)), (2, .int (nI a)), (1, .int (nI p)), (0, .ref (ad 0))]) [0, 1, 2, 3, 4] rfl ?_
                  exact y_bud (by omega) (by omega) (ih x (y + 1) _ hx (by omega) (by omega) (by first | exact un_0 hu9 (Or.inl c_103) hI1 | exact un_0 hu9 (Or.inr c_116) hI1))
              · refine y_iconst d_Lw_isUndercut_119 (v := 1) (by decide) ?_
                refine y_goto (tgt := 124) d_Lw_isUndercut_120 (by decide) ?_
                refine y_callS (As := [.int 1]) (rest := [.int (nI a)]) (csC := []) (is := []) ln_Lw_66 w_st_Lw_told ok_Lw_isUndercut_Lw_told d_Lw_isUndercut_124 (C_Lw_told g 1) rfl rfl (Nat.le_of_ble_eq_true rfl) rfl (by decide) (by omega) (by omega) (fun E cs1 hx => ?_) (fun v cs1 hx => ?_)
                · exact absurd hx.1 (by simp)
                · obtain ⟨e1, rfl⟩ := hx
                  cases e1
                  refine ⟨rfl, ?_⟩
                  refine y_st (st2 := [.int (if (1 : Int32) = 0 then 0 else 1), .int (nI a)]) rfl ?_
                  refine y_cs (cs2 := []) rfl ?_
                  refine y_iadd d_Lw_isUndercut_127 (v := nI (a + 1)) tl1n9 ?_
                  refine y_istore_n (lv' := [(2, .int (nI (a + 1))), (6, .int (nI (p + (y - p)))), (5, .int (z_bi (frB (ksU f p x) (y - p)))), (4, .int (nI y)), (3, .int (nI x)), (1, .int (nI p)), (0, .ref (ad 0))]) d_Lw_isUndercut_128 rfl (by decide) rfl ?_
                  refine y_iinc (lv' := [(4, .int (nI (y + 1))), (2, .int (nI (a + 1))), (6, .int (nI (p + (y - p)))), (5, .int (z_bi (frB (ksU f p x) (y - p)))), (3, .int (nI x)), (1, .int (nI p)), (0, .ref (ad 0))]) (v := nI (y + 1)) d_Lw_isUndercut_129 (j := 3) rfl (nI_add _ _) (by decide) rfl ?_
                  refine y_goto (tgt := 13) d_Lw_isUndercut_132 (by decide) ?_
                  refine y_lv (lv' := [(4, .int (nI (y + 1))), (3, .int (nI x)), (2, .int (nI (a + 1))), (1, .int (nI p)), (0, .ref (ad 0))]) [0, 4, 1, 5, 6] rfl ?_
                  refine y_lv (lv' := [(4, .int (nI (y + 1))), (3, .int (nI x)), (2, .int (nI (a + 1))), (1, .int (nI p)), (0, .ref (ad 0))]) [0, 1, 2, 3, 4] rfl ?_
                  exact y_bud (by omega) (by omega) (ih x (y + 1) _ hx (by omega) (by omega) (un_1 hu9 c_103 c_116 hI1))
      · have hyp : y < p := z_nle (by omega) (by omega) c_26
        refine y_iload_n d_Lw_isUndercut_29 rfl 4 rfl ?_
        refine y_iconst d_Lw_isUndercut_30 (v := 1) (by decide) ?_
        refine y_isub d_Lw_isUndercut_31 (v := nI (p - 1)) (nI_sub1 hp1) ?_
        refine y_goto (tgt := 36) d_Lw_isUndercut_32 (by decide) ?_
        refine y_istore (lv' := [(6, .int (nI (p - 1))), (5, .int 1), (4, .int (nI y)), (3, .int (nI x)), (2, .int (nI a)), (1, .int (nI p)), (0, .ref (ad 0))]) d_Lw_isUndercut_36 (by decide) rfl ?_
        refine y_lv (lv' := [(6, .int (nI (p - 1))), (5, .int 1), (4, .int (nI y)), (3, .int (nI x)), (2, .int (nI a)), (1, .int (nI p)), (0, .ref (ad 0))]) [0, 1, 2, 3, 4, 5, 6] rfl ?_
        refine y_lvE (lv2 := [(6, .int (nI (p - 1 - 0))), (5, .int (z_bi (frB (ksD f p x) 0))), (4, .int (nI y)), (3, .int (nI x)), (2, .int (nI a)), (1, .int (nI p)), (0, .ref (ad 0))]) rfl ?_
        have hu9 := lwU_d (f := f) (x := x) hyp
        refine y_bud (kc2 := 20 * (108 - (9 * x + (y + 1))) + 4 + 2 * (p - 1 - y - 0)) (ks2 := 120 * (108 - (9 * x + (y + 1))) + 24 + 12 * (p - 1 - y - 0)) (by omega) (by omega) (U_dn g hW hx hy hp1 hp2 hyp ?_ (p - 1 - y + 1) 0 (Nat.zero_le _) (by omega))
        refine y_iload_n d_Lw_isUndercut_100 rfl 4 rfl ?_
        refine y_iload d_Lw_isUndercut_101 1 rfl ?_
        refine y_if_ne (tgt := 123) d_Lw_isUndercut_103 (by decide) (fun c_103 => ?_) (fun c_103 => ?_)
        · refine y_iconst d_Lw_isUndercut_123 (v := 0) (by decide) ?_
          refine y_callS (As := [.int 0]) (rest := [.int (nI a)]) (csC := []) (is := []) ln_Lw_66 w_st_Lw_told ok_Lw_isUndercut_Lw_told d_Lw_isUndercut_124 (C_Lw_told g 0) rfl rfl (Nat.le_of_ble_eq_true rfl) rfl (by decide) (by omega) (by omega) (fun E cs1 hx => ?_) (fun v cs1 hx => ?_)
          · exact absurd hx.1 (by simp)
          · obtain ⟨e1, rfl⟩ := hx
            cases e1
            refine ⟨rfl, ?_⟩
            refine y_st (st2 := [.int (if (0 : Int32) = 0 then 0 else 1), .int (nI a)]) rfl ?_
            refine y_cs (cs2 := []) rfl ?_
            refine y_iadd d_Lw_isUndercut_127 (v := nI a) tl0n9 ?_
            refine y_istore_n (lv' := [(2, .int (nI a)), (6, .int (nI (p - 1 - (p - 1 - y)))), (5, .int (z_bi (frB (ksD f p x) (p - 1 - y)))), (4, .int (nI y)), (3, .int (nI x)), (1, .int (nI p)), (0, .ref (ad 0))]) d_Lw_isUndercut_128 rfl (by decide) rfl ?_
            refine y_iinc (lv' := [(4, .int (nI (y + 1))), (2, .int (nI a)), (6, .int (nI (p - 1 - (p - 1 - y)))), (5, .int (z_bi (frB (ksD f p x) (p - 1 - y)))), (3, .int (nI x)), (1, .int (nI p)), (0, .ref (ad 0))]) (v := nI (y + 1)) d_Lw_isUndercut_129 (j := 3) rfl (nI_add _ _) (by decide) rfl ?_
            refine y_goto (tgt := 13) d_Lw_isUndercut_132 (by decide) ?_
            refine y_lv (lv' := [(4, .int (nI (y + 1))), (3, .int (nI x)), (2, .int (nI a)), (1, .int (nI p)), (0, .ref (ad 0))]) [0, 4, 1, 5, 6] rfl ?_
            refine y_lv (lv' := [(4, .int (nI (y + 1))), (3, .int (nI x)), (2, .int (nI a)), (1, .int (nI p)), (0, .ref (ad 0))]) [0, 1, 2, 3, 4] rfl ?_
            exact y_bud (by omega) (by omega) (ih x (y + 1) _ hx (by omega) (by omega) (by first | exact un_0 hu9 (Or.inl c_103) hI1 | exact un_0 hu9 (Or.inr c_116) hI1))
        · refine y_aload_n d_Lw_isUndercut_106 rfl 6 rfl ?_
          refine y_iload_n d_Lw_isUndercut_107 rfl 3 rfl ?_
          refine y_iload d_Lw_isUndercut_108 2 rfl ?_
          refine yw_callS (As := [.ref (ad 0), .int (nI x), .int (nI y)]) (rest := [.int (nI a)]) ln_Lw_197 w_st_Lw_at ok_Lw_isUndercut_Lw_at d_Lw_isUndercut_110 (fun wA hA => T_at (x := x) (y := y) (hW.e (z_I.same (z_I.nil _) hA)) hx hy) rfl rfl (Nat.le_of_ble_eq_true rfl) (by omega) (by omega) (fun wA110 hA110 E wB110 hx => ?_) (fun wA110 hA110 v wB110 hx => ?_)
          · exact absurd hx.1 (by simp)
          · obtain ⟨e1, e2⟩ := hx
            cases e1
            refine yw_st (st2 := [.int (f (12 * y + x)), .int (nI a)]) rfl ?_
            subst e2
            refine y_go hA110 ?_
            refine y_callS (As := [.int (f (12 * y + x))]) (rest := [.int (nI a)]) (csC := []) (is := []) ln_Lw_219 w_st_Lw_isMetal ok_Lw_isUndercut_Lw_isMetal d_Lw_isUndercut_113 (C_Lw_isMetal g (f (12 * y + x))) rfl rfl (Nat.le_of_ble_eq_true rfl) rfl (by decide) (by omega) (by omega) (fun E cs1 hx => ?_) (fun v cs1 hx => ?_)
            · exact absurd hx.1 (by simp)
            · obtain ⟨e1, rfl⟩ := hx
              cases e1
              refine ⟨rfl, ?_⟩
              refine y_st (st2 := [.int (z_bi (tmB (f (12 * y + x)))), .int (nI a)]) rfl ?_
              refine y_cs (cs2 := []) rfl ?_
              refine y_if_eq (tgt := 123) d_Lw_isUndercut_116 (by decide) (fun c_116 => ?_) (fun c_116 => ?_)
              · refine y_iconst d_Lw_isUndercut_123 (v := 0) (by decide) ?_
                refine y_callS (As := [.int 0]) (rest := [.int (nI a)]) (csC := []) (is := []) ln_Lw_66 w_st_Lw_told ok_Lw_isUndercut_Lw_told d_Lw_isUndercut_124 (C_Lw_told g 0) rfl rfl (Nat.le_of_ble_eq_true rfl) rfl (by decide) (by omega) (by omega) (fun E cs1 hx => ?_) (fun v cs1 hx => ?_)
                · exact absurd hx.1 (by simp)
                · obtain ⟨e1, rfl⟩ := hx
                  cases e1
                  refine ⟨rfl, ?_⟩
                  refine y_st (st2 := [.int (if (0 : Int32) = 0 then 0 else 1), .int (nI a)]) rfl ?_
                  refine y_cs (cs2 := []) rfl ?_
                  refine y_iadd d_Lw_isUndercut_127 (v := nI a) tl0n9 ?_
                  refine y_istore_n (lv' := [(2, .int (nI a)), (6, .int (nI (p - 1 - (p - 1 - y)))), (5, .int (z_bi (frB (ksD f p x) (p - 1 - y)))), (4, .int (nI y)), (3, .int (nI x)), (1, .int (nI p)), (0, .ref (ad 0))]) d_Lw_isUndercut_128 rfl (by decide) rfl ?_
                  refine y_iinc (lv' := [(4, .int (nI (y + 1))), (2, .int (nI a)), (6, .int (nI (p - 1 - (p - 1 - y)))), (5, .int (z_bi (frB (ksD f p x) (p - 1 - y)))), (3, .int (nI x)), (1, .int (nI p)), (0, .ref (ad 0))]) (v := nI (y + 1)) d_Lw_isUndercut_129 (j := 3) rfl (nI_add _ _) (by decide) rfl ?_
                  refine y_goto (tgt := 13) d_Lw_isUndercut_132 (by decide) ?_
                  refine y_lv (lv' := [(4, .int (nI (y + 1))), (3, .int (nI x)), (2, .int (nI a)), (1, .int (nI p)), (0, .ref (ad 0))]) [0, 4, 1, 5, 6] rfl ?_
                  refine y_lv (lv' := [(4, .int (nI (y + 1))), (3, .int (nI x)), (2, .int (nI a)), (1, .int (nI p)), (0, .ref (ad 0))]) [0, 1, 2, 3, 4] rfl ?_
                  exact y_bud (by omega) (by omega) (ih x (y + 1) _ hx (by omega) (by omega) (by first | exact un_0 hu9 (Or.inl c_103) hI1 | exact un_0 hu9 (Or.inr c_116) hI1))
              · refine y_iconst d_Lw_isUndercut_119 (v := 1) (by decide) ?_
                refine y_goto (tgt := 124) d_Lw_isUndercut_120 (by decide) ?_
                refine y_callS (As := [.int 1]) (rest := [.int (nI a)]) (csC := []) (is := []) ln_Lw_66 w_st_Lw_told ok_Lw_isUndercut_Lw_told d_Lw_isUndercut_124 (C_Lw_told g 1) rfl rfl (Nat.le_of_ble_eq_true rfl) rfl (by decide) (by omega) (by omega) (fun E cs1 hx => ?_) (fun v cs1 hx => ?_)
                · exact absurd hx.1 (by simp)
                · obtain ⟨e1, rfl⟩ := hx
                  cases e1
                  refine ⟨rfl, ?_⟩
                  refine y_st (st2 := [.int (if (1 : Int32) = 0 then 0 else 1), .int (nI a)]) rfl ?_
                  refine y_cs (cs2 := []) rfl ?_
                  refine y_iadd d_Lw_isUndercut_127 (v := nI (a + 1)) tl1n9 ?_
                  refine y_istore_n (lv' := [(2, .int (nI (a + 1))), (6, .int (nI (p - 1 - (p - 1 - y)))), (5, .int (z_bi (frB (ksD f p x) (p - 1 - y)))), (4, .int (nI y)), (3, .int (nI x)), (1, .int (nI p)), (0, .ref (ad 0))]) d_Lw_isUndercut_128 rfl (by decide) rfl ?_
                  refine y_iinc (lv' := [(4, .int (nI (y + 1))), (2, .int (nI (a + 1))), (6, .int (nI (p - 1 - (p - 1 - y)))), (5, .int (z_bi (frB (ksD f p x) (p - 1 - y)))), (3, .int (nI x)), (1, .int (nI p)), (0, .ref (ad 0))]) (v := nI (y + 1)) d_Lw_isUndercut_129 (j := 3) rfl (nI_add _ _) (by decide) rfl ?_
                  refine y_goto (tgt := 13) d_Lw_isUndercut_132 (by decide) ?_
                  refine y_lv (lv' := [(4, .int (nI (y + 1))), (3, .int (nI x)), (2, .int (nI (a + 1))), (1, .int (nI p)), (0, .ref (ad 0))]) [0, 4, 1, 5, 6] rfl ?_
                  refine y_lv (lv' := [(4, .int (nI (y + 1))), (3, .int (nI x)), (2, .int (nI (a + 1))), (1, .int (nI p)), (0, .ref (ad 0))]) [0, 1, 2, 3, 4] rfl ?_
                  exact y_bud (by omega) (by omega) (ih x (y + 1) _ hx (by omega) (by omega) (un_1 hu9 c_103 c_116 hI1))
theorem d_Lw_isUndercut_141 : decode method_21_code 141 = .ok (.aload_n 0, 1) := zo_42 (zd_b zq_method_21_code_4 13 rfl rfl rfl)
theorem d_Lw_isUndercut_142 : decode method_21_code 142 = .ok (.invokevirtual 230, 3) := zo_182 (d := 0) (e := 230) (zd_b zq_method_21_code_4 14 rfl rfl rfl) (zd_b zq_method_21_code_4 15 rfl rfl rfl) (zd_b zq_method_21_code_4 16 rfl rfl rfl)
theorem ok_Lw_isUndercut_Ip_undercut : z_ok M_Lw_isUndercut M_Ip_undercut 0 := ⟨z_mj6 (i := 197) rfl (by decide +kernel), rfl, ⟨by decide +kernel, by decide +kernel, by decide +kernel⟩, ⟨by decide, by decide⟩, z_mj1 (i := 1) rfl (by decide +kernel), rfl⟩
theorem ln_Lw_230 : Cond.methodLink "IronpourLaw" 230 M_Ip_undercut.1 ∈ z_gw := z_mj6 (i := 194) rfl (by decide +kernel)
theorem w_im_Ip_undercut : Cond.instanceMethod M_Ip_undercut.1 ∈ z_gw := z_mj6 (i := 195) rfl (by decide +kernel)
theorem w_se_Ip_undercut : Cond.selects M_Ip_undercut.1.cls M_Ip_undercut.1 M_Ip_undercut.1 ∈ z_gw := z_mj6 (i := 196) rfl (by decide +kernel)
theorem d_Lw_isUndercut_145 : decode method_21_code 145 = .ok (.iload_n 2, 1) := zo_28 (zd_b zq_method_21_code_4 17 rfl rfl rfl)
theorem d_Lw_isUndercut_146 : decode method_21_code 146 = .ok (.if_icmp .ne 18, 3) := zo_160 (d := 0) (e := 18) (zd_b zq_method_21_code_4 18 rfl rfl rfl) (zd_b zq_method_21_code_4 19 rfl rfl rfl) (zd_b zq_method_21_code_4 20 rfl rfl rfl) (by decide +kernel)
theorem d_Lw_isUndercut_149 : decode method_21_code 149 = .ok (.aload_n 0, 1) := zo_42 (zd_b zq_method_21_code_4 21 rfl rfl rfl)
theorem d_Lw_isUndercut_150 : decode method_21_code 150 = .ok (.invokevirtual 233, 3) := zo_182 (d := 0) (e := 233) (zd_b zq_method_21_code_4 22 rfl rfl rfl) (zd_b zq_method_21_code_4 23 rfl rfl rfl) (zd_b zq_method_21_code_4 24 rfl rfl rfl)
theorem ok_Lw_isUndercut_Ip_loose : z_ok M_Lw_isUndercut M_Ip_loose 0 := ⟨z_mj6 (i := 202) rfl (by decide +kernel), rfl, ⟨by decide +kernel, by decide +kernel, by decide +kernel⟩, ⟨by decide, by decide⟩, z_mj1 (i := 1) rfl (by decide +kernel), rfl⟩
theorem ln_Lw_233 : Cond.methodLink "IronpourLaw" 233 M_Ip_loose.1 ∈ z_gw := z_mj6 (i := 199) rfl (by decide +kernel)
theorem w_im_Ip_loose : Cond.instanceMethod M_Ip_loose.1 ∈ z_gw := z_mj6 (i := 200) rfl (by decide +kernel)
theorem w_se_Ip_loose : Cond.selects M_Ip_loose.1.cls M_Ip_loose.1 M_Ip_loose.1 ∈ z_gw := z_mj6 (i := 201) rfl (by decide +kernel)
theorem d_Lw_isUndercut_153 : decode method_21_code 153 = .ok (.aload_n 0, 1) := zo_42 (zd_b zq_method_21_code_4 25 rfl rfl rfl)
theorem d_Lw_isUndercut_154 : decode method_21_code 154 = .ok (.invokevirtual 236, 3) := zo_182 (d := 0) (e := 236) (zd_b zq_method_21_code_4 26 rfl rfl rfl) (zd_b zq_method_21_code_4 27 rfl rfl rfl) (zd_b zq_method_21_code_4 28 rfl rfl rfl)
theorem ok_Lw_isUndercut_Ip_cores : z_ok M_Lw_isUndercut M_Ip_cores 0 := ⟨z_mj6 (i := 207) rfl (by decide +kernel), rfl, ⟨by decide +kernel, by decide +kernel, by decide +kernel⟩, ⟨by decide, by decide⟩, z_mj1 (i := 1) rfl (by decide +kernel), rfl⟩
theorem ln_Lw_236 : Cond.methodLink "IronpourLaw" 236 M_Ip_cores.1 ∈ z_gw := z_mj6 (i := 204) rfl (by decide +kernel)
theorem w_im_Ip_cores : Cond.instanceMethod M_Ip_cores.1 ∈ z_gw := z_mj6 (i := 205) rfl (by decide +kernel)
theorem w_se_Ip_cores : Cond.selects M_Ip_cores.1.cls M_Ip_cores.1 M_Ip_cores.1 ∈ z_gw := z_mj6 (i := 206) rfl (by decide +kernel)
theorem d_Lw_isUndercut_157 : decode method_21_code 157 = .ok (.if_icmp .gt 7, 3) := zo_163 (d := 0) (e := 7) (zd_b zq_method_21_code_4 29 rfl rfl rfl) (zd_b zq_method_21_code_4 30 rfl rfl rfl) (zd_b zq_method_21_code_4 31 rfl rfl rfl) (by decide +kernel)
theorem d_Lw_isUndercut_160 : decode method_21_code 160 = .ok (.iconst 1, 1) := zo_4 (zd_b zq_method_21_code_5 0 rfl rfl rfl)
theorem d_Lw_isUndercut_161 : decode method_21_code 161 = .ok (.goto 4, 3) := zo_167 (d := 0) (e := 4) (zd_b zq_method_21_code_5 1 rfl rfl rfl) (zd_b zq_method_21_code_5 2 rfl rfl rfl) (zd_b zq_method_21_code_5 3 rfl rfl rfl) (by decide +kernel)
theorem d_Lw_isUndercut_165 : decode method_21_code 165 = .ok (.ireturn, 1) := zo_172 (zd_b zq_method_21_code_5 5 rfl rfl rfl)
set_option maxHeartbeats 4000000 in
set_option maxRecDepth 100000 in
theorem U_end (g : zG) {ad : Nat → Nat} {t0 : zTT} {u : zNN} {f : Nat → Int32} {p : Nat} {w : zW} (hW : Wd g ad t0 u f p w) : DU g M_Lw_isUndercut (fun o w1 => o = .inl (some (.int 1)) ∧ Wd g ad t0 u f p w1) w 0 141 [(2, .int (nI (ucT f p 12))), (1, .int (nI p)), (0, .ref (ad 0))] [] [] (3) (18) := by
  refine y_aload_n d_Lw_isUndercut_141 rfl 2 rfl ?_
  refine yw_callVL (As := []) (rest := []) (ci := 11) rfl (fun wA hA => (hW.e (z_I.same (z_I.nil _) hA)).ra) ln_Lw_230 w_im_Ip_undercut w_se_Ip_undercut ok_Lw_isUndercut_Ip_undercut d_Lw_isUndercut_142 (fun wA hA => G_undercut (hW.e (z_I.same (z_I.nil _) hA)) ) rfl rfl (Nat.le_of_ble_eq_true rfl) (by omega) (by omega) (fun wA142 hA142 E wB142 hx => ?_) (fun wA142 hA142 v wB142 hx => ?_)
  · obtain ⟨e9, -⟩ := hx
    cases e9
  · obtain ⟨e9, hW2⟩ := hx
    cases e9
    refine yw_st (st2 := [.int (nI (ucT f p 12))]) rfl ?_
    refine y_base (cs := []) (z_I.nil _) ?_
    refine y_iload_n d_Lw_isUndercut_145 rfl 0 rfl ?_
    refine y_icmp_ne (tgt := 164) d_Lw_isUndercut_146 (by decide) (fun c_146 => ?_) (fun c_146 => ?_)
    · exact absurd rfl c_146
    · refine y_aload_n d_Lw_isUndercut_149 rfl 2 rfl ?_
      refine yw_callVL (As := []) (rest := []) (ci := 11) rfl (fun wA hA => (hW2.e (z_I.same (z_I.nil _) hA)).ra) ln_Lw_233 w_im_Ip_loose w_se_Ip_loose ok_Lw_isUndercut_Ip_loose d_Lw_isUndercut_150 (fun wA hA => G_loose (hW2.e (z_I.same (z_I.nil _) hA)) ) rfl rfl (Nat.le_of_ble_eq_true rfl) (by omega) (by omega) (fun wA150 hA150 E wB150 hx => ?_) (fun wA150 hA150 v wB150 hx => ?_)
      · obtain ⟨e9, -⟩ := hx
        cases e9
      · obtain ⟨e9, hW3⟩ := hx
        cases e9
        refine yw_st (st2 := [.int (nI (loN f))]) rfl ?_
        refine y_base (cs := []) (z_I.nil _) ?_
        refine y_aload_n d_Lw_isUndercut_153 rfl 2 rfl ?_
        refine yw_callVL (As := []) (rest := [.int (nI (loN f))]) (ci := 11) rfl (fun wA hA => (hW3.e (z_I.same (z_I.nil _) hA)).ra) ln_Lw_236 w_im_Ip_cores w_se_Ip_cores ok_Lw_isUndercut_Ip_cores d_Lw_isUndercut_154 (fun wA hA => G_cores (hW3.e (z_I.same (z_I.nil _) hA)) ) rfl rfl (Nat.le_of_ble_eq_true rfl) (by omega) (by omega) (fun wA154 hA154 E wB154 hx => ?_) (fun wA154 hA154 v wB154 hx => ?_)
        · obtain ⟨e9, -⟩ := hx
          cases e9
        · obtain ⟨e9, hW4⟩ := hx
          cases e9
          refine yw_st (st2 := [.int (nI (coN f)), .int (nI (loN f))]) rfl ?_
          refine y_base (cs := []) (z_I.nil _) ?_
          refine y_icmp_gt (tgt := 164) d_Lw_isUndercut_157 (by decide) (fun c_157 => ?_) (fun c_157 => ?_)
          · exact absurd (z_lt (a := coN f) (b := loN f) (Nat.lt_of_le_of_lt (lo_co f) co_lt) co_lt c_157) (Nat.not_lt.mpr (lo_co f))
          · refine y_iconst d_Lw_isUndercut_160 (v := 1) (by decide) ?_
            refine y_goto (tgt := 165) d_Lw_isUndercut_161 (by decide) ?_
            refine y_iret d_Lw_isUndercut_165 rfl rfl ?_
            exact fun w1 k1 => ⟨rfl, hW4.e (z_I.same (z_I.nil _) k1)⟩
theorem d_Lw_isUndercut_0 : decode method_21_code 0 = .ok (.iconst 0, 1) := zo_3 (zd_b zq_method_21_code_0 0 rfl rfl rfl)
theorem d_Lw_isUndercut_1 : decode method_21_code 1 = .ok (.istore_n 2, 1) := zo_61 (zd_b zq_method_21_code_0 1 rfl rfl rfl)
theorem d_Lw_isUndercut_2 : decode method_21_code 2 = .ok (.iconst 0, 1) := zo_3 (zd_b zq_method_21_code_0 2 rfl rfl rfl)
theorem d_Lw_isUndercut_3 : decode method_21_code 3 = .ok (.istore_n 3, 1) := zo_62 (zd_b zq_method_21_code_0 3 rfl rfl rfl)
set_option maxHeartbeats 4000000 in
set_option maxRecDepth 100000 in
theorem Z_isUndercut {g : zG} {ad : Nat → Nat} {t0 : zTT} {u : zNN} {f : Nat → Int32} {p : Nat} {w : zW} (hW : Wd g ad t0 u f p w) (hp1 : 1 ≤ p) (hp2 : p < 9) : zMB g M_Lw_isUndercut [.ref (ad 0), .int (nI p)] w (fun o w1 => o = .inl (some (.int 1)) ∧ Wd g ad t0 u f p w1) 2200 13000 := by
  refine y_of (by decide) rfl (Nat.le_of_ble_eq_true rfl) (y_base (cs := []) (z_I.nil w) ?_)
  refine y_lvE (lv2 := [(0, .ref (ad 0)), (1, .int (nI p))]) rfl ?_
  refine y_iconst d_Lw_isUndercut_0 (v := 0) (by decide) ?_
  refine y_istore_n (lv' := [(2, .int 0), (0, .ref (ad 0)), (1, .int (nI p))]) d_Lw_isUndercut_1 rfl (by decide) rfl ?_
  refine y_iconst d_Lw_isUndercut_2 (v := 0) (by decide) ?_
  refine y_istore_n (lv' := [(3, .int 0), (2, .int 0), (0, .ref (ad 0)), (1, .int (nI p))]) d_Lw_isUndercut_3 rfl (by decide) rfl ?_
  refine y_iload_n d_Lw_isUndercut_4 rfl 0 rfl ?_
  refine y_bipush d_Lw_isUndercut_5 (v := 12) (by decide) ?_
  refine y_icmp_ge (tgt := 141) d_Lw_isUndercut_7 (by decide) (fun c_7 => ?_) (fun c_7 => ?_)
  · exact absurd c_7 (by decide)
  · refine y_iconst d_Lw_isUndercut_10 (v := 0) (by decide) ?_
    refine y_istore (lv' := [(4, .int 0), (3, .int 0), (2, .int 0), (0, .ref (ad 0)), (1, .int (nI p))]) d_Lw_isUndercut_11 (by decide) rfl ?_
    refine y_lv (lv' := [(4, .int 0), (3, .int 0), (2, .int 0), (1, .int (nI p)), (0, .ref (ad 0))]) [0, 1, 2, 4, 3] rfl ?_
    refine y_lv (lv' := [(4, .int 0), (3, .int 0), (2, .int 0), (1, .int (nI p)), (0, .ref (ad 0))]) [0, 1, 2, 3, 4] rfl ?_
    refine y_lvE (lv2 := [(4, .int (nI 0)), (3, .int (nI 0)), (2, .int (nI 0)), (1, .int (nI p)), (0, .ref (ad 0))]) rfl ?_
    exact y_bud (by omega) (by omega) (U_cells g hW hp1 hp2 (U_end g hW) 200 0 0 0 (by decide) (by decide) (by decide) rfl)
abbrev M_Lw_drawn : zM := (⟨"IronpourLaw", "drawn", "(LIronpour;[II)V"⟩, method_10_code, 5, (Option.none : Option FieldType), 12, 305, [])
theorem d_Lw_drawn_0 : decode method_10_code 0 = .ok (.aload_n 0, 1) := zo_42 (zd_b zq_method_10_code_0 0 rfl rfl rfl)
theorem d_Lw_drawn_1 : decode method_10_code 1 = .ok (.iconst 0, 1) := zo_3 (zd_b zq_method_10_code_0 1 rfl rfl rfl)
theorem d_Lw_drawn_2 : decode method_10_code 2 = .ok (.bipush 99, 2) := zo_16 (d := 99) (zd_b zq_method_10_code_0 2 rfl rfl rfl) (zd_b zq_method_10_code_0 3 rfl rfl rfl) (by decide +kernel)
theorem d_Lw_drawn_4 : decode method_10_code 4 = .ok (.aload_n 1, 1) := zo_43 (zd_b zq_method_10_code_0 4 rfl rfl rfl)
theorem d_Lw_drawn_5 : decode method_10_code 5 = .ok (.iload_n 2, 1) := zo_28 (zd_b zq_method_10_code_0 5 rfl rfl rfl)
theorem d_Lw_drawn_6 : decode method_10_code 6 = .ok (.bipush 6, 2) := zo_16 (d := 6) (zd_b zq_method_10_code_0 6 rfl rfl rfl) (zd_b zq_method_10_code_0 7 rfl rfl rfl) (by decide +kernel)
theorem d_Lw_drawn_8 : decode method_10_code 8 = .ok (.invokestatic 182, 3) := zo_184 (d := 0) (e := 182) (zd_b zq_method_10_code_0 8 rfl rfl rfl) (zd_b zq_method_10_code_0 9 rfl rfl rfl) (zd_b zq_method_10_code_0 10 rfl rfl rfl)
theorem ok_Lw_drawn_Lw_pick : z_ok M_Lw_drawn M_Lw_pick 3 := ⟨z_mj2 (i := 216) rfl (by decide +kernel), rfl, ⟨by decide +kernel, by decide +kernel, by decide +kernel⟩, ⟨by decide, by decide⟩, z_mj1 (i := 0) rfl (by decide +kernel), rfl⟩
theorem ln_Lw_182 : Cond.methodLink "IronpourLaw" 182 M_Lw_pick.1 ∈ z_gw := z_mj2 (i := 214) rfl (by decide +kernel)
theorem w_st_Lw_pick : Cond.static M_Lw_pick.1 ∈ z_gw := z_mj2 (i := 215) rfl (by decide +kernel)
theorem d_Lw_drawn_11 : decode method_10_code 11 = .ok (.iconst 3, 1) := zo_6 (zd_b zq_method_10_code_0 11 rfl rfl rfl)
theorem d_Lw_drawn_12 : decode method_10_code 12 = .ok (.aload_n 1, 1) := zo_43 (zd_b zq_method_10_code_0 12 rfl rfl rfl)
theorem d_Lw_drawn_13 : decode method_10_code 13 = .ok (.iload_n 2, 1) := zo_28 (zd_b zq_method_10_code_0 13 rfl rfl rfl)
theorem d_Lw_drawn_14 : decode method_10_code 14 = .ok (.iconst 1, 1) := zo_4 (zd_b zq_method_10_code_0 14 rfl rfl rfl)
theorem d_Lw_drawn_15 : decode method_10_code 15 = .ok (.iadd, 1) := zo_96 (zd_b zq_method_10_code_0 15 rfl rfl rfl)
theorem d_Lw_drawn_16 : decode method_10_code 16 = .ok (.iconst 3, 1) := zo_6 (zd_b zq_method_10_code_0 16 rfl rfl rfl)
theorem d_Lw_drawn_17 : decode method_10_code 17 = .ok (.invokestatic 182, 3) := zo_184 (d := 0) (e := 182) (zd_b zq_method_10_code_0 17 rfl rfl rfl) (zd_b zq_method_10_code_0 18 rfl rfl rfl) (zd_b zq_method_10_code_0 19 rfl rfl rfl)
theorem d_Lw_drawn_20 : decode method_10_code 20 = .ok (.iadd, 1) := zo_96 (zd_b zq_method_10_code_0 20 rfl rfl rfl)
theorem d_Lw_drawn_21 : decode method_10_code 21 = .ok (.iconst 2, 1) := zo_5 (zd_b zq_method_10_code_0 21 rfl rfl rfl)
theorem d_Lw_drawn_22 : decode method_10_code 22 = .ok (.aload_n 1, 1) := zo_43 (zd_b zq_method_10_code_0 22 rfl rfl rfl)
theorem d_Lw_drawn_23 : decode method_10_code 23 = .ok (.iload_n 2, 1) := zo_28 (zd_b zq_method_10_code_0 23 rfl rfl rfl)
theorem d_Lw_drawn_24 : decode method_10_code 24 = .ok (.iconst 2, 1) := zo_5 (zd_b zq_method_10_code_0 24 rfl rfl rfl)
theorem d_Lw_drawn_25 : decode method_10_code 25 = .ok (.iadd, 1) := zo_96 (zd_b zq_method_10_code_0 25 rfl rfl rfl)
theorem d_Lw_drawn_26 : decode method_10_code 26 = .ok (.iconst 5, 1) := zo_8 (zd_b zq_method_10_code_0 26 rfl rfl rfl)
theorem d_Lw_drawn_27 : decode method_10_code 27 = .ok (.invokestatic 182, 3) := zo_184 (d := 0) (e := 182) (zd_b zq_method_10_code_0 27 rfl rfl rfl) (zd_b zq_method_10_code_0 28 rfl rfl rfl) (zd_b zq_method_10_code_0 29 rfl rfl rfl)
theorem d_Lw_drawn_30 : decode method_10_code 30 = .ok (.iadd, 1) := zo_96 (zd_b zq_method_10_code_0 30 rfl rfl rfl)
theorem d_Lw_drawn_31 : decode method_10_code 31 = .ok (.iconst 1, 1) := zo_4 (zd_b zq_method_10_code_0 31 rfl rfl rfl)
theorem d_Lw_drawn_32 : decode method_10_code 32 = .ok (.aload_n 1, 1) := zo_43 (zd_b zq_method_10_code_1 0 rfl rfl rfl)
theorem d_Lw_drawn_33 : decode method_10_code 33 = .ok (.iload_n 2, 1) := zo_28 (zd_b zq_method_10_code_1 1 rfl rfl rfl)
theorem d_Lw_drawn_34 : decode method_10_code 34 = .ok (.iconst 3, 1) := zo_6 (zd_b zq_method_10_code_1 2 rfl rfl rfl)
theorem d_Lw_drawn_35 : decode method_10_code 35 = .ok (.iadd, 1) := zo_96 (zd_b zq_method_10_code_1 3 rfl rfl rfl)
theorem d_Lw_drawn_36 : decode method_10_code 36 = .ok (.iconst 3, 1) := zo_6 (zd_b zq_method_10_code_1 4 rfl rfl rfl)
theorem d_Lw_drawn_37 : decode method_10_code 37 = .ok (.invokestatic 182, 3) := zo_184 (d := 0) (e := 182) (zd_b zq_method_10_code_1 5 rfl rfl rfl) (zd_b zq_method_10_code_1 6 rfl rfl rfl) (zd_b zq_method_10_code_1 7 rfl rfl rfl)
theorem d_Lw_drawn_40 : decode method_10_code 40 = .ok (.iadd, 1) := zo_96 (zd_b zq_method_10_code_1 8 rfl rfl rfl)
theorem d_Lw_drawn_41 : decode method_10_code 41 = .ok (.invokestatic 175, 3) := zo_184 (d := 0) (e := 175) (zd_b zq_method_10_code_1 9 rfl rfl rfl) (zd_b zq_method_10_code_1 10 rfl rfl rfl) (zd_b zq_method_10_code_1 11 rfl rfl rfl)
theorem ok_Lw_drawn_Lw_deed : z_okX M_Lw_drawn M_Lw_deed 7 := ⟨z_mj2 (i := 227) rfl (by decide +kernel), by decide, ⟨by decide +kernel, by decide +kernel, by decide +kernel⟩, ⟨by decide, by decide⟩, z_mj1 (i := 0) rfl (by decide +kernel), rfl⟩
theorem d_Lw_drawn_44 : decode method_10_code 44 = .ok (.pop, 1) := zo_87 (zd_b zq_method_10_code_1 12 rfl rfl rfl)
theorem d_Lw_drawn_45 : decode method_10_code 45 = .ok (.aload_n 0, 1) := zo_42 (zd_b zq_method_10_code_1 13 rfl rfl rfl)
theorem d_Lw_drawn_46 : decode method_10_code 46 = .ok (.iconst 0, 1) := zo_3 (zd_b zq_method_10_code_1 14 rfl rfl rfl)
theorem d_Lw_drawn_47 : decode method_10_code 47 = .ok (.bipush 103, 2) := zo_16 (d := 103) (zd_b zq_method_10_code_1 15 rfl rfl rfl) (zd_b zq_method_10_code_1 16 rfl rfl rfl) (by decide +kernel)
theorem d_Lw_drawn_49 : decode method_10_code 49 = .ok (.aload_n 1, 1) := zo_43 (zd_b zq_method_10_code_1 17 rfl rfl rfl)
theorem d_Lw_drawn_50 : decode method_10_code 50 = .ok (.iload_n 2, 1) := zo_28 (zd_b zq_method_10_code_1 18 rfl rfl rfl)
theorem d_Lw_drawn_51 : decode method_10_code 51 = .ok (.bipush 6, 2) := zo_16 (d := 6) (zd_b zq_method_10_code_1 19 rfl rfl rfl) (zd_b zq_method_10_code_1 20 rfl rfl rfl) (by decide +kernel)
theorem d_Lw_drawn_53 : decode method_10_code 53 = .ok (.invokestatic 182, 3) := zo_184 (d := 0) (e := 182) (zd_b zq_method_10_code_1 21 rfl rfl rfl) (zd_b zq_method_10_code_1 22 rfl rfl rfl) (zd_b zq_method_10_code_1 23 rfl rfl rfl)
theorem d_Lw_drawn_56 : decode method_10_code 56 = .ok (.iconst 0, 1) := zo_3 (zd_b zq_method_10_code_1 24 rfl rfl rfl)
theorem d_Lw_drawn_57 : decode method_10_code 57 = .ok (.iconst 1, 1) := zo_4 (zd_b zq_method_10_code_1 25 rfl rfl rfl)
theorem d_Lw_drawn_58 : decode method_10_code 58 = .ok (.aload_n 1, 1) := zo_43 (zd_b zq_method_10_code_1 26 rfl rfl rfl)
theorem d_Lw_drawn_59 : decode method_10_code 59 = .ok (.iload_n 2, 1) := zo_28 (zd_b zq_method_10_code_1 27 rfl rfl rfl)
theorem d_Lw_drawn_60 : decode method_10_code 60 = .ok (.iconst 4, 1) := zo_7 (zd_b zq_method_10_code_1 28 rfl rfl rfl)
theorem d_Lw_drawn_61 : decode method_10_code 61 = .ok (.iadd, 1) := zo_96 (zd_b zq_method_10_code_1 29 rfl rfl rfl)
theorem d_Lw_drawn_62 : decode method_10_code 62 = .ok (.iconst 2, 1) := zo_5 (zd_b zq_method_10_code_1 30 rfl rfl rfl)
theorem d_Lw_drawn_63 : decode method_10_code 63 = .ok (.invokestatic 182, 3) := zo_184 (d := 0) (e := 182) (zd_b zq_method_10_code_1 31 rfl rfl rfl) (zd_b zq_method_10_code_2 0 rfl rfl rfl) (zd_b zq_method_10_code_2 1 rfl rfl rfl)
theorem d_Lw_drawn_66 : decode method_10_code 66 = .ok (.iadd, 1) := zo_96 (zd_b zq_method_10_code_2 2 rfl rfl rfl)
theorem d_Lw_drawn_67 : decode method_10_code 67 = .ok (.iconst 3, 1) := zo_6 (zd_b zq_method_10_code_2 3 rfl rfl rfl)
theorem d_Lw_drawn_68 : decode method_10_code 68 = .ok (.aload_n 1, 1) := zo_43 (zd_b zq_method_10_code_2 4 rfl rfl rfl)
theorem d_Lw_drawn_69 : decode method_10_code 69 = .ok (.iload_n 2, 1) := zo_28 (zd_b zq_method_10_code_2 5 rfl rfl rfl)
theorem d_Lw_drawn_70 : decode method_10_code 70 = .ok (.iconst 5, 1) := zo_8 (zd_b zq_method_10_code_2 6 rfl rfl rfl)
theorem d_Lw_drawn_71 : decode method_10_code 71 = .ok (.iadd, 1) := zo_96 (zd_b zq_method_10_code_2 7 rfl rfl rfl)
theorem d_Lw_drawn_72 : decode method_10_code 72 = .ok (.iconst 3, 1) := zo_6 (zd_b zq_method_10_code_2 8 rfl rfl rfl)
theorem d_Lw_drawn_73 : decode method_10_code 73 = .ok (.invokestatic 182, 3) := zo_184 (d := 0) (e := 182) (zd_b zq_method_10_code_2 9 rfl rfl rfl) (zd_b zq_method_10_code_2 10 rfl rfl rfl) (zd_b zq_method_10_code_2 11 rfl rfl rfl)
theorem d_Lw_drawn_76 : decode method_10_code 76 = .ok (.iadd, 1) := zo_96 (zd_b zq_method_10_code_2 12 rfl rfl rfl)
theorem d_Lw_drawn_77 : decode method_10_code 77 = .ok (.invokestatic 175, 3) := zo_184 (d := 0) (e := 175) (zd_b zq_method_10_code_2 13 rfl rfl rfl) (zd_b zq_method_10_code_2 14 rfl rfl rfl) (zd_b zq_method_10_code_2 15 rfl rfl rfl)
theorem d_Lw_drawn_80 : decode method_10_code 80 = .ok (.pop, 1) := zo_87 (zd_b zq_method_10_code_2 16 rfl rfl rfl)
theorem d_Lw_drawn_81 : decode method_10_code 81 = .ok (.iconst 0, 1) := zo_3 (zd_b zq_method_10_code_2 17 rfl rfl rfl)
theorem d_Lw_drawn_82 : decode method_10_code 82 = .ok (.istore_n 3, 1) := zo_62 (zd_b zq_method_10_code_2 18 rfl rfl rfl)
theorem d_Lw_drawn_83 : decode method_10_code 83 = .ok (.iload_n 3, 1) := zo_29 (zd_b zq_method_10_code_2 19 rfl rfl rfl)
theorem d_Lw_drawn_84 : decode method_10_code 84 = .ok (.iconst 4, 1) := zo_7 (zd_b zq_method_10_code_2 20 rfl rfl rfl)
theorem d_Lw_drawn_85 : decode method_10_code 85 = .ok (.if_icmp .ge 80, 3) := zo_162 (d := 0) (e := 80) (zd_b zq_method_10_code_2 21 rfl rfl rfl) (zd_b zq_method_10_code_2 22 rfl rfl rfl) (zd_b zq_method_10_code_2 23 rfl rfl rfl) (by decide +kernel)
theorem d_Lw_drawn_88 : decode method_10_code 88 = .ok (.iload_n 2, 1) := zo_28 (zd_b zq_method_10_code_2 24 rfl rfl rfl)
theorem d_Lw_drawn_89 : decode method_10_code 89 = .ok (.bipush 6, 2) := zo_16 (d := 6) (zd_b zq_method_10_code_2 25 rfl rfl rfl) (zd_b zq_method_10_code_2 26 rfl rfl rfl) (by decide +kernel)
theorem d_Lw_drawn_91 : decode method_10_code 91 = .ok (.iadd, 1) := zo_96 (zd_b zq_method_10_code_2 27 rfl rfl rfl)
theorem d_Lw_drawn_92 : decode method_10_code 92 = .ok (.iconst 5, 1) := zo_8 (zd_b zq_method_10_code_2 28 rfl rfl rfl)
theorem d_Lw_drawn_93 : decode method_10_code 93 = .ok (.iload_n 3, 1) := zo_29 (zd_b zq_method_10_code_2 29 rfl rfl rfl)
theorem d_Lw_drawn_94 : decode method_10_code 94 = .ok (.imul, 1) := zo_104 (zd_b zq_method_10_code_2 30 rfl rfl rfl)
theorem d_Lw_drawn_95 : decode method_10_code 95 = .ok (.iadd, 1) := zo_96 (zd_b zq_method_10_code_2 31 rfl rfl rfl)
theorem d_Lw_drawn_96 : decode method_10_code 96 = .ok (.istore 4, 2) := zo_54 (d := 4) (zd_b zq_method_10_code_3 0 rfl rfl rfl) (zd_b zq_method_10_code_3 1 rfl rfl rfl)
theorem d_Lw_drawn_98 : decode method_10_code 98 = .ok (.aload_n 0, 1) := zo_42 (zd_b zq_method_10_code_3 2 rfl rfl rfl)
theorem d_Lw_drawn_99 : decode method_10_code 99 = .ok (.iconst 0, 1) := zo_3 (zd_b zq_method_10_code_3 3 rfl rfl rfl)
theorem d_Lw_drawn_100 : decode method_10_code 100 = .ok (.ldc 186, 2) := zo_18 (d := 186) (zd_b zq_method_10_code_3 4 rfl rfl rfl) (zd_b zq_method_10_code_3 5 rfl rfl rfl)
theorem d_Lw_drawn_102 : decode method_10_code 102 = .ok (.aload_n 1, 1) := zo_43 (zd_b zq_method_10_code_3 6 rfl rfl rfl)
theorem d_Lw_drawn_103 : decode method_10_code 103 = .ok (.iload 4, 2) := zo_21 (d := 4) (zd_b zq_method_10_code_3 7 rfl rfl rfl) (zd_b zq_method_10_code_3 8 rfl rfl rfl)
theorem d_Lw_drawn_105 : decode method_10_code 105 = .ok (.bipush 6, 2) := zo_16 (d := 6) (zd_b zq_method_10_code_3 9 rfl rfl rfl) (zd_b zq_method_10_code_3 10 rfl rfl rfl) (by decide +kernel)
theorem d_Lw_drawn_107 : decode method_10_code 107 = .ok (.invokestatic 182, 3) := zo_184 (d := 0) (e := 182) (zd_b zq_method_10_code_3 11 rfl rfl rfl) (zd_b zq_method_10_code_3 12 rfl rfl rfl) (zd_b zq_method_10_code_3 13 rfl rfl rfl)
theorem d_Lw_drawn_110 : decode method_10_code 110 = .ok (.invokevirtual 188, 3) := zo_182 (d := 0) (e := 188) (zd_b zq_method_10_code_3 14 rfl rfl rfl) (zd_b zq_method_10_code_3 15 rfl rfl rfl) (zd_b zq_method_10_code_3 16 rfl rfl rfl)
theorem ok_Lw_drawn_String_charAt : z_ok M_Lw_drawn M_String_charAt 1 := ⟨z_mj6 (i := 141) rfl (by decide +kernel), rfl, ⟨by decide +kernel, by decide +kernel, by decide +kernel⟩, ⟨by decide, by decide⟩, z_mj1 (i := 19) rfl (by decide +kernel), rfl⟩
theorem ln_Lw_188 : Cond.methodLink "IronpourLaw" 188 M_String_charAt.1 ∈ z_gw := z_mj6 (i := 138) rfl (by decide +kernel)
theorem w_im_String_charAt : Cond.instanceMethod M_String_charAt.1 ∈ z_gw := z_mj6 (i := 139) rfl (by decide +kernel)
theorem w_se_String_charAt : Cond.selects M_String_charAt.1.cls M_String_charAt.1 M_String_charAt.1 ∈ z_gw := z_mj6 (i := 140) rfl (by decide +kernel)
theorem d_Lw_drawn_113 : decode method_10_code 113 = .ok (.aload_n 1, 1) := zo_43 (zd_b zq_method_10_code_3 17 rfl rfl rfl)
theorem d_Lw_drawn_114 : decode method_10_code 114 = .ok (.iload 4, 2) := zo_21 (d := 4) (zd_b zq_method_10_code_3 18 rfl rfl rfl) (zd_b zq_method_10_code_3 19 rfl rfl rfl)
theorem d_Lw_drawn_116 : decode method_10_code 116 = .ok (.iconst 1, 1) := zo_4 (zd_b zq_method_10_code_3 20 rfl rfl rfl)
theorem d_Lw_drawn_117 : decode method_10_code 117 = .ok (.iadd, 1) := zo_96 (zd_b zq_method_10_code_3 21 rfl rfl rfl)
theorem d_Lw_drawn_118 : decode method_10_code 118 = .ok (.bipush 12, 2) := zo_16 (d := 12) (zd_b zq_method_10_code_3 22 rfl rfl rfl) (zd_b zq_method_10_code_3 23 rfl rfl rfl) (by decide +kernel)
theorem d_Lw_drawn_120 : decode method_10_code 120 = .ok (.invokestatic 182, 3) := zo_184 (d := 0) (e := 182) (zd_b zq_method_10_code_3 24 rfl rfl rfl) (zd_b zq_method_10_code_3 25 rfl rfl rfl) (zd_b zq_method_10_code_3 26 rfl rfl rfl)
theorem d_Lw_drawn_123 : decode method_10_code 123 = .ok (.aload_n 1, 1) := zo_43 (zd_b zq_method_10_code_3 27 rfl rfl rfl)
theorem d_Lw_drawn_124 : decode method_10_code 124 = .ok (.iload 4, 2) := zo_21 (d := 4) (zd_b zq_method_10_code_3 28 rfl rfl rfl) (zd_b zq_method_10_code_3 29 rfl rfl rfl)
theorem d_Lw_drawn_126 : decode method_10_code 126 = .ok (.iconst 2, 1) := zo_5 (zd_b zq_method_10_code_3 30 rfl rfl rfl)
theorem d_Lw_drawn_127 : decode method_10_code 127 = .ok (.iadd, 1) := zo_96 (zd_b zq_method_10_code_3 31 rfl rfl rfl)
theorem d_Lw_drawn_128 : decode method_10_code 128 = .ok (.bipush 9, 2) := zo_16 (d := 9) (zd_b zq_method_10_code_4 0 rfl rfl rfl) (zd_b zq_method_10_code_4 1 rfl rfl rfl) (by decide +kernel)
theorem d_Lw_drawn_130 : decode method_10_code 130 = .ok (.invokestatic 182, 3) := zo_184 (d := 0) (e := 182) (zd_b zq_method_10_code_4 2 rfl rfl rfl) (zd_b zq_method_10_code_4 3 rfl rfl rfl) (zd_b zq_method_10_code_4 4 rfl rfl rfl)
theorem d_Lw_drawn_133 : decode method_10_code 133 = .ok (.iconst 1, 1) := zo_4 (zd_b zq_method_10_code_4 5 rfl rfl rfl)
theorem d_Lw_drawn_134 : decode method_10_code 134 = .ok (.aload_n 1, 1) := zo_43 (zd_b zq_method_10_code_4 6 rfl rfl rfl)
theorem d_Lw_drawn_135 : decode method_10_code 135 = .ok (.iload 4, 2) := zo_21 (d := 4) (zd_b zq_method_10_code_4 7 rfl rfl rfl) (zd_b zq_method_10_code_4 8 rfl rfl rfl)
theorem d_Lw_drawn_137 : decode method_10_code 137 = .ok (.iconst 3, 1) := zo_6 (zd_b zq_method_10_code_4 9 rfl rfl rfl)
theorem d_Lw_drawn_138 : decode method_10_code 138 = .ok (.iadd, 1) := zo_96 (zd_b zq_method_10_code_4 10 rfl rfl rfl)
theorem d_Lw_drawn_139 : decode method_10_code 139 = .ok (.iconst 3, 1) := zo_6 (zd_b zq_method_10_code_4 11 rfl rfl rfl)
theorem d_Lw_drawn_140 : decode method_10_code 140 = .ok (.invokestatic 182, 3) := zo_184 (d := 0) (e := 182) (zd_b zq_method_10_code_4 12 rfl rfl rfl) (zd_b zq_method_10_code_4 13 rfl rfl rfl) (zd_b zq_method_10_code_4 14 rfl rfl rfl)
theorem d_Lw_drawn_143 : decode method_10_code 143 = .ok (.iadd, 1) := zo_96 (zd_b zq_method_10_code_4 15 rfl rfl rfl)
theorem d_Lw_drawn_144 : decode method_10_code 144 = .ok (.iconst 1, 1) := zo_4 (zd_b zq_method_10_code_4 16 rfl rfl rfl)
theorem d_Lw_drawn_145 : decode method_10_code 145 = .ok (.aload_n 1, 1) := zo_43 (zd_b zq_method_10_code_4 17 rfl rfl rfl)
theorem d_Lw_drawn_146 : decode method_10_code 146 = .ok (.iload 4, 2) := zo_21 (d := 4) (zd_b zq_method_10_code_4 18 rfl rfl rfl) (zd_b zq_method_10_code_4 19 rfl rfl rfl)
theorem d_Lw_drawn_148 : decode method_10_code 148 = .ok (.iconst 4, 1) := zo_7 (zd_b zq_method_10_code_4 20 rfl rfl rfl)
theorem d_Lw_drawn_149 : decode method_10_code 149 = .ok (.iadd, 1) := zo_96 (zd_b zq_method_10_code_4 21 rfl rfl rfl)
theorem d_Lw_drawn_150 : decode method_10_code 150 = .ok (.iconst 3, 1) := zo_6 (zd_b zq_method_10_code_4 22 rfl rfl rfl)
theorem d_Lw_drawn_151 : decode method_10_code 151 = .ok (.invokestatic 182, 3) := zo_184 (d := 0) (e := 182) (zd_b zq_method_10_code_4 23 rfl rfl rfl) (zd_b zq_method_10_code_4 24 rfl rfl rfl) (zd_b zq_method_10_code_4 25 rfl rfl rfl)
theorem d_Lw_drawn_154 : decode method_10_code 154 = .ok (.iadd, 1) := zo_96 (zd_b zq_method_10_code_4 26 rfl rfl rfl)
theorem d_Lw_drawn_155 : decode method_10_code 155 = .ok (.invokestatic 175, 3) := zo_184 (d := 0) (e := 175) (zd_b zq_method_10_code_4 27 rfl rfl rfl) (zd_b zq_method_10_code_4 28 rfl rfl rfl) (zd_b zq_method_10_code_4 29 rfl rfl rfl)
theorem d_Lw_drawn_158 : decode method_10_code 158 = .ok (.pop, 1) := zo_87 (zd_b zq_method_10_code_4 30 rfl rfl rfl)
theorem d_Lw_drawn_159 : decode method_10_code 159 = .ok (.iinc 3 1, 3) := by decide +kernel
theorem d_Lw_drawn_162 : decode method_10_code 162 = .ok (.goto (-79), 3) := zo_167 (d := 255) (e := 177) (zd_b zq_method_10_code_5 2 rfl rfl rfl) (zd_b zq_method_10_code_5 3 rfl rfl rfl) (zd_b zq_method_10_code_5 4 rfl rfl rfl) (by decide +kernel)
theorem d_Lw_drawn_165 : decode method_10_code 165 = .ok (.aload_n 0, 1) := zo_42 (zd_b zq_method_10_code_5 5 rfl rfl rfl)
theorem d_Lw_drawn_166 : decode method_10_code 166 = .ok (.iconst 1, 1) := zo_4 (zd_b zq_method_10_code_5 6 rfl rfl rfl)
theorem d_Lw_drawn_167 : decode method_10_code 167 = .ok (.iconst 1, 1) := zo_4 (zd_b zq_method_10_code_5 7 rfl rfl rfl)
theorem d_Lw_drawn_168 : decode method_10_code 168 = .ok (.aload_n 1, 1) := zo_43 (zd_b zq_method_10_code_5 8 rfl rfl rfl)
theorem d_Lw_drawn_169 : decode method_10_code 169 = .ok (.iload_n 2, 1) := zo_28 (zd_b zq_method_10_code_5 9 rfl rfl rfl)
theorem d_Lw_drawn_170 : decode method_10_code 170 = .ok (.bipush 26, 2) := zo_16 (d := 26) (zd_b zq_method_10_code_5 10 rfl rfl rfl) (zd_b zq_method_10_code_5 11 rfl rfl rfl) (by decide +kernel)
theorem d_Lw_drawn_172 : decode method_10_code 172 = .ok (.iadd, 1) := zo_96 (zd_b zq_method_10_code_5 12 rfl rfl rfl)
theorem d_Lw_drawn_173 : decode method_10_code 173 = .ok (.bipush 8, 2) := zo_16 (d := 8) (zd_b zq_method_10_code_5 13 rfl rfl rfl) (zd_b zq_method_10_code_5 14 rfl rfl rfl) (by decide +kernel)
theorem d_Lw_drawn_175 : decode method_10_code 175 = .ok (.invokestatic 182, 3) := zo_184 (d := 0) (e := 182) (zd_b zq_method_10_code_5 15 rfl rfl rfl) (zd_b zq_method_10_code_5 16 rfl rfl rfl) (zd_b zq_method_10_code_5 17 rfl rfl rfl)
theorem d_Lw_drawn_178 : decode method_10_code 178 = .ok (.iadd, 1) := zo_96 (zd_b zq_method_10_code_5 18 rfl rfl rfl)
theorem d_Lw_drawn_179 : decode method_10_code 179 = .ok (.iconst 0, 1) := zo_3 (zd_b zq_method_10_code_5 19 rfl rfl rfl)
theorem d_Lw_drawn_180 : decode method_10_code 180 = .ok (.iconst 0, 1) := zo_3 (zd_b zq_method_10_code_5 20 rfl rfl rfl)
theorem d_Lw_drawn_181 : decode method_10_code 181 = .ok (.iconst 0, 1) := zo_3 (zd_b zq_method_10_code_5 21 rfl rfl rfl)
theorem d_Lw_drawn_182 : decode method_10_code 182 = .ok (.iconst 0, 1) := zo_3 (zd_b zq_method_10_code_5 22 rfl rfl rfl)
theorem d_Lw_drawn_183 : decode method_10_code 183 = .ok (.invokestatic 175, 3) := zo_184 (d := 0) (e := 175) (zd_b zq_method_10_code_5 23 rfl rfl rfl) (zd_b zq_method_10_code_5 24 rfl rfl rfl) (zd_b zq_method_10_code_5 25 rfl rfl rfl)
theorem d_Lw_drawn_186 : decode method_10_code 186 = .ok (.pop, 1) := zo_87 (zd_b zq_method_10_code_5 26 rfl rfl rfl)
theorem d_Lw_drawn_187 : decode method_10_code 187 = .ok (.return_, 1) := zo_177 (zd_b zq_method_10_code_5 27 rfl rfl rfl)
set_option maxHeartbeats 4000000 in
set_option maxRecDepth 100000 in
theorem Z_drawn {g : zG} {ad : Nat → Nat} {t0 : zTT} {u : zNN} {f : Nat → Int32} {p : Nat} {w : zW} (hW : Wd g ad t0 u f p w) (hL : g.2.2 41 ≤ 260) : zMB g M_Lw_drawn [.ref (ad 0), .ref (g.2.2 40), .int 0] w (fun o w1 => o = .inl none ∧ ∃ f2, Wd g ad t0 u f2 (1 + pkN g 26 8) w1) 20 120 := by
  refine y_of (by decide) rfl (Nat.le_of_ble_eq_true rfl) (y_base (cs := []) (z_I.nil w) ?_)
  refine y_lvE (lv2 := [(0, .ref (ad 0)), (1, .ref (g.2.2 40)), (2, .int 0)]) rfl ?_
  refine y_aload_n d_Lw_drawn_0 rfl 0 rfl ?_
  refine y_iconst d_Lw_drawn_1 (v := 0) (by decide) ?_
  refine y_bipush d_Lw_drawn_2 (v := 99) (by decide) ?_
  refine y_aload_n d_Lw_drawn_4 rfl 1 rfl ?_
  refine y_iload_n d_Lw_drawn_5 rfl 2 rfl ?_
  refine y_bipush d_Lw_drawn_6 (v := 6) (by decide) ?_
  refine y_callS (As := [.ref (g.2.2 40), .int 0, .int 6]) (rest := [.int 99, .int 0, .ref (ad 0)]) (csC := []) (is := []) ln_Lw_182 w_st_Lw_pick ok_Lw_drawn_Lw_pick d_Lw_drawn_8 (C_Lw_pick g 0 6 (by decide) (by decide) (by decide) hL) rfl rfl (Nat.le_of_ble_eq_true rfl) rfl (by decide) (by omega) (by omega) (fun E cs1 hx => ?_) (fun v cs1 hx => ?_)
  · exact absurd hx.1 (by simp)
  · obtain ⟨e1, rfl⟩ := hx
    cases e1
    refine ⟨rfl, ?_⟩
    refine y_st (st2 := [.int (nI (pkN g 0 6)), .int 99, .int 0, .ref (ad 0)]) rfl ?_
    refine y_cs (cs2 := []) rfl ?_
    refine y_iconst d_Lw_drawn_11 (v := 3) (by decide) ?_
    refine y_aload_n d_Lw_drawn_12 rfl 1 rfl ?_
    refine y_iload_n d_Lw_drawn_13 rfl 2 rfl ?_
    refine y_iconst d_Lw_drawn_14 (v := 1) (by decide) ?_
    refine y_iadd d_Lw_drawn_15 (v := 1) rfl ?_
    refine y_iconst d_Lw_drawn_16 (v := 3) (by decide) ?_
    refine y_callS (As := [.ref (g.2.2 40), .int 1, .int 3]) (rest := [.int 3, .int (nI (pkN g 0 6)), .int 99, .int 0, .ref (ad 0)]) (csC := []) (is := []) ln_Lw_182 w_st_Lw_pick ok_Lw_drawn_Lw_pick d_Lw_drawn_17 (C_Lw_pick g 1 3 (by decide) (by decide) (by decide) hL) rfl rfl (Nat.le_of_ble_eq_true rfl) rfl (by decide) (by omega) (by omega) (fun E cs1 hx => ?_) (fun v cs1 hx => ?_)
    · exact absurd hx.1 (by simp)
    · obtain ⟨e1, rfl⟩ := hx
      cases e1
      refine ⟨rfl, ?_⟩
      refine y_st (st2 := [.int (nI (pkN g 1 3)), .int 3, .int (nI (pkN g 0 6)), .int 99, .int 0, .ref (ad 0)]) rfl ?_
      refine y_cs (cs2 := []) rfl ?_
      refine y_iadd d_Lw_drawn_20 (v := 3 + (nI (pkN g 1 3))) rfl ?_
      refine y_iconst d_Lw_drawn_21 (v := 2) (by decide) ?_
      refine y_aload_n d_Lw_drawn_22 rfl 1 rfl ?_
      refine y_iload_n d_Lw_drawn_23 rfl 2 rfl ?_
      refine y_iconst d_Lw_drawn_24 (v := 2) (by decide) ?_
      refine y_iadd d_Lw_drawn_25 (v := 2) rfl ?_
      refine y_iconst d_Lw_drawn_26 (v := 5) (by decide) ?_
      refine y_callS (As := [.ref (g.2.2 40), .int 2, .int 5]) (rest := [.int 2, .int (3 + (nI (pkN g 1 3))), .int (nI (pkN g 0 6)), .int 99, .int 0, .ref (ad 0)]) (csC := []) (is := []) ln_Lw_182 w_st_Lw_pick ok_Lw_drawn_Lw_pick d_Lw_drawn_27 (C_Lw_pick g 2 5 (by decide) (by decide) (by decide) hL) rfl rfl (Nat.le_of_ble_eq_true rfl) rfl (by decide) (by omega) (by omega) (fun E cs1 hx => ?_) (fun v cs1 hx => ?_)
      · exact absurd hx.1 (by simp)
      · obtain ⟨e1, rfl⟩ := hx
        cases e1
        refine ⟨rfl, ?_⟩
        refine y_st (st2 := [.int (nI (pkN g 2 5)), .int 2, .int (3 + (nI (pkN g 1 3))), .int (nI (pkN g 0 6)), .int 99, .int 0, .ref (ad 0)]) rfl ?_
        refine y_cs (cs2 := []) rfl ?_
        refine y_iadd d_Lw_drawn_30 (v := 2 + (nI (pkN g 2 5))) rfl ?_
        refine y_iconst d_Lw_drawn_31 (v := 1) (by decide) ?_
        refine y_aload_n d_Lw_drawn_32 rfl 1 rfl ?_
        refine y_iload_n d_Lw_drawn_33 rfl 2 rfl ?_
        refine y_iconst d_Lw_drawn_34 (v := 3) (by decide) ?_
        refine y_iadd d_Lw_drawn_35 (v := 3) rfl ?_
        refine y_iconst d_Lw_drawn_36 (v := 3) (by decide) ?_
        refine y_callS (As := [.ref (g.2.2 40), .int 3, .int 3]) (rest := [.int 1, .int (2 + (nI (pkN g 2 5))), .int (3 + (nI (pkN g 1 3))), .int (nI (pkN g 0 6)), .int 99, .int 0, .ref (ad 0)]) (csC := []) (is := []) ln_Lw_182 w_st_Lw_pick ok_Lw_drawn_Lw_pick d_Lw_drawn_37 (C_Lw_pick g 3 3 (by decide) (by decide) (by decide) hL) rfl rfl (Nat.le_of_ble_eq_true rfl) rfl (by decide) (by omega) (by omega) (fun E cs1 hx => ?_) (fun v cs1 hx => ?_)
        · exact absurd hx.1 (by simp)
        · obtain ⟨e1, rfl⟩ := hx
          cases e1
          refine ⟨rfl, ?_⟩
          refine y_st (st2 := [.int (nI (pkN g 3 3)), .int 1, .int (2 + (nI (pkN g 2 5))), .int (3 + (nI (pkN g 1 3))), .int (nI (pkN g 0 6)), .int 99, .int 0, .ref (ad 0)]) rfl ?_
          refine y_cs (cs2 := []) rfl ?_
          refine y_iadd d_Lw_drawn_40 (v := 1 + (nI (pkN g 3 3))) rfl ?_
          refine yw_callSX (As := [.ref (ad 0), .int 0, .int 99, .int (nI (pkN g 0 6)), .int (3 + (nI (pkN g 1 3))), .int (2 + (nI (pkN g 2 5))), .int (1 + (nI (pkN g 3 3)))]) (rest := []) ln_Lw_175 w_st_Lw_deed ok_Lw_drawn_Lw_deed d_Lw_drawn_41 (fun wA hA => T_draw (hW.e (z_I.same (z_I.nil _) hA)) 99 (nI (pkN g 0 6)) (3 + (nI (pkN g 1 3))) (2 + (nI (pkN g 2 5))) (1 + (nI (pkN g 3 3))) (by decide)) rfl rfl (Nat.le_of_ble_eq_true rfl) (by omega) (by omega) (fun wA41 hA41 E wB41 hx => ?_) (fun wA41 hA41 v wB41 hx => ?_)
          · obtain ⟨⟨i9, e9⟩, -⟩ := hx
            cases e9
          · obtain ⟨⟨i9, e9⟩, f1, hW1⟩ := hx
            cases e9
            refine yw_st (st2 := [.int i9]) rfl ?_
            refine y_base (cs := []) (z_I.nil _) ?_
            refine y_pop d_Lw_drawn_44 rfl ?_
            refine y_aload_n d_Lw_drawn_45 rfl 0 rfl ?_
            refine y_iconst d_Lw_drawn_46 (v := 0) (by decide) ?_
            refine y_bipush d_Lw_drawn_47 (v := 103) (by decide) ?_
            refine y_aload_n d_Lw_drawn_49 rfl 1 rfl ?_
            refine y_iload_n d_Lw_drawn_50 rfl 2 rfl ?_
            refine y_bipush d_Lw_drawn_51 (v := 6) (by decide) ?_
            refine y_callS (As := [.ref (g.2.2 40), .int 0, .int 6]) (rest := [.int 103, .int 0, .ref (ad 0)]) (csC := []) (is := []) ln_Lw_182 w_st_Lw_pick ok_Lw_drawn_Lw_pick d_Lw_drawn_53 (C_Lw_pick g 0 6 (by decide) (by decide) (by decide) hL) rfl rfl (Nat.le_of_ble_eq_true rfl) rfl (by decide) (by omega) (by omega) (fun E cs1 hx => ?_) (fun v cs1 hx => ?_)
            · exact absurd hx.1 (by simp)
            · obtain ⟨e1, rfl⟩ := hx
              cases e1
              refine ⟨rfl, ?_⟩
              refine y_st (st2 := [.int (nI (pkN g 0 6)), .int 103, .int 0, .ref (ad 0)]) rfl ?_
              refine y_cs (cs2 := []) rfl ?_
              refine y_iconst d_Lw_drawn_56 (v := 0) (by decide) ?_
              refine y_iconst d_Lw_drawn_57 (v := 1) (by decide) ?_
              refine y_aload_n d_Lw_drawn_58 rfl 1 rfl ?_
              refine y_iload_n d_Lw_drawn_59 rfl 2 rfl ?_
              refine y_iconst d_Lw_drawn_60 (v := 4) (by decide) ?_
              refine y_iadd d_Lw_drawn_61 (v := 4) rfl ?_
              refine y_iconst d_Lw_drawn_62 (v := 2) (by decide) ?_
              refine y_callS (As := [.ref (g.2.2 40), .int 4, .int 2]) (rest := [.int 1, .int 0, .int (nI (pkN g 0 6)), .int 103, .int 0, .ref (ad 0)]) (csC := []) (is := []) ln_Lw_182 w_st_Lw_pick ok_Lw_drawn_Lw_pick d_Lw_drawn_63 (C_Lw_pick g 4 2 (by decide) (by decide) (by decide) hL) rfl rfl (Nat.le_of_ble_eq_true rfl) rfl (by decide) (by omega) (by omega) (fun E cs1 hx => ?_) (fun v cs1 hx => ?_)
              · exact absurd hx.1 (by simp)
              · obtain ⟨e1, rfl⟩ := hx
                cases e1
                refine ⟨rfl, ?_⟩
                refine y_st (st2 := [.int (nI (pkN g 4 2)), .int 1, .int 0, .int (nI (pkN g 0 6)), .int 103, .int 0, .ref (ad 0)]) rfl ?_
                refine y_cs (cs2 := []) rfl ?_
                refine y_iadd d_Lw_drawn_66 (v := 1 + (nI (pkN g 4 2))) rfl ?_
                refine y_iconst d_Lw_drawn_67 (v := 3) (by decide) ?_
                refine y_aload_n d_Lw_drawn_68 rfl 1 rfl ?_
                refine y_iload_n d_Lw_drawn_69 rfl 2 rfl ?_
                refine y_iconst d_Lw_drawn_70 (v := 5) (by decide) ?_
                refine y_iadd d_Lw_drawn_71 (v := 5) rfl ?_
                refine y_iconst d_Lw_drawn_72 (v := 3) (by decide) ?_
                refine y_callS (As := [.ref (g.2.2 40), .int 5, .int 3]) (rest := [.int 3, .int (1 + (nI (pkN g 4 2))), .int 0, .int (nI (pkN g 0 6)), .int 103, .int 0, .ref (ad 0)]) (csC := []) (is := []) ln_Lw_182 w_st_Lw_pick ok_Lw_drawn_Lw_pick d_Lw_drawn_73 (C_Lw_pick g 5 3 (by decide) (by decide) (by decide) hL) rfl rfl (Nat.le_of_ble_eq_true rfl) rfl (by decide) (by omega) (by omega) (fun E cs1 hx => ?_) (fun v cs1 hx => ?_)
                · exact absurd hx.1 (by simp)
                · obtain ⟨e1, rfl⟩ := hx
                  cases e1
                  refine ⟨rfl, ?_⟩
                  refine y_st (st2 := [.int (nI (pkN g 5 3)), .int 3, .int (1 + (nI (pkN g 4 2))), .int 0, .int (nI (pkN g 0 6)), .int 103, .int 0, .ref (ad 0)]) rfl ?_
                  refine y_cs (cs2 := []) rfl ?_
                  refine y_iadd d_Lw_drawn_76 (v := 3 + (nI (pkN g 5 3))) rfl ?_
                  refine yw_callSX (As := [.ref (ad 0), .int 0, .int 103, .int (nI (pkN g 0 6)), .int 0, .int (1 + (nI (pkN g 4 2))), .int (3 + (nI (pkN g 5 3)))]) (rest := []) ln_Lw_175 w_st_Lw_deed ok_Lw_drawn_Lw_deed d_Lw_drawn_77 (fun wA hA => T_draw (hW1.e (z_I.same (z_I.nil _) hA)) 103 (nI (pkN g 0 6)) 0 (1 + (nI (pkN g 4 2))) (3 + (nI (pkN g 5 3))) (by decide)) rfl rfl (Nat.le_of_ble_eq_true rfl) (by omega) (by omega) (fun wA77 hA77 E wB77 hx => ?_) (fun wA77 hA77 v wB77 hx => ?_)
                  · obtain ⟨⟨i9, e9⟩, -⟩ := hx
                    cases e9
                  · obtain ⟨⟨i9, e9⟩, f2, hW2⟩ := hx
                    cases e9
                    refine yw_st (st2 := [.int i9]) rfl ?_
                    refine y_base (cs := []) (z_I.nil _) ?_
                    refine y_pop d_Lw_drawn_80 rfl ?_
                    refine y_iconst d_Lw_drawn_81 (v := 0) (by decide) ?_
                    refine y_istore_n (lv' := [(3, .int 0), (0, .ref (ad 0)), (1, .ref (g.2.2 40)), (2, .int 0)]) d_Lw_drawn_82 rfl (by decide) rfl ?_
                    refine y_iload_n d_Lw_drawn_83 rfl 0 rfl ?_
                    refine y_iconst d_Lw_drawn_84 (v := 4) (by decide) ?_
                    refine y_icmp_ge (tgt := 165) d_Lw_drawn_85 (by decide) (fun c_85 => ?_) (fun c_85 => ?_)
                    · exact absurd c_85 (by decide)
                    · refine y_iload_n d_Lw_drawn_88 rfl 3 rfl ?_
                      refine y_bipush d_Lw_drawn_89 (v := 6) (by decide) ?_
                      refine y_iadd d_Lw_drawn_91 (v := 6) rfl ?_
                      refine y_iconst d_Lw_drawn_92 (v := 5) (by decide) ?_
                      refine y_iload_n d_Lw_drawn_93 rfl 0 rfl ?_
                      refine y_imul d_Lw_drawn_94 (v := 0) rfl ?_
                      refine y_iadd d_Lw_drawn_95 (v := 6) rfl ?_
                      refine y_istore (lv' := [(4, .int 6), (3, .int 0), (0, .ref (ad 0)), (1, .ref (g.2.2 40)), (2, .int 0)]) d_Lw_drawn_96 (by decide) rfl ?_
                      refine y_aload_n d_Lw_drawn_98 rfl 2 rfl ?_
                      refine y_iconst d_Lw_drawn_99 (v := 0) (by decide) ?_
                      refine y_ldcS (own := "IronpourLaw") (i := 0) (by decide) d_Lw_drawn_100 ?_
                      refine y_aload_n d_Lw_drawn_102 rfl 3 rfl ?_
                      refine y_iload d_Lw_drawn_103 0 rfl ?_
                      refine y_bipush d_Lw_drawn_105 (v := 6) (by decide) ?_
                      refine y_callS (As := [.ref (g.2.2 40), .int 6, .int 6]) (rest := [.ref (g.2.2 (5 + 0)), .int 0, .ref (ad 0)]) (csC := []) (is := []) ln_Lw_182 w_st_Lw_pick ok_Lw_drawn_Lw_pick d_Lw_drawn_107 (C_Lw_pick g 6 6 (by decide) (by decide) (by decide) hL) rfl rfl (Nat.le_of_ble_eq_true rfl) rfl (by decide) (by omega) (by omega) (fun E cs1 hx => ?_) (fun v cs1 hx => ?_)
                      · exact absurd hx.1 (by simp)
                      · obtain ⟨e1, rfl⟩ := hx
                        cases e1
                        refine ⟨rfl, ?_⟩
                        refine y_st (st2 := [.int (nI (pkN g 6 6)), .ref (g.2.2 (5 + 0)), .int 0, .ref (ad 0)]) rfl ?_
                        refine y_cs (cs2 := []) rfl ?_
                        refine y_callVS (As := [.int (nI (pkN g 6 6))]) (rest := [.int 0, .ref (ad 0)]) (csC := []) (is := []) (i := 0) (by first | assumption | decide) rfl ln_Lw_188 w_im_String_charAt w_se_String_charAt ok_Lw_drawn_String_charAt d_Lw_drawn_110 (C_St_charAt g 0 (pkN g 6 6) (by decide) (Nat.lt_of_lt_of_le (pkN_lt (by decide)) (by decide))) rfl rfl (Nat.le_of_ble_eq_true rfl) rfl (by decide) (by omega) (by omega) (fun E cs1 hx => ?_) (fun v cs1 hx => ?_)
                        · exact absurd hx.1 (by simp)
                        · obtain ⟨e1, rfl⟩ := hx
                          cases e1
                          refine ⟨rfl, ?_⟩
                          refine y_st (st2 := [.int ((z_by 0).getD (pkN g 6 6) 0), .int 0, .ref (ad 0)]) rfl ?_
                          refine y_cs (cs2 := []) rfl ?_
                          refine y_aload_n d_Lw_drawn_113 rfl 3 rfl ?_
                          refine y_iload d_Lw_drawn_114 0 rfl ?_
                          refine y_iconst d_Lw_drawn_116 (v := 1) (by decide) ?_
                          refine y_iadd d_Lw_drawn_117 (v := 7) rfl ?_
                          refine y_bipush d_Lw_drawn_118 (v := 12) (by decide) ?_
                          refine y_callS (As := [.ref (g.2.2 40), .int 7, .int 12]) (rest := [.int ((z_by 0).getD (pkN g 6 6) 0), .int 0, .ref (ad 0)]) (csC := []) (is := []) ln_Lw_182 w_st_Lw_pick ok_Lw_drawn_Lw_pick d_Lw_drawn_120 (C_Lw_pick g 7 12 (by decide) (by decide) (by decide) hL) rfl rfl (Nat.le_of_ble_eq_true rfl) rfl (by decide) (by omega) (by omega) (fun E cs1 hx => ?_) (fun v cs1 hx => ?_)
                          · exact absurd hx.1 (by simp)
                          · obtain ⟨e1, rfl⟩ := hx
                            cases e1
                            refine ⟨rfl, ?_⟩
                            refine y_st (st2 := [.int (nI (pkN g 7 12)), .int ((z_by 0).getD (pkN g 6 6) 0), .int 0, .ref (ad 0)]) rfl ?_
                            refine y_cs (cs2 := []) rfl ?_
                            refine y_aload_n d_Lw_drawn_123 rfl 3 rfl ?_
                            refine y_iload d_Lw_drawn_124 0 rfl ?_
                            refine y_iconst d_Lw_drawn_126 (v := 2) (by decide) ?_
                            refine y_iadd d_Lw_drawn_127 (v := 8) rfl ?_
                            refine y_bipush d_Lw_drawn_128 (v := 9) (by decide) ?_
                            refine y_callS (As := [.ref (g.2.2 40), .int 8, .int 9]) (rest := [.int (nI (pkN g 7 12)), .int ((z_by 0).getD (pkN g 6 6) 0), .int 0, .ref (ad 0)]) (csC := []) (is := []) ln_Lw_182 w_st_Lw_pick ok_Lw_drawn_Lw_pick d_Lw_drawn_130 (C_Lw_pick g 8 9 (by decide) (by decide) (by decide) hL) rfl rfl (Nat.le_of_ble_eq_true rfl) rfl (by decide) (by omega) (by omega) (fun E cs1 hx => ?_) (fun v cs1 hx => ?_)
                            · exact absurd hx.1 (by simp)
                            · obtain ⟨e1, rfl⟩ := hx
                              cases e1
                              refine ⟨rfl, ?_⟩
                              refine y_st (st2 := [.int (nI (pkN g 8 9)), .int (nI (pkN g 7 12)), .int ((z_by 0).getD (pkN g 6 6) 0), .int 0, .ref (ad 0)]) rfl ?_
                              refine y_cs (cs2 := []) rfl ?_
                              refine y_iconst d_Lw_drawn_133 (v := 1) (by decide) ?_
                              refine y_aload_n d_Lw_drawn_134 rfl 3 rfl ?_
                              refine y_iload d_Lw_drawn_135 0 rfl ?_
                              refine y_iconst d_Lw_drawn_137 (v := 3) (by decide) ?_
                              refine y_iadd d_Lw_drawn_138 (v := 9) rfl ?_
                              refine y_iconst d_Lw_drawn_139 (v := 3) (by decide) ?_
                              refine y_callS (As := [.ref (g.2.2 40), .int 9, .int 3]) (rest := [.int 1, .int (nI (pkN g 8 9)), .int (nI (pkN g 7 12)), .int ((z_by 0).getD (pkN g 6 6) 0), .int 0, .ref (ad 0)]) (csC := []) (is := []) ln_Lw_182 w_st_Lw_pick ok_Lw_drawn_Lw_pick d_Lw_drawn_140 (C_Lw_pick g 9 3 (by decide) (by decide) (by decide) hL) rfl rfl (Nat.le_of_ble_eq_true rfl) rfl (by decide) (by omega) (by omega) (fun E cs1 hx => ?_) (fun v cs1 hx => ?_)
                              · exact absurd hx.1 (by simp)
                              · obtain ⟨e1, rfl⟩ := hx
                                cases e1
                                refine ⟨rfl, ?_⟩
                                refine y_st (st2 := [.int (nI (pkN g 9 3)), .int 1, .int (nI (pkN g 8 9)), .int (nI (pkN g 7 12)), .int ((z_by 0).getD (pkN g 6 6) 0), .int 0, .ref (ad 0)]) rfl ?_
                                refine y_cs (cs2 := []) rfl ?_
                                refine y_iadd d_Lw_drawn_143 (v := 1 + (nI (pkN g 9 3))) rfl ?_
                                refine y_iconst d_Lw_drawn_144 (v := 1) (by decide) ?_
                                refine y_aload_n d_Lw_drawn_145 rfl 3 rfl ?_
                                refine y_iload d_Lw_drawn_146 0 rfl ?_
                                refine y_iconst d_Lw_drawn_148 (v := 4) (by decide) ?_
                                refine y_iadd d_Lw_drawn_149 (v := 10) rfl ?_
                                refine y_iconst d_Lw_drawn_150 (v := 3) (by decide) ?_
                                refine y_callS (As := [.ref (g.2.2 40), .int 10, .int 3]) (rest := [.int 1, .int (1 + (nI (pkN g 9 3))), .int (nI (pkN g 8 9)), .int (nI (pkN g 7 12)), .int ((z_by 0).getD (pkN g 6 6) 0), .int 0, .ref (ad 0)]) (csC := []) (is := []) ln_Lw_182 w_st_Lw_pick ok_Lw_drawn_Lw_pick d_Lw_drawn_151 (C_Lw_pick g 10 3 (by decide) (by decide) (by decide) hL) rfl rfl (Nat.le_of_ble_eq_true rfl) rfl (by decide) (by omega) (by omega) (fun E cs1 hx => ?_) (fun v cs1 hx => ?_)
                                · exact absurd hx.1 (by simp)
                                · obtain ⟨e1, rfl⟩ := hx
                                  cases e1
                                  refine ⟨rfl, ?_⟩
                                  refine y_st (st2 := [.int (nI (pkN g 10 3)), .int 1, .int (1 + (nI (pkN g 9 3))), .int (nI (pkN g 8 9)), .int (nI (pkN g 7 12)), .int ((z_by 0).getD (pkN g 6 6) 0), .int 0, .ref (ad 0)]) rfl ?_
                                  refine y_cs (cs2 := []) rfl ?_
                                  refine y_iadd d_Lw_drawn_154 (v := 1 + (nI (pkN g 10 3))) rfl ?_
                                  refine yw_callSX (As := [.ref (ad 0), .int 0, .int ((z_by 0).getD (pkN g 6 6) 0), .int (nI (pkN g 7 12)), .int (nI (pkN g 8 9)), .int (1 + (nI (pkN g 9 3))), .int (1 + (nI (pkN g 10 3)))]) (rest := []) ln_Lw_175 w_st_Lw_deed ok_Lw_drawn_Lw_deed d_Lw_drawn_155 (fun wA hA => T_draw (hW2.e (z_I.same (z_I.nil _) hA)) ((z_by 0).getD (pkN g 6 6) 0) (nI (pkN g 7 12)) (nI (pkN g 8 9)) (1 + (nI (pkN g 9 3))) (1 + (nI (pkN g 10 3))) (z_byc 0 (by decide) (pkN g 6 6) (Nat.lt_trans (pkN_lt (by decide)) (by decide))).2) rfl rfl (Nat.le_of_ble_eq_true rfl) (by omega) (by omega) (fun wA155 hA155 E wB155 hx => ?_) (fun wA155 hA155 v wB155 hx => ?_)
                                  · obtain ⟨⟨i9, e9⟩, -⟩ := hx
                                    cases e9
                                  · obtain ⟨⟨i9, e9⟩, f3, hW3⟩ := hx
                                    cases e9
                                    refine yw_st (st2 := [.int i9]) rfl ?_
                                    refine y_base (cs := []) (z_I.nil _) ?_
                                    refine y_pop d_Lw_drawn_158 rfl ?_
                                    refine y_iinc (lv' := [(3, .int 1), (4, .int 6), (0, .ref (ad 0)), (1, .ref (g.2.2 40)), (2, .int 0)]) (v := 1) d_Lw_drawn_159 (j := 1) rfl rfl (by decide) rfl ?_
                                    refine y_goto (tgt := 83) d_Lw_drawn_162 (by decide) ?_
                                    refine y_iload_n d_Lw_drawn_83 rfl 0 rfl ?_
                                    refine y_iconst d_Lw_drawn_84 (v := 4) (by decide) ?_
                                    refine y_icmp_ge (tgt := 165) d_Lw_drawn_85 (by decide) (fun c_85 => ?_) (fun c_85 => ?_)
                                    · exact absurd c_85 (by decide)
                                    · refine y_iload_n d_Lw_drawn_88 rfl 4 rfl ?_
                                      refine y_bipush d_Lw_drawn_89 (v := 6) (by decide) ?_
                                      refine y_iadd d_Lw_drawn_91 (v := 6) rfl ?_
                                      refine y_iconst d_Lw_drawn_92 (v := 5) (by decide) ?_
                                      refine y_iload_n d_Lw_drawn_93 rfl 0 rfl ?_
                                      refine y_imul d_Lw_drawn_94 (v := 5) rfl ?_
                                      refine y_iadd d_Lw_drawn_95 (v := 11) rfl ?_
                                      refine y_istore (lv' := [(4, .int 11), (3, .int 1), (0, .ref (ad 0)), (1, .ref (g.2.2 40)), (2, .int 0)]) d_Lw_drawn_96 (by decide) rfl ?_
                                      refine y_aload_n d_Lw_drawn_98 rfl 2 rfl ?_
                                      refine y_iconst d_Lw_drawn_99 (v := 0) (by decide) ?_
                                      refine y_ldcS (own := "IronpourLaw") (i := 0) (by decide) d_Lw_drawn_100 ?_
                                      refine y_aload_n d_Lw_drawn_102 rfl 3 rfl ?_
                                      refine y_iload d_Lw_drawn_103 0 rfl ?_
                                      refine y_bipush d_Lw_drawn_105 (v := 6) (by decide) ?_
                                      refine y_callS (As := [.ref (g.2.2 40), .int 11, .int 6]) (rest := [.ref (g.2.2 (5 + 0)), .int 0, .ref (ad 0)]) (csC := []) (is := []) ln_Lw_182 w_st_Lw_pick ok_Lw_drawn_Lw_pick d_Lw_drawn_107 (C_Lw_pick g 11 6 (by decide) (by decide) (by decide) hL) rfl rfl (Nat.le_of_ble_eq_true rfl) rfl (by decide) (by omega) (by omega) (fun E cs1 hx => ?_) (fun v cs1 hx => ?_)
                                      · exact absurd hx.1 (by simp)
                                      · obtain ⟨e1, rfl⟩ := hx
                                        cases e1
                                        refine ⟨rfl, ?_⟩
                                        refine y_st (st2 := [.int (nI (pkN g 11 6)), .ref (g.2.2 (5 + 0)), .int 0, .ref (ad 0)]) rfl ?_
                                        refine y_cs (cs2 := []) rfl ?_
                                        refine y_callVS (As := [.int (nI (pkN g 11 6))]) (rest := [.int 0, .ref (ad 0)]) (csC := []) (is := []) (i := 0) (by first | assumption | decide) rfl ln_Lw_188 w_im_String_charAt w_se_String_charAt ok_Lw_drawn_String_charAt d_Lw_drawn_110 (C_St_charAt g 0 (pkN g 11 6) (by decide) (Nat.lt_of_lt_of_le (pkN_lt (by decide)) (by decide))) rfl rfl (Nat.le_of_ble_eq_true rfl) rfl (by decide) (by omega) (by omega) (fun E cs1 hx => ?_) (fun v cs1 hx => ?_)
                                        · exact absurd hx.1 (by simp)
                                        · obtain ⟨e1, rfl⟩ := hx
                                          cases e1
                                          refine ⟨rfl, ?_⟩
                                          refine y_st (st2 := [.int ((z_by 0).getD (pkN g 11 6) 0), .int 0, .ref (ad 0)]) rfl ?_
                                          refine y_cs (cs2 := []) rfl ?_
                                          refine y_aload_n d_Lw_drawn_113 rfl 3 rfl ?_
                                          refine y_iload d_Lw_drawn_114 0 rfl ?_
                                          refine y_iconst d_Lw_drawn_116 (v := 1) (by decide) ?_
                                          refine y_iadd d_Lw_drawn_117 (v := 12) rfl ?_
                                          refine y_bipush d_Lw_drawn_118 (v := 12) (by decide) ?_
                                          refine y_callS (As := [.ref (g.2.2 40), .int 12, .int 12]) (rest := [.int ((z_by 0).getD (pkN g 11 6) 0), .int 0, .ref (ad 0)]) (csC := []) (is := []) ln_Lw_182 w_st_Lw_pick ok_Lw_drawn_Lw_pick d_Lw_drawn_120 (C_Lw_pick g 12 12 (by decide) (by decide) (by decide) hL) rfl rfl (Nat.le_of_ble_eq_true rfl) rfl (by decide) (by omega) (by omega) (fun E cs1 hx => ?_) (fun v cs1 hx => ?_)
                                          · exact absurd hx.1 (by simp)
                                          · obtain ⟨e1, rfl⟩ := hx
                                            cases e1
                                            refine ⟨rfl, ?_⟩
                                            refine y_st (st2 := [.int (nI (pkN g 12 12)), .int ((z_by 0).getD (pkN g 11 6) 0), .int 0, .ref (ad 0)]) rfl ?_
                                            refine y_cs (cs2 := []) rfl ?_
                                            refine y_aload_n d_Lw_drawn_123 rfl 3 rfl ?_
                                            refine y_iload d_Lw_drawn_124 0 rfl ?_
                                            refine y_iconst d_Lw_drawn_126 (v := 2) (by decide) ?_
                                            refine y_iadd d_Lw_drawn_127 (v := 13) rfl ?_
                                            refine y_bipush d_Lw_drawn_128 (v := 9) (by decide) ?_
                                            refine y_callS (As := [.ref (g.2.2 40), .int 13, .int 9]) (rest := [.int (nI (pkN g 12 12)), .int ((z_by 0).getD (pkN g 11 6) 0), .int 0, .ref (ad 0)]) (csC := []) (is := []) ln_Lw_182 w_st_Lw_pick ok_Lw_drawn_Lw_pick d_Lw_drawn_130 (C_Lw_pick g 13 9 (by decide) (by decide) (by decide) hL) rfl rfl (Nat.le_of_ble_eq_true rfl) rfl (by decide) (by omega) (by omega) (fun E cs1 hx => ?_) (fun v cs1 hx => ?_)
                                            · exact absurd hx.1 (by simp)
                                            · obtain ⟨e1, rfl⟩ := hx
                                              cases e1
                                              refine ⟨rfl, ?_⟩
                                              refine y_st (st2 := [.int (nI (pkN g 13 9)), .int (nI (pkN g 12 12)), .int ((z_by 0).getD (pkN g 11 6) 0), .int 0, .ref (ad 0)]) rfl ?_
                                              refine y_cs (cs2 := []) rfl ?_
                                              refine y_iconst d_Lw_drawn_133 (v := 1) (by decide) ?_
                                              refine y_aload_n d_Lw_drawn_134 rfl 3 rfl ?_
                                              refine y_iload d_Lw_drawn_135 0 rfl ?_
                                              refine y_iconst d_Lw_drawn_137 (v := 3) (by decide) ?_
                                              refine y_iadd d_Lw_drawn_138 (v := 14) rfl ?_
                                              refine y_iconst d_Lw_drawn_139 (v := 3) (by decide) ?_
                                              refine y_callS (As := [.ref (g.2.2 40), .int 14, .int 3]) (rest := [.int 1, .int (nI (pkN g 13 9)), .int (nI (pkN g 12 12)), .int ((z_by 0).getD (pkN g 11 6) 0), .int 0, .ref (ad 0)]) (csC := []) (is := []) ln_Lw_182 w_st_Lw_pick ok_Lw_drawn_Lw_pick d_Lw_drawn_140 (C_Lw_pick g 14 3 (by decide) (by decide) (by decide) hL) rfl rfl (Nat.le_of_ble_eq_true rfl) rfl (by decide) (by omega) (by omega) (fun E cs1 hx => ?_) (fun v cs1 hx => ?_)
                                              · exact absurd hx.1 (by simp)
                                              · obtain ⟨e1, rfl⟩ := hx
                                                cases e1
                                                refine ⟨rfl, ?_⟩
                                                refine y_st (st2 := [.int (nI (pkN g 14 3)), .int 1, .int (nI (pkN g 13 9)), .int (nI (pkN g 12 12)), .int ((z_by 0).getD (pkN g 11 6) 0), .int 0, .ref (ad 0)]) rfl ?_
                                                refine y_cs (cs2 := []) rfl ?_
                                                refine y_iadd d_Lw_drawn_143 (v := 1 + (nI (pkN g 14 3))) rfl ?_
                                                refine y_iconst d_Lw_drawn_144 (v := 1) (by decide) ?_
                                                refine y_aload_n d_Lw_drawn_145 rfl 3 rfl ?_
                                                refine y_iload d_Lw_drawn_146 0 rfl ?_
                                                refine y_iconst d_Lw_drawn_148 (v := 4) (by decide) ?_
                                                refine y_iadd d_Lw_drawn_149 (v := 15) rfl ?_
                                                refine y_iconst d_Lw_drawn_150 (v := 3) (by decide) ?_
                                                refine y_callS (As := [.ref (g.2.2 40), .int 15, .int 3]) (rest := [.int 1, .int (1 + (nI (pkN g 14 3))), .int (nI (pkN g 13 9)), .int (nI (pkN g 12 12)), .int ((z_by 0).getD (pkN g 11 6) 0), .int 0, .ref (ad 0)]) (csC := []) (is := []) ln_Lw_182 w_st_Lw_pick ok_Lw_drawn_Lw_pick d_Lw_drawn_151 (C_Lw_pick g 15 3 (by decide) (by decide) (by decide) hL) rfl rfl (Nat.le_of_ble_eq_true rfl) rfl (by decide) (by omega) (by omega) (fun E cs1 hx => ?_) (fun v cs1 hx => ?_)
                                                · exact absurd hx.1 (by simp)
                                                · obtain ⟨e1, rfl⟩ := hx
                                                  cases e1
                                                  refine ⟨rfl, ?_⟩
                                                  refine y_st (st2 := [.int (nI (pkN g 15 3)), .int 1, .int (1 + (nI (pkN g 14 3))), .int (nI (pkN g 13 9)), .int (nI (pkN g 12 12)), .int ((z_by 0).getD (pkN g 11 6) 0), .int 0, .ref (ad 0)]) rfl ?_
                                                  refine y_cs (cs2 := []) rfl ?_
                                                  refine y_iadd d_Lw_drawn_154 (v := 1 + (nI (pkN g 15 3))) rfl ?_
                                                  refine yw_callSX (As := [.ref (ad 0), .int 0, .int ((z_by 0).getD (pkN g 11 6) 0), .int (nI (pkN g 12 12)), .int (nI (pkN g 13 9)), .int (1 + (nI (pkN g 14 3))), .int (1 + (nI (pkN g 15 3)))]) (rest := []) ln_Lw_175 w_st_Lw_deed ok_Lw_drawn_Lw_deed d_Lw_drawn_155 (fun wA hA => T_draw (hW3.e (z_I.same (z_I.nil _) hA)) ((z_by 0).getD (pkN g 11 6) 0) (nI (pkN g 12 12)) (nI (pkN g 13 9)) (1 + (nI (pkN g 14 3))) (1 + (nI (pkN g 15 3))) (z_byc 0 (by decide) (pkN g 11 6) (Nat.lt_trans (pkN_lt (by decide)) (by decide))).2) rfl rfl (Nat.le_of_ble_eq_true rfl) (by omega) (by omega) (fun wA155 hA155 E wB155 hx => ?_) (fun wA155 hA155 v wB155 hx => ?_)
                                                  · obtain ⟨⟨i9, e9⟩, -⟩ := hx
                                                    cases e9
                                                  · obtain ⟨⟨i9, e9⟩, f4, hW4⟩ := hx
                                                    cases e9
                                                    refine yw_st (st2 := [.int i9]) rfl ?_
                                                    refine y_base (cs := []) (z_I.nil _) ?_
                                                    refine y_pop d_Lw_drawn_158 rfl ?_
                                                    refine y_iinc (lv' := [(3, .int 2), (4, .int 11), (0, .ref (ad 0)), (1, .ref (g.2.2 40)), (2, .int 0)]) (v := 2) d_Lw_drawn_159 (j := 1) rfl rfl (by decide) rfl ?_
                                                    refine y_goto (tgt := 83) d_Lw_drawn_162 (by decide) ?_
                                                    refine y_iload_n d_Lw_drawn_83 rfl 0 rfl ?_
                                                    refine y_iconst d_Lw_drawn_84 (v := 4) (by decide) ?_
                                                    refine y_icmp_ge (tgt := 165) d_Lw_drawn_85 (by decide) (fun c_85 => ?_) (fun c_85 => ?_)
                                                    · exact absurd c_85 (by decide)
                                                    · refine y_iload_n d_Lw_drawn_88 rfl 4 rfl ?_
                                                      refine y_bipush d_Lw_drawn_89 (v := 6) (by decide) ?_
                                                      refine y_iadd d_Lw_drawn_91 (v := 6) rfl ?_
                                                      refine y_iconst d_Lw_drawn_92 (v := 5) (by decide) ?_
                                                      refine y_iload_n d_Lw_drawn_93 rfl 0 rfl ?_
                                                      refine y_imul d_Lw_drawn_94 (v := 10) rfl ?_
                                                      refine y_iadd d_Lw_drawn_95 (v := 16) rfl ?_
                                                      refine y_istore (lv' := [(4, .int 16), (3, .int 2), (0, .ref (ad 0)), (1, .ref (g.2.2 40)), (2, .int 0)]) d_Lw_drawn_96 (by decide) rfl ?_
                                                      refine y_aload_n d_Lw_drawn_98 rfl 2 rfl ?_
                                                      refine y_iconst d_Lw_drawn_99 (v := 0) (by decide) ?_
                                                      refine y_ldcS (own := "IronpourLaw") (i := 0) (by decide) d_Lw_drawn_100 ?_
                                                      refine y_aload_n d_Lw_drawn_102 rfl 3 rfl ?_
                                                      refine y_iload d_Lw_drawn_103 0 rfl ?_
                                                      refine y_bipush d_Lw_drawn_105 (v := 6) (by decide) ?_
                                                      refine y_callS (As := [.ref (g.2.2 40), .int 16, .int 6]) (rest := [.ref (g.2.2 (5 + 0)), .int 0, .ref (ad 0)]) (csC := []) (is := []) ln_Lw_182 w_st_Lw_pick ok_Lw_drawn_Lw_pick d_Lw_drawn_107 (C_Lw_pick g 16 6 (by decide) (by decide) (by decide) hL) rfl rfl (Nat.le_of_ble_eq_true rfl) rfl (by decide) (by omega) (by omega) (fun E cs1 hx => ?_) (fun v cs1 hx => ?_)
                                                      · exact absurd hx.1 (by simp)
                                                      · obtain ⟨e1, rfl⟩ := hx
                                                        cases e1
                                                        refine ⟨rfl, ?_⟩
                                                        refine y_st (st2 := [.int (nI (pkN g 16 6)), .ref (g.2.2 (5 + 0)), .int 0, .ref (ad 0)]) rfl ?_
                                                        refine y_cs (cs2 := []) rfl ?_
                                                        refine y_callVS (As := [.int (nI (pkN g 16 6))]) (rest := [.int 0, .ref (ad 0)]) (csC := []) (is := []) (i := 0) (by first | assumption | decide) rfl ln_Lw_188 w_im_String_charAt w_se_String_charAt ok_Lw_drawn_String_charAt d_Lw_drawn_110 (C_St_charAt g 0 (pkN g 16 6) (by decide) (Nat.lt_of_lt_of_le (pkN_lt (by decide)) (by decide))) rfl rfl (Nat.le_of_ble_eq_true rfl) rfl (by decide) (by omega) (by omega) (fun E cs1 hx => ?_) (fun v cs1 hx => ?_)
                                                        · exact absurd hx.1 (by simp)
                                                        · obtain ⟨e1, rfl⟩ := hx
                                                          cases e1
                                                          refine ⟨rfl, ?_⟩
                                                          refine y_st (st2 := [.int ((z_by 0).getD (pkN g 16 6) 0), .int 0, .ref (ad 0)]) rfl ?_
                                                          refine y_cs (cs2 := []) rfl ?_
                                                          refine y_aload_n d_Lw_drawn_113 rfl 3 rfl ?_
                                                          refine y_iload d_Lw_drawn_114 0 rfl ?_
                                                          refine y_iconst d_Lw_drawn_116 (v := 1) (by decide) ?_
                                                          refine y_iadd d_Lw_drawn_117 (v := 17) rfl ?_
                                                          refine y_bipush d_Lw_drawn_118 (v := 12) (by decide) ?_
                                                          refine y_callS (As := [.ref (g.2.2 40), .int 17, .int 12]) (rest := [.int ((z_by 0).getD (pkN g 16 6) 0), .int 0, .ref (ad 0)]) (csC := []) (is := []) ln_Lw_182 w_st_Lw_pick ok_Lw_drawn_Lw_pick d_Lw_drawn_120 (C_Lw_pick g 17 12 (by decide) (by decide) (by decide) hL) rfl rfl (Nat.le_of_ble_eq_true rfl) rfl (by decide) (by omega) (by omega) (fun E cs1 hx => ?_) (fun v cs1 hx => ?_)
                                                          · exact absurd hx.1 (by simp)
                                                          · obtain ⟨e1, rfl⟩ := hx
                                                            cases e1
                                                            refine ⟨rfl, ?_⟩
                                                            refine y_st (st2 := [.int (nI (pkN g 17 12)), .int ((z_by 0).getD (pkN g 16 6) 0), .int 0, .ref (ad 0)]) rfl ?_
                                                            refine y_cs (cs2 := []) rfl ?_
                                                            refine y_aload_n d_Lw_drawn_123 rfl 3 rfl ?_
                                                            refine y_iload d_Lw_drawn_124 0 rfl ?_
                                                            refine y_iconst d_Lw_drawn_126 (v := 2) (by decide) ?_
                                                            refine y_iadd d_Lw_drawn_127 (v := 18) rfl ?_
                                                            refine y_bipush d_Lw_drawn_128 (v := 9) (by decide) ?_
                                                            refine y_callS (As := [.ref (g.2.2 40), .int 18, .int 9]) (rest := [.int (nI (pkN g 17 12)), .int ((z_by 0).getD (pkN g 16 6) 0), .int 0, .ref (ad 0)]) (csC := []) (is := []) ln_Lw_182 w_st_Lw_pick ok_Lw_drawn_Lw_pick d_Lw_drawn_130 (C_Lw_pick g 18 9 (by decide) (by decide) (by decide) hL) rfl rfl (Nat.le_of_ble_eq_true rfl) rfl (by decide) (by omega) (by omega) (fun E cs1 hx => ?_) (fun v cs1 hx => ?_)
                                                            · exact absurd hx.1 (by simp)
                                                            · obtain ⟨e1, rfl⟩ := hx
                                                              cases e1
                                                              refine ⟨rfl, ?_⟩
                                                              refine y_st (st2 := [.int (nI (pkN g 18 9)), .int (nI (pkN g 17 12)), .int ((z_by 0).getD (pkN g 16 6) 0), .int 0, .ref (ad 0)]) rfl ?_
                                                              refine y_cs (cs2 := []) rfl ?_
                                                              refine y_iconst d_Lw_drawn_133 (v := 1) (by decide) ?_
                                                              refine y_aload_n d_Lw_drawn_134 rfl 3 rfl ?_
                                                              refine y_iload d_Lw_drawn_135 0 rfl ?_
                                                              refine y_iconst d_Lw_drawn_137 (v := 3) (by decide) ?_
                                                              refine y_iadd d_Lw_drawn_138 (v := 19) rfl ?_
                                                              refine y_iconst d_Lw_drawn_139 (v := 3) (by decide) ?_
                                                              refine y_callS (As := [.ref (g.2.2 40), .int 19, .int 3]) (rest := [.int 1, .int (nI (pkN g 18 9)), .int (nI (pkN g 17 12)), .int ((z_by 0).getD (pkN g 16 6) 0), .int 0, .ref (ad 0)]) (csC := []) (is := []) ln_Lw_182 w_st_Lw_pick ok_Lw_drawn_Lw_pick d_Lw_drawn_140 (C_Lw_pick g 19 3 (by decide) (by decide) (by decide) hL) rfl rfl (Nat.le_of_ble_eq_true rfl) rfl (by decide) (by omega) (by omega) (fun E cs1 hx => ?_) (fun v cs1 hx => ?_)
                                                              · exact absurd hx.1 (by simp)
                                                              · obtain ⟨e1, rfl⟩ := hx
                                                                cases e1
                                                                refine ⟨rfl, ?_⟩
                                                                refine y_st (st2 := [.int (nI (pkN g 19 3)), .int 1, .int (nI (pkN g 18 9)), .int (nI (pkN g 17 12)), .int ((z_by 0).getD (pkN g 16 6) 0), .int 0, .ref (ad 0)]) rfl ?_
                                                                refine y_cs (cs2 := []) rfl ?_
                                                                refine y_iadd d_Lw_drawn_143 (v := 1 + (nI (pkN g 19 3))) rfl ?_
                                                                refine y_iconst d_Lw_drawn_144 (v := 1) (by decide) ?_
                                                                refine y_aload_n d_Lw_drawn_145 rfl 3 rfl ?_
                                                                refine y_iload d_Lw_drawn_146 0 rfl ?_
                                                                refine y_iconst d_Lw_drawn_148 (v := 4) (by decide) ?_
                                                                refine y_iadd d_Lw_drawn_149 (v := 20) rfl ?_
                                                                refine y_iconst d_Lw_drawn_150 (v := 3) (by decide) ?_
                                                                refine y_callS (As := [.ref (g.2.2 40), .int 20, .int 3]) (rest := [.int 1, .int (1 + (nI (pkN g 19 3))), .int (nI (pkN g 18 9)), .int (nI (pkN g 17 12)), .int ((z_by 0).getD (pkN g 16 6) 0), .int 0, .ref (ad 0)]) (csC := []) (is := []) ln_Lw_182 w_st_Lw_pick ok_Lw_drawn_Lw_pick d_Lw_drawn_151 (C_Lw_pick g 20 3 (by decide) (by decide) (by decide) hL) rfl rfl (Nat.le_of_ble_eq_true rfl) rfl (by decide) (by omega) (by omega) (fun E cs1 hx => ?_) (fun v cs1 hx => ?_)
                                                                · exact absurd hx.1 (by simp)
                                                                · obtain ⟨e1, rfl⟩ := hx
                                                                  cases e1
                                                                  refine ⟨rfl, ?_⟩
                                                                  refine y_st (st2 := [.int (nI (pkN g 20 3)), .int 1, .int (1 + (nI (pkN g 19 3))), .int (nI (pkN g 18 9)), .int (nI (pkN g 17 12)), .int ((z_by 0).getD (pkN g 16 6) 0), .int 0, .ref (ad 0)]) rfl ?_
                                                                  refine y_cs (cs2 := []) rfl ?_
                                                                  refine y_iadd d_Lw_drawn_154 (v := 1 + (nI (pkN g 20 3))) rfl ?_
                                                                  refine yw_callSX (As := [.ref (ad 0), .int 0, .int ((z_by 0).getD (pkN g 16 6) 0), .int (nI (pkN g 17 12)), .int (nI (pkN g 18 9)), .int (1 + (nI (pkN g 19 3))), .int (1 + (nI (pkN g 20 3)))]) (rest := []) ln_Lw_175 w_st_Lw_deed ok_Lw_drawn_Lw_deed d_Lw_drawn_155 (fun wA hA => T_draw (hW4.e (z_I.same (z_I.nil _) hA)) ((z_by 0).getD (pkN g 16 6) 0) (nI (pkN g 17 12)) (nI (pkN g 18 9)) (1 + (nI (pkN g 19 3))) (1 + (nI (pkN g 20 3))) (z_byc 0 (by decide) (pkN g 16 6) (Nat.lt_trans (pkN_lt (by decide)) (by decide))).2) rfl rfl (Nat.le_of_ble_eq_true rfl) (by omega) (by omega) (fun wA155 hA155 E wB155 hx => ?_) (fun wA155 hA155 v wB155 hx => ?_)
                                                                  · obtain ⟨⟨i9, e9⟩, -⟩ := hx
                                                                    cases e9
                                                                  · obtain ⟨⟨i9, e9⟩, f5, hW5⟩ := hx
                                                                    cases e9
                                                                    refine yw_st (st2 := [.int i9]) rfl ?_
                                                                    refine y_base (cs := []) (z_I.nil _) ?_
                                                                    refine y_pop d_Lw_drawn_158 rfl ?_
                                                                    refine y_iinc (lv' := [(3, .int 3), (4, .int 16), (0, .ref (ad 0)), (1, .ref (g.2.2 40)), (2, .int 0)]) (v := 3) d_Lw_drawn_159 (j := 1) rfl rfl (by decide) rfl ?_
                                                                    refine y_goto (tgt := 83) d_Lw_drawn_162 (by decide) ?_
                                                                    refine y_iload_n d_Lw_drawn_83 rfl 0 rfl ?_
                                                                    refine y_iconst d_Lw_drawn_84 (v := 4) (by decide) ?_
                                                                    refine y_icmp_ge (tgt := 165) d_Lw_drawn_85 (by decide) (fun c_85 => ?_) (fun c_85 => ?_)
                                                                    · exact absurd c_85 (by decide)
                                                                    · refine y_iload_n d_Lw_drawn_88 rfl 4 rfl ?_
                                                                      refine y_bipush d_Lw_drawn_89 (v := 6) (by decide) ?_
                                                                      refine y_iadd d_Lw_drawn_91 (v := 6) rfl ?_
                                                                      refine y_iconst d_Lw_drawn_92 (v := 5) (by decide) ?_
                                                                      refine y_iload_n d_Lw_drawn_93 rfl 0 rfl ?_
                                                                      refine y_imul d_Lw_drawn_94 (v := 15) rfl ?_
                                                                      refine y_iadd d_Lw_drawn_95 (v := 21) rfl ?_
                                                                      refine y_istore (lv' := [(4, .int 21), (3, .int 3), (0, .ref (ad 0)), (1, .ref (g.2.2 40)), (2, .int 0)]) d_Lw_drawn_96 (by decide) rfl ?_
                                                                      refine y_aload_n d_Lw_drawn_98 rfl 2 rfl ?_
                                                                      refine y_iconst d_Lw_drawn_99 (v := 0) (by decide) ?_
                                                                      refine y_ldcS (own := "IronpourLaw") (i := 0) (by decide) d_Lw_drawn_100 ?_
                                                                      refine y_aload_n d_Lw_drawn_102 rfl 3 rfl ?_
                                                                      refine y_iload d_Lw_drawn_103 0 rfl ?_
                                                                      refine y_bipush d_Lw_drawn_105 (v := 6) (by decide) ?_
                                                                      refine y_callS (As := [.ref (g.2.2 40), .int 21, .int 6]) (rest := [.ref (g.2.2 (5 + 0)), .int 0, .ref (ad 0)]) (csC := []) (is := []) ln_Lw_182 w_st_Lw_pick ok_Lw_drawn_Lw_pick d_Lw_drawn_107 (C_Lw_pick g 21 6 (by decide) (by decide) (by decide) hL) rfl rfl (Nat.le_of_ble_eq_true rfl) rfl (by decide) (by omega) (by omega) (fun E cs1 hx => ?_) (fun v cs1 hx => ?_)
                                                                      · exact absurd hx.1 (by simp)
                                                                      · obtain ⟨e1, rfl⟩ := hx
                                                                        cases e1
                                                                        refine ⟨rfl, ?_⟩
                                                                        refine y_st (st2 := [.int (nI (pkN g 21 6)), .ref (g.2.2 (5 + 0)), .int 0, .ref (ad 0)]) rfl ?_
                                                                        refine y_cs (cs2 := []) rfl ?_
                                                                        refine y_callVS (As := [.int (nI (pkN g 21 6))]) (rest := [.int 0, .ref (ad 0)]) (csC := []) (is := []) (i := 0) (by first | assumption | decide) rfl ln_Lw_188 w_im_String_charAt w_se_String_charAt ok_Lw_drawn_String_charAt d_Lw_drawn_110 (C_St_charAt g 0 (pkN g 21 6) (by decide) (Nat.lt_of_lt_of_le (pkN_lt (by decide)) (by decide))) rfl rfl (Nat.le_of_ble_eq_true rfl) rfl (by decide) (by omega) (by omega) (fun E cs1 hx => ?_) (fun v cs1 hx => ?_)
                                                                        · exact absurd hx.1 (by simp)
                                                                        · obtain ⟨e1, rfl⟩ := hx
                                                                          cases e1
                                                                          refine ⟨rfl, ?_⟩
                                                                          refine y_st (st2 := [.int ((z_by 0).getD (pkN g 21 6) 0), .int 0, .ref (ad 0)]) rfl ?_
                                                                          refine y_cs (cs2 := []) rfl ?_
                                                                          refine y_aload_n d_Lw_drawn_113 rfl 3 rfl ?_
                                                                          refine y_iload d_Lw_drawn_114 0 rfl ?_
                                                                          refine y_iconst d_Lw_drawn_116 (v := 1) (by decide) ?_
                                                                          refine y_iadd d_Lw_drawn_117 (v := 22) rfl ?_
                                                                          refine y_bipush d_Lw_drawn_118 (v := 12) (by decide) ?_
                                                                          refine y_callS (As := [.ref (g.2.2 40), .int 22, .int 12]) (rest := [.int ((z_by 0).getD (pkN g 21 6) 0), .int 0, .ref (ad 0)]) (csC := []) (is := []) ln_Lw_182 w_st_Lw_pick ok_Lw_drawn_Lw_pick d_Lw_drawn_120 (C_Lw_pick g 22 12 (by decide) (by decide) (by decide) hL) rfl rfl (Nat.le_of_ble_eq_true rfl) rfl (by decide) (by omega) (by omega) (fun E cs1 hx => ?_) (fun v cs1 hx => ?_)
                                                                          · exact absurd hx.1 (by simp)
                                                                          · obtain ⟨e1, rfl⟩ := hx
                                                                            cases e1
                                                                            refine ⟨rfl, ?_⟩
                                                                            refine y_st (st2 := [.int (nI (pkN g 22 12)), .int ((z_by 0).getD (pkN g 21 6) 0), .int 0, .ref (ad 0)]) rfl ?_
                                                                            refine y_cs (cs2 := []) rfl ?_
                                                                            refine y_aload_n d_Lw_drawn_123 rfl 3 rfl ?_
                                                                            refine y_iload d_Lw_drawn_124 0 rfl ?_
                                                                            refine y_iconst d_Lw_drawn_126 (v := 2) (by decide) ?_
                                                                            refine y_iadd d_Lw_drawn_127 (v := 23) rfl ?_
                                                                            refine y_bipush d_Lw_drawn_128 (v := 9) (by decide) ?_
                                                                            refine y_callS (As := [.ref (g.2.2 40), .int 23, .int 9]) (rest := [.int (nI (pkN g 22 12)), .int ((z_by 0).getD (pkN g 21 6) 0), .int 0, .ref (ad 0)]) (csC := []) (is := []) ln_Lw_182 w_st_Lw_pick ok_Lw_drawn_Lw_pick d_Lw_drawn_130 (C_Lw_pick g 23 9 (by decide) (by decide) (by decide) hL) rfl rfl (Nat.le_of_ble_eq_true rfl) rfl (by decide) (by omega) (by omega) (fun E cs1 hx => ?_) (fun v cs1 hx => ?_)
                                                                            · exact absurd hx.1 (by simp)
                                                                            · obtain ⟨e1, rfl⟩ := hx
                                                                              cases e1
                                                                              refine ⟨rfl, ?_⟩
                                                                              refine y_st (st2 := [.int (nI (pkN g 23 9)), .int (nI (pkN g 22 12)), .int ((z_by 0).getD (pkN g 21 6) 0), .int 0, .ref (ad 0)]) rfl ?_
                                                                              refine y_cs (cs2 := []) rfl ?_
                                                                              refine y_iconst d_Lw_drawn_133 (v := 1) (by decide) ?_
                                                                              refine y_aload_n d_Lw_drawn_134 rfl 3 rfl ?_
                                                                              refine y_iload d_Lw_drawn_135 0 rfl ?_
                                                                              refine y_iconst d_Lw_drawn_137 (v := 3) (by decide) ?_
                                                                              refine y_iadd d_Lw_drawn_138 (v := 24) rfl ?_
                                                                              refine y_iconst d_Lw_drawn_139 (v := 3) (by decide) ?_
                                                                              refine y_callS (As := [.ref (g.2.2 40), .int 24, .int 3]) (rest := [.int 1, .int (nI (pkN g 23 9)), .int (nI (pkN g 22 12)), .int ((z_by 0).getD (pkN g 21 6) 0), .int 0, .ref (ad 0)]) (csC := []) (is := []) ln_Lw_182 w_st_Lw_pick ok_Lw_drawn_Lw_pick d_Lw_drawn_140 (C_Lw_pick g 24 3 (by decide) (by decide) (by decide) hL) rfl rfl (Nat.le_of_ble_eq_true rfl) rfl (by decide) (by omega) (by omega) (fun E cs1 hx => ?_) (fun v cs1 hx => ?_)
                                                                              · exact absurd hx.1 (by simp)
                                                                              · obtain ⟨e1, rfl⟩ := hx
                                                                                cases e1
                                                                                refine ⟨rfl, ?_⟩
                                                                                refine y_st (st2 := [.int (nI (pkN g 24 3)), .int 1, .int (nI (pkN g 23 9)), .int (nI (pkN g 22 12)), .int ((z_by 0).getD (pkN g 21 6) 0), .int 0, .ref (ad 0)]) rfl ?_
                                                                                refine y_cs (cs2 := []) rfl ?_
                                                                                refine y_iadd d_Lw_drawn_143 (v := 1 + (nI (pkN g 24 3))) rfl ?_
                                                                                refine y_iconst d_Lw_drawn_144 (v := 1) (by decide) ?_
                                                                                refine y_aload_n d_Lw_drawn_145 rfl 3 rfl ?_
                                                                                refine y_iload d_Lw_drawn_146 0 rfl ?_
                                                                                refine y_iconst d_Lw_drawn_148 (v := 4) (by decide) ?_
                                                                                refine y_iadd d_Lw_drawn_149 (v := 25) rfl ?_
                                                                                refine y_iconst d_Lw_drawn_150 (v := 3) (by decide) ?_
                                                                                refine y_callS (As := [.ref (g.2.2 40), .int 25, .int 3]) (rest := [.int 1, .int (1 + (nI (pkN g 24 3))), .int (nI (pkN g 23 9)), .int (nI (pkN g 22 12)), .int ((z_by 0).getD (pkN g 21 6) 0), .int 0, .ref (ad 0)]) (csC := []) (is := []) ln_Lw_182 w_st_Lw_pick ok_Lw_drawn_Lw_pick d_Lw_drawn_151 (C_Lw_pick g 25 3 (by decide) (by decide) (by decide) hL) rfl rfl (Nat.le_of_ble_eq_true rfl) rfl (by decide) (by omega) (by omega) (fun E cs1 hx => ?_) (fun v cs1 hx => ?_)
                                                                                · exact absurd hx.1 (by simp)
                                                                                · obtain ⟨e1, rfl⟩ := hx
                                                                                  cases e1
                                                                                  refine ⟨rfl, ?_⟩
                                                                                  refine y_st (st2 := [.int (nI (pkN g 25 3)), .int 1, .int (1 + (nI (pkN g 24 3))), .int (nI (pkN g 23 9)), .int (nI (pkN g 22 12)), .int ((z_by 0).getD (pkN g 21 6) 0), .int 0, .ref (ad 0)]) rfl ?_
                                                                                  refine y_cs (cs2 := []) rfl ?_
                                                                                  refine y_iadd d_Lw_drawn_154 (v := 1 + (nI (pkN g 25 3))) rfl ?_
                                                                                  refine yw_callSX (As := [.ref (ad 0), .int 0, .int ((z_by 0).getD (pkN g 21 6) 0), .int (nI (pkN g 22 12)), .int (nI (pkN g 23 9)), .int (1 + (nI (pkN g 24 3))), .int (1 + (nI (pkN g 25 3)))]) (rest := []) ln_Lw_175 w_st_Lw_deed ok_Lw_drawn_Lw_deed d_Lw_drawn_155 (fun wA hA => T_draw (hW5.e (z_I.same (z_I.nil _) hA)) ((z_by 0).getD (pkN g 21 6) 0) (nI (pkN g 22 12)) (nI (pkN g 23 9)) (1 + (nI (pkN g 24 3))) (1 + (nI (pkN g 25 3))) (z_byc 0 (by decide) (pkN g 21 6) (Nat.lt_trans (pkN_lt (by decide)) (by decide))).2) rfl rfl (Nat.le_of_ble_eq_true rfl) (by omega) (by omega) (fun wA155 hA155 E wB155 hx => ?_) (fun wA155 hA155 v wB155 hx => ?_)
                                                                                  · obtain ⟨⟨i9, e9⟩, -⟩ := hx
                                                                                    cases e9
                                                                                  · obtain ⟨⟨i9, e9⟩, f6, hW6⟩ := hx
                                                                                    cases e9
                                                                                    refine yw_st (st2 := [.int i9]) rfl ?_
                                                                                    refine y_base (cs := []) (z_I.nil _) ?_
                                                                                    refine y_pop d_Lw_drawn_158 rfl ?_
                                                                                    refine y_iinc (lv' := [(3, .int 4), (4, .int 21), (0, .ref (ad 0)), (1, .ref (g.2.2 40)), (2, .int 0)]) (v := 4) d_Lw_drawn_159 (j := 1) rfl rfl (by decide) rfl ?_
                                                                                    refine y_goto (tgt := 83) d_Lw_drawn_162 (by decide) ?_
                                                                                    refine y_iload_n d_Lw_drawn_83 rfl 0 rfl ?_
                                                                                    refine y_iconst d_Lw_drawn_84 (v := 4) (by decide) ?_
                                                                                    refine y_icmp_ge (tgt := 165) d_Lw_drawn_85 (by decide) (fun c_85 => ?_) (fun c_85 => ?_)
                                                                                    · refine y_aload_n d_Lw_drawn_165 rfl 2 rfl ?_
                                                                                      refine y_iconst d_Lw_drawn_166 (v := 1) (by decide) ?_
                                                                                      refine y_iconst d_Lw_drawn_167 (v := 1) (by decide) ?_
                                                                                      refine y_aload_n d_Lw_drawn_168 rfl 3 rfl ?_
                                                                                      refine y_iload_n d_Lw_drawn_169 rfl 4 rfl ?_
                                                                                      refine y_bipush d_Lw_drawn_170 (v := 26) (by decide) ?_
                                                                                      refine y_iadd d_Lw_drawn_172 (v := 26) rfl ?_
                                                                                      refine y_bipush d_Lw_drawn_173 (v := 8) (by decide) ?_
                                                                                      refine y_callS (As := [.ref (g.2.2 40), .int 26, .int 8]) (rest := [.int 1, .int 1, .ref (ad 0)]) (csC := []) (is := []) ln_Lw_182 w_st_Lw_pick ok_Lw_drawn_Lw_pick d_Lw_drawn_175 (C_Lw_pick g 26 8 (by decide) (by decide) (by decide) hL) rfl rfl (Nat.le_of_ble_eq_true rfl) rfl (by decide) (by omega) (by omega) (fun E cs1 hx => ?_) (fun v cs1 hx => ?_)
                                                                                      · exact absurd hx.1 (by simp)
                                                                                      · obtain ⟨e1, rfl⟩ := hx
                                                                                        cases e1
                                                                                        refine ⟨rfl, ?_⟩
                                                                                        refine y_st (st2 := [.int (nI (pkN g 26 8)), .int 1, .int 1, .ref (ad 0)]) rfl ?_
                                                                                        refine y_cs (cs2 := []) rfl ?_
                                                                                        refine y_iadd d_Lw_drawn_178 (v := nI (1 + pkN g 26 8)) (nI_add 1 _) ?_
                                                                                        refine y_iconst d_Lw_drawn_179 (v := 0) (by decide) ?_
                                                                                        refine y_iconst d_Lw_drawn_180 (v := 0) (by decide) ?_
                                                                                        refine y_iconst d_Lw_drawn_181 (v := 0) (by decide) ?_
                                                                                        refine y_iconst d_Lw_drawn_182 (v := 0) (by decide) ?_
                                                                                        refine yw_callSX (As := [.ref (ad 0), .int 1, .int (nI (1 + pkN g 26 8)), .int 0, .int 0, .int 0, .int 0]) (rest := []) ln_Lw_175 w_st_Lw_deed ok_Lw_drawn_Lw_deed d_Lw_drawn_183 (fun wA hA => T_part (hW6.e (z_I.same (z_I.nil _) hA)) (by omega) (by have := pkN_lt (g := g) (i := 26) (m := 8) (by decide); omega)) rfl rfl (Nat.le_of_ble_eq_true rfl) (by omega) (by omega) (fun wA183 hA183 E wB183 hx => ?_) (fun wA183 hA183 v wB183 hx => ?_)
                                                                                        · obtain ⟨⟨i9, e9⟩, -⟩ := hx
                                                                                          cases e9
                                                                                        · obtain ⟨⟨i9, e9⟩, hW7⟩ := hx
                                                                                          cases e9
                                                                                          refine yw_st (st2 := [.int i9]) rfl ?_
                                                                                          refine y_base (cs := []) (z_I.nil _) ?_
                                                                                          refine y_pop d_Lw_drawn_186 rfl ?_
                                                                                          refine y_vret d_Lw_drawn_187 rfl ?_
                                                                                          exact fun w1 k1 => ⟨rfl, _, hW7.e (z_I.same (z_I.nil _) k1)⟩
                                                                                    · exact absurd c_85 (by decide)
