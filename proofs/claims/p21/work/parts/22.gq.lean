set_option maxRecDepth 100000 in
set_option maxHeartbeats 4000000 in
theorem c_X8_setDefaults_65_q (l : Launch) (hl : l.stackTraces = false) (d : Nat) (hd : 0 ≤ d) (h : mH) (i0 : mm_inv h) : mm_Met l d yX8_setDefaults cX8_setDefaults 1 none [mR 65] h (mm_pv fun h2 => mm_inv h2 ∧ mm_fr [] [65] h h2 ∧ h2.2.1 65 0 = 3600 ∧ h2.2.1 65 1 = 60 ∧ h2.2.1 65 2 = 900) mm_nx 0 0 := by
  refine mm_ofW (ls := [mR 65]) hl (by decide) rfl (Nat.le_of_ble_eq_true rfl) ?_
  intro x hxl C T hnm htb
  subst hxl
  have f0 : mm_fr [] [65] h h := mm_fr_rf
  refine mm_aload_n C (mm_dec dk_X8_setDefaults 0 rfl) rfl ?_
  refine mm_iconst C (mm_dec dk_X8_setDefaults 1 rfl) ⟨by decide, by decide⟩ ?_
  refine mm_sipush C (mm_dec dk_X8_setDefaults 2 rfl) ⟨by decide, by decide⟩ ?_
  refine mm_iast C (mm_dec dk_X8_setDefaults 3 rfl) rfl (by omega) (by omega) ?_
  have i1 : mm_inv (mm_pa h 65 0 3600) := mm_inv_pa i0 (show -2147483648 ≤ 3600 ∧ 3600 ≤ 2147483647 from ⟨by omega, by omega⟩)
  have f1 : mm_fr [] [65] h (mm_pa h 65 0 3600) := mm_fr_pa f0 (by decide)
  obtain ⟨h1, eh1⟩ : ∃ z, z = mm_pa h 65 0 3600 := ⟨_, rfl⟩
  rw [← eh1] at i1 f1 ⊢
  refine mm_aload_n C (mm_dec dk_X8_setDefaults 4 rfl) rfl ?_
  refine mm_iconst C (mm_dec dk_X8_setDefaults 5 rfl) ⟨by decide, by decide⟩ ?_
  refine mm_bipush C (mm_dec dk_X8_setDefaults 6 rfl) ⟨by decide, by decide⟩ ?_
  refine mm_iast C (mm_dec dk_X8_setDefaults 7 rfl) rfl (by omega) (by omega) ?_
  have i2 : mm_inv (mm_pa h1 65 1 60) := mm_inv_pa i1 (show -2147483648 ≤ 60 ∧ 60 ≤ 2147483647 from ⟨by omega, by omega⟩)
  have f2 : mm_fr [] [65] h (mm_pa h1 65 1 60) := mm_fr_pa f1 (by decide)
  obtain ⟨h2, eh2⟩ : ∃ z, z = mm_pa h1 65 1 60 := ⟨_, rfl⟩
  rw [← eh2] at i2 f2 ⊢
  refine mm_aload_n C (mm_dec dk_X8_setDefaults 8 rfl) rfl ?_
  refine mm_iconst C (mm_dec dk_X8_setDefaults 9 rfl) ⟨by decide, by decide⟩ ?_
  refine mm_sipush C (mm_dec dk_X8_setDefaults 10 rfl) ⟨by decide, by decide⟩ ?_
  refine mm_iast C (mm_dec dk_X8_setDefaults 11 rfl) rfl (by omega) (by omega) ?_
  have i3 : mm_inv (mm_pa h2 65 2 900) := mm_inv_pa i2 (show -2147483648 ≤ 900 ∧ 900 ≤ 2147483647 from ⟨by omega, by omega⟩)
  have f3 : mm_fr [] [65] h (mm_pa h2 65 2 900) := mm_fr_pa f2 (by decide)
  obtain ⟨h3, eh3⟩ : ∃ z, z = mm_pa h2 65 2 900 := ⟨_, rfl⟩
  rw [← eh3] at i3 f3 ⊢
  exact mm_vret C T (mm_dec dk_X8_setDefaults 12 rfl) (by decide : 0 ≤ 0) (by decide : 0 ≤ 0) ⟨rfl, ⟨i3, f3, by rw [eh3, mm_pa_j 65 (by decide), eh2, mm_pa_j 65 (by decide), eh1]; exact mm_pa_same _ _ _ _, by rw [eh3, mm_pa_j 65 (by decide), eh2]; exact mm_pa_same _ _ _ _, by rw [eh3]; exact mm_pa_same _ _ _ _⟩⟩
set_option maxRecDepth 100000 in
set_option maxHeartbeats 4000000 in
theorem c_X7_readSetting_q (l : Launch) (hl : l.stackTraces = false) (d : Nat) (hd : 6 ≤ d) (h : mH) (i0 : mm_inv h) (t0 : mm_aX h) : mm_Met l d yX7_readSetting cX7_readSetting 2 (some .boolean) [mR 63] h (mm_pi fun r h2 => (0 ≤ r ∧ r ≤ 1) ∧ mm_inv h2 ∧ mm_fr [(63, 5), (63, 6), (63, 7), (63, 8), (63, 9), (63, 10)] [65] h h2 ∧ ((r = 1 ∧ (∀ p, mm_k7 11 p h h2)) ∨ (r = 0 ∧ (∀ p, mm_L7 11 p h h2))) ∧ (r = 1 → ∀ p, mm_kJ p h h2)) mm_nx 0 0 := by
  refine mm_ofW (ls := [mR 63, mU]) hl (by decide) rfl (Nat.le_of_ble_eq_true rfl) ?_
  intro x hxl C T hnm htb
  subst hxl
  have C1 := mm_OK_le (d' := d - 1 + 1) (by omega) C
  have f0 : mm_fr [(63, 5), (63, 6), (63, 7), (63, 8), (63, 9), (63, 10)] [65] h h := mm_fr_rf
  have g1 : -2147483648 ≤ h.1 63 5 ∧ h.1 63 5 ≤ 2147483647 := i0.1 63 5
  have g2 : 0 ≤ h.1 63 7 ∧ h.1 63 7 ≤ 500 := i0.1 63 7
  have g3 : 0 ≤ h.1 63 8 ∧ h.1 63 8 ≤ 500 := i0.1 63 8
  have g4 : 0 ≤ h.1 63 3 ∧ h.1 63 3 ≤ 500 := i0.1 63 3
  have g5 : -2147483648 ≤ h.1 63 6 ∧ h.1 63 6 ≤ 2147483647 := i0.1 63 6
  have g6 : -2147483648 ≤ h.1 63 9 ∧ h.1 63 9 ≤ 2147483647 := i0.1 63 9
  have g7 : -2147483648 ≤ h.1 63 10 ∧ h.1 63 10 ≤ 2147483647 := i0.1 63 10
  have tf := mm_cX_h i0 t0
  have tr := mm_cX_r i0 t0
  refine mm_aload_n C (mm_dec dk_X7_readSetting 0 rfl) rfl ?_
  refine mm_geti C fl_X7_25 (mm_dec dk_X7_readSetting 1 rfl) rfl rfl (Or.inl rfl) ?_
  refine mm_iconst C (mm_dec dk_X7_readSetting 2 rfl) ⟨by decide, by decide⟩ ?_
  refine mm_icmp_eq (tgt := 14) C (mm_dec dk_X7_readSetting 3 rfl) (by decide) (fun c5 => ?_) (fun c5 => ?_)
  · skip
    refine mm_aload_n C (mm_dec dk_X7_readSetting 8 rfl) rfl ?_
    refine mm_geti C fl_X7_28 (mm_dec dk_X7_readSetting 9 rfl) rfl rfl (Or.inl rfl) ?_
    refine mm_bipush C (mm_dec dk_X7_readSetting 10 rfl) ⟨by decide, by decide⟩ ?_
    refine mm_isubw C (mm_dec dk_X7_readSetting 11 rfl) ?_
    have g8 : -2147483648 ≤ (mm_w ((h.1 63 6) - 7)) ∧ (mm_w ((h.1 63 6) - 7)) < 2147483648 := mm_w_rg _
    refine mm_istore_nL (ls2 := [mR 63, mI (mm_w ((h.1 63 6) - 7))]) C (mm_dec dk_X7_readSetting 12 rfl) (by decide) rfl ?_
    have zw7 : mm_w (h.1 63 6 - 7) = h.1 63 6 - 7 := by have zz := mm_hdx tf; exact mm_w_id ⟨by omega, by omega⟩
    refine mm_iload_n C (mm_dec dk_X7_readSetting 13 rfl) rfl ?_
    refine mm_iconst C (mm_dec dk_X7_readSetting 14 rfl) ⟨by decide, by decide⟩ ?_
    refine mm_iconst C (mm_dec dk_X7_readSetting 15 rfl) ⟨by decide, by decide⟩ ?_
    refine mm_cNi (host := "MapRun") (rest := []) C1 mw_X11_within (by decide) sm_X11_within (mm_dec dk_X7_readSetting 16 rfl) (c_X11_within x.2.1 hl (d - 1) (by omega) h i0 (mm_w ((h.1 63 6) - 7)) 0 2) rfl (Nat.le_of_ble_eq_true rfl) ⟨by decide, by decide⟩ rfl (fun r25 h25c hp25 => ?_)
    obtain ⟨z25, y25⟩ := hp25
    rw [z25]
    have g10 : -2147483648 ≤ (mm_w ((h.1 63 6) - 7)) ∧ (mm_w ((h.1 63 6) - 7)) < 2147483648 := mm_w_rg _
    have g11 : -2147483648 ≤ (mm_w ((h.1 63 6) - 7)) ∧ (mm_w ((h.1 63 6) - 7)) < 2147483648 := mm_w_rg _
    have g12 : -2147483648 ≤ (mm_w ((h.1 63 6) - 7)) ∧ (mm_w ((h.1 63 6) - 7)) < 2147483648 := mm_w_rg _
    have g13 : -2147483648 ≤ (mm_w ((h.1 63 6) - 7)) ∧ (mm_w ((h.1 63 6) - 7)) < 2147483648 := mm_w_rg _
    have g14 : -2147483648 ≤ (mm_w ((h.1 63 6) - 7)) ∧ (mm_w ((h.1 63 6) - 7)) < 2147483648 := mm_w_rg _
    refine mm_if_ne (tgt := 37) C (mm_dec dk_X7_readSetting 17 rfl) (by decide) (fun c28 => ?_) (fun c28 => ?_)
    · skip
      refine mm_aload_n C (mm_dec dk_X7_readSetting 22 rfl) rfl ?_
      refine mm_cVv (rest := []) C1 ev_X7_52 (mm_dec dk_X7_readSetting 23 rfl) (c_X7_step_q x.2.1 hl (d - 1) (by omega) h i0 ) rfl rfl (Nat.le_of_ble_eq_true rfl) ⟨by decide, by decide⟩ rfl (fun h38c hp38 => ?_) (fun _ _ q => q.elim)
      obtain ⟨i38c, g38c, y38_0, y38_1, y38_2⟩ := hp38
      have f38c : mm_fr [(63, 5), (63, 6), (63, 7), (63, 8), (63, 9), (63, 10)] [65] h h38c := mm_fr_tr f0 g38c (by decide +kernel)
      have q38c_16 : h38c.1 63 3 = h.1 63 3 := g38c.1 63 3 (by decide)
      have q38c_17 : h38c.1 63 9 = h.1 63 9 := g38c.1 63 9 (by decide)
      have q38c_18 : h38c.1 63 10 = h.1 63 10 := g38c.1 63 10 (by decide)
      have g19 : -2147483648 ≤ (h38c.1 63 5) ∧ (h38c.1 63 5) ≤ 2147483647 := i38c.1 63 5
      have g20 : 0 ≤ (h38c.1 63 7) ∧ (h38c.1 63 7) ≤ 500 := i38c.1 63 7
      have g21 : 0 ≤ (h38c.1 63 8) ∧ (h38c.1 63 8) ≤ 500 := i38c.1 63 8
      have g22 : -2147483648 ≤ (h38c.1 63 6) ∧ (h38c.1 63 6) ≤ 2147483647 := i38c.1 63 6
      have zs := mm_st7_of t0 y38_1 y38_2 g38c (by decide)
      have tg := mm_cX_h i38c y38_1
      have zc : 7 ≤ mm_cX h ∧ mm_cX h ≤ 9 := by have zz := mm_hdx tf; omega
      refine mm_aload_n C (mm_dec dk_X7_readSetting 24 rfl) rfl ?_
      refine mm_cVi (rest := []) C1 ev_X7_89 (mm_dec dk_X7_readSetting 25 rfl) (c_X7_isNumber_q x.2.1 hl (d - 1) (by omega) h38c i38c ) rfl rfl (Nat.le_of_ble_eq_true rfl) ⟨by decide, by decide⟩ rfl (fun r42 h42c hp42 => ?_) (fun _ _ q => q.elim)
      obtain ⟨b42, i42c, g42c, y42_0⟩ := hp42
      have f42c : mm_fr [(63, 5), (63, 6), (63, 7), (63, 8), (63, 9), (63, 10)] [65] h h42c := mm_fr_tr f38c g42c (by decide +kernel)
      have q42c_24 : h42c.1 63 3 = h38c.1 63 3 := g42c.1 63 3 (by decide)
      have q42c_25 : h42c.1 63 5 = h38c.1 63 5 := g42c.1 63 5 (by decide)
      have q42c_26 : h42c.1 63 6 = h38c.1 63 6 := g42c.1 63 6 (by decide)
      have q42c_27 : h42c.1 63 7 = h38c.1 63 7 := g42c.1 63 7 (by decide)
      have q42c_28 : h42c.1 63 8 = h38c.1 63 8 := g42c.1 63 8 (by decide)
      have g29 : -2147483648 ≤ (h42c.1 63 9) ∧ (h42c.1 63 9) ≤ 2147483647 := i42c.1 63 9
      have g30 : -2147483648 ≤ (h42c.1 63 10) ∧ (h42c.1 63 10) ≤ 2147483647 := i42c.1 63 10
      refine mm_if_ne (tgt := 50) C (mm_dec dk_X7_readSetting 26 rfl) (by decide) (fun c45 => ?_) (fun c45 => ?_)
      · skip
        have z42 := mm_or1 y42_0 (by omega)
        have ze5 := z42.2.2.2.1
        have ze7 := z42.2.2.2.2.2.1
        have ze8 := z42.2.2.2.2.2.2.1
        have zk := z42.1
        have zl := z42.2.1
        refine mm_aload_n C (mm_dec dk_X7_readSetting 29 rfl) rfl ?_
        refine mm_getr (t := 65) C fl_X7_15 (mm_dec dk_X7_readSetting 30 rfl) rfl rfl (mm_ref i42c rfl) ?_
        refine mm_iload_n C (mm_dec dk_X7_readSetting 31 rfl) rfl ?_
        refine mm_aload_n C (mm_dec dk_X7_readSetting 32 rfl) rfl ?_
        refine mm_cVi (rest := [mI (mm_w ((h.1 63 6) - 7)), mR 65]) C1 ev_X7_92 (mm_dec dk_X7_readSetting 33 rfl) (c_X7_numberOfToken_q x.2.1 hl (d - 1) (by omega) h42c i42c (by first | exact mm_em_a z42.2.2 y38_1 | omega) (by first | exact mm_em_a z42.2.2 y38_1 | omega) (by first | exact mm_em_a z42.2.2 y38_1 | omega)) rfl rfl (Nat.le_of_ble_eq_true rfl) ⟨by decide, by decide⟩ rfl (fun r56 h56c hp56 => ?_) (fun _ _ q => q.elim)
        obtain ⟨b56, z56, y56_0⟩ := hp56
        rw [z56]
        refine mm_iast C (mm_dec dk_X7_readSetting 34 rfl) rfl (by omega) (by omega) ?_
        have i3 : mm_inv (mm_pa h42c 65 (mm_w ((h.1 63 6) - 7)) r56) := mm_inv_pa i42c (show -2147483648 ≤ r56 ∧ r56 ≤ 2147483647 from ⟨by omega, by omega⟩)
        have f3 : mm_fr [(63, 5), (63, 6), (63, 7), (63, 8), (63, 9), (63, 10)] [65] h (mm_pa h42c 65 (mm_w ((h.1 63 6) - 7)) r56) := mm_fr_pa f42c (by decide)
        obtain ⟨h3, eh3⟩ : ∃ z, z = mm_pa h42c 65 (mm_w ((h.1 63 6) - 7)) r56 := ⟨_, rfl⟩
        rw [← eh3] at i3 f3 ⊢
        have qh3_32 : h3.1 63 3 = h42c.1 63 3 := by rw [eh3]; rfl
        have qh3_33 : h3.1 63 5 = h42c.1 63 5 := by rw [eh3]; rfl
        have qh3_34 : h3.1 63 6 = h42c.1 63 6 := by rw [eh3]; rfl
        have qh3_35 : h3.1 63 7 = h42c.1 63 7 := by rw [eh3]; rfl
        have qh3_36 : h3.1 63 8 = h42c.1 63 8 := by rw [eh3]; rfl
        have qh3_37 : h3.1 63 9 = h42c.1 63 9 := by rw [eh3]; rfl
        have qh3_38 : h3.1 63 10 = h42c.1 63 10 := by rw [eh3]; rfl
        have zP := mm_em_tr z42.2.2 (mm_em_pa eh3 (by decide))
        have zu : mm_up h h3 65 (mm_cX h - 7) (mm_tv (mm_UX h38c) (h38c.1 63 3) (h38c.1 63 7)) 1 := mm_up_pav (fun j => (g42c.2 65 (by decide) j).trans (g38c.2 65 (by decide) j)) eh3 (fun _ => rfl) (by have zz := mm_hdx tf; omega) (y56_0.trans (mm_em_tv z42.2.2)) rfl
        refine mm_aload_n C (mm_dec dk_X7_readSetting 35 rfl) rfl ?_
        refine mm_cVv (rest := []) C1 ev_X7_52 (mm_dec dk_X7_readSetting 36 rfl) (c_X7_step_q x.2.1 hl (d - 1) (by omega) h3 i3 ) rfl rfl (Nat.le_of_ble_eq_true rfl) ⟨by decide, by decide⟩ rfl (fun h61c hp61 => ?_) (fun _ _ q => q.elim)
        obtain ⟨i61c, g61c, y61_0, y61_1, y61_2⟩ := hp61
        have f61c : mm_fr [(63, 5), (63, 6), (63, 7), (63, 8), (63, 9), (63, 10)] [65] h h61c := mm_fr_tr f3 g61c (by decide +kernel)
        have q61c_40 : h61c.1 63 3 = h3.1 63 3 := g61c.1 63 3 (by decide)
        have q61c_41 : h61c.1 63 9 = h3.1 63 9 := g61c.1 63 9 (by decide)
        have q61c_42 : h61c.1 63 10 = h3.1 63 10 := g61c.1 63 10 (by decide)
        have g43 : -2147483648 ≤ (h61c.1 63 5) ∧ (h61c.1 63 5) ≤ 2147483647 := i61c.1 63 5
        have g44 : 0 ≤ (h61c.1 63 7) ∧ (h61c.1 63 7) ≤ 500 := i61c.1 63 7
        have g45 : 0 ≤ (h61c.1 63 8) ∧ (h61c.1 63 8) ≤ 500 := i61c.1 63 8
        have g46 : -2147483648 ≤ (h61c.1 63 6) ∧ (h61c.1 63 6) ≤ 2147483647 := i61c.1 63 6
        refine mm_iconst C (mm_dec dk_X7_readSetting 37 rfl) ⟨by decide, by decide⟩ ?_
        exact mm_zret C T (mm_dec dk_X7_readSetting 38 rfl) (by decide : 0 ≤ 0) (by decide : 0 ≤ 0) (by omega) ⟨_, rfl, ⟨⟨by omega, by omega⟩, i61c, f61c, by first | exact Or.inr ⟨by omega, fun p => mm_L7_set1 (Or.inl ⟨by have zz := mm_hdx tf; omega, y10_0⟩) y10_1⟩ | exact Or.inr ⟨by omega, fun p => mm_L7_set1 (Or.inr ⟨by have zz := mm_hdx tf; omega, by have zz := mm_hdx tf; omega, y33_0⟩) y33_1⟩ | (have z := mm_or0 y42_0 (by omega); exact Or.inr ⟨rfl, fun p => mm_L7_set2 zc zs (by have zz := mm_hdx tg; have z1 := z.1; omega) z.2⟩) | exact Or.inl ⟨rfl, fun p => mm_k7_set zc zs (by have zz := mm_hdx tg; omega) zP zu (mm_st7_of (mm_em_a zP y38_1) y61_1 y61_2 g61c (by decide)) (g61c.2 65 (by decide))⟩, by first | exact fun q => absurd q (by omega) | exact fun _ p => mm_kJ_set zc zs (by have zz := mm_hdx tg; omega) zP zu (mm_st7_of (mm_em_a zP y38_1) y61_1 y61_2 g61c (by decide)) (g61c.2 65 (by decide))⟩⟩
      · skip
        refine mm_iconst C (mm_dec dk_X7_readSetting 27 rfl) ⟨by decide, by decide⟩ ?_
        exact mm_zret C T (mm_dec dk_X7_readSetting 28 rfl) (by decide : 0 ≤ 0) (by decide : 0 ≤ 0) (by omega) ⟨_, rfl, ⟨⟨by omega, by omega⟩, i42c, f42c, by first | exact Or.inr ⟨by omega, fun p => mm_L7_set1 (Or.inl ⟨by have zz := mm_hdx tf; omega, y10_0⟩) y10_1⟩ | exact Or.inr ⟨by omega, fun p => mm_L7_set1 (Or.inr ⟨by have zz := mm_hdx tf; omega, by have zz := mm_hdx tf; omega, y33_0⟩) y33_1⟩ | (have z := mm_or0 y42_0 (by omega); exact Or.inr ⟨rfl, fun p => mm_L7_set2 zc zs (by have zz := mm_hdx tg; have z1 := z.1; omega) z.2⟩) | exact Or.inl ⟨rfl, fun p => mm_k7_set zc zs (by have zz := mm_hdx tg; omega) zP zu (mm_st7_of (mm_em_a zP y38_1) y61_1 y61_2 g61c (by decide)) (g61c.2 65 (by decide))⟩, by first | exact fun q => absurd q (by omega) | exact fun _ p => mm_kJ_set zc zs (by have zz := mm_hdx tg; omega) zP zu (mm_st7_of (mm_em_a zP y38_1) y61_1 y61_2 g61c (by decide)) (g61c.2 65 (by decide))⟩⟩
    · skip
      refine mm_aload_n C (mm_dec dk_X7_readSetting 18 rfl) rfl ?_
      refine mm_iconst C (mm_dec dk_X7_readSetting 19 rfl) ⟨by decide, by decide⟩ ?_
      refine mm_cVi (rest := []) C1 ev_X7_65 (mm_dec dk_X7_readSetting 20 rfl) (c_X7_refuse_q x.2.1 hl (d - 1) (by omega) h i0 3) rfl rfl (Nat.le_of_ble_eq_true rfl) ⟨by decide, by decide⟩ rfl (fun r33 h33c hp33 => ?_) (fun _ _ q => q.elim)
      obtain ⟨b33, i33c, g33c, y33_0, y33_1⟩ := hp33
      have f33c : mm_fr [(63, 5), (63, 6), (63, 7), (63, 8), (63, 9), (63, 10)] [65] h h33c := mm_fr_tr f0 g33c (by decide +kernel)
      have q33c_48 : h33c.1 63 3 = h.1 63 3 := g33c.1 63 3 (by decide)
      have q33c_49 : h33c.1 63 5 = h.1 63 5 := g33c.1 63 5 (by decide)
      have q33c_50 : h33c.1 63 6 = h.1 63 6 := g33c.1 63 6 (by decide)
      have q33c_51 : h33c.1 63 7 = h.1 63 7 := g33c.1 63 7 (by decide)
      have q33c_52 : h33c.1 63 8 = h.1 63 8 := g33c.1 63 8 (by decide)
      have g53 : -2147483648 ≤ (h33c.1 63 9) ∧ (h33c.1 63 9) ≤ 2147483647 := i33c.1 63 9
      have g54 : -2147483648 ≤ (h33c.1 63 10) ∧ (h33c.1 63 10) ≤ 2147483647 := i33c.1 63 10
      exact mm_zret C T (mm_dec dk_X7_readSetting 21 rfl) (by decide : 0 ≤ 0) (by decide : 0 ≤ 0) (by omega) ⟨_, rfl, ⟨⟨by omega, by omega⟩, i33c, f33c, by first | exact Or.inr ⟨by omega, fun p => mm_L7_set1 (Or.inl ⟨by have zz := mm_hdx tf; omega, y10_0⟩) y10_1⟩ | exact Or.inr ⟨by omega, fun p => mm_L7_set1 (Or.inr ⟨by have zz := mm_hdx tf; omega, by have zz := mm_hdx tf; omega, y33_0⟩) y33_1⟩ | (have z := mm_or0 y42_0 (by omega); exact Or.inr ⟨rfl, fun p => mm_L7_set2 zc zs (by have zz := mm_hdx tg; have z1 := z.1; omega) z.2⟩) | exact Or.inl ⟨rfl, fun p => mm_k7_set zc zs (by have zz := mm_hdx tg; omega) zP zu (mm_st7_of (mm_em_a zP y38_1) y61_1 y61_2 g61c (by decide)) (g61c.2 65 (by decide))⟩, by first | exact fun q => absurd q (by omega) | exact fun _ p => mm_kJ_set zc zs (by have zz := mm_hdx tg; omega) zP zu (mm_st7_of (mm_em_a zP y38_1) y61_1 y61_2 g61c (by decide)) (g61c.2 65 (by decide))⟩⟩
  · skip
    refine mm_aload_n C (mm_dec dk_X7_readSetting 4 rfl) rfl ?_
    refine mm_iconst C (mm_dec dk_X7_readSetting 5 rfl) ⟨by decide, by decide⟩ ?_
    refine mm_cVi (rest := []) C1 ev_X7_65 (mm_dec dk_X7_readSetting 6 rfl) (c_X7_refuse_q x.2.1 hl (d - 1) (by omega) h i0 1) rfl rfl (Nat.le_of_ble_eq_true rfl) ⟨by decide, by decide⟩ rfl (fun r10 h10c hp10 => ?_) (fun _ _ q => q.elim)
    obtain ⟨b10, i10c, g10c, y10_0, y10_1⟩ := hp10
    have f10c : mm_fr [(63, 5), (63, 6), (63, 7), (63, 8), (63, 9), (63, 10)] [65] h h10c := mm_fr_tr f0 g10c (by decide +kernel)
    have q10c_56 : h10c.1 63 3 = h.1 63 3 := g10c.1 63 3 (by decide)
    have q10c_57 : h10c.1 63 5 = h.1 63 5 := g10c.1 63 5 (by decide)
    have q10c_58 : h10c.1 63 6 = h.1 63 6 := g10c.1 63 6 (by decide)
    have q10c_59 : h10c.1 63 7 = h.1 63 7 := g10c.1 63 7 (by decide)
    have q10c_60 : h10c.1 63 8 = h.1 63 8 := g10c.1 63 8 (by decide)
    have g61 : -2147483648 ≤ (h10c.1 63 9) ∧ (h10c.1 63 9) ≤ 2147483647 := i10c.1 63 9
    have g62 : -2147483648 ≤ (h10c.1 63 10) ∧ (h10c.1 63 10) ≤ 2147483647 := i10c.1 63 10
    exact mm_zret C T (mm_dec dk_X7_readSetting 7 rfl) (by decide : 0 ≤ 0) (by decide : 0 ≤ 0) (by omega) ⟨_, rfl, ⟨⟨by omega, by omega⟩, i10c, f10c, by first | exact Or.inr ⟨by omega, fun p => mm_L7_set1 (Or.inl ⟨by have zz := mm_hdx tf; omega, y10_0⟩) y10_1⟩ | exact Or.inr ⟨by omega, fun p => mm_L7_set1 (Or.inr ⟨by have zz := mm_hdx tf; omega, by have zz := mm_hdx tf; omega, y33_0⟩) y33_1⟩ | (have z := mm_or0 y42_0 (by omega); exact Or.inr ⟨rfl, fun p => mm_L7_set2 zc zs (by have zz := mm_hdx tg; have z1 := z.1; omega) z.2⟩) | exact Or.inl ⟨rfl, fun p => mm_k7_set zc zs (by have zz := mm_hdx tg; omega) zP zu (mm_st7_of (mm_em_a zP y38_1) y61_1 y61_2 g61c (by decide)) (g61c.2 65 (by decide))⟩, by first | exact fun q => absurd q (by omega) | exact fun _ p => mm_kJ_set zc zs (by have zz := mm_hdx tg; omega) zP zu (mm_st7_of (mm_em_a zP y38_1) y61_1 y61_2 g61c (by decide)) (g61c.2 65 (by decide))⟩⟩
set_option maxRecDepth 100000 in
set_option maxHeartbeats 4000000 in
theorem c_X7_readClause_q (l : Launch) (hl : l.stackTraces = false) (d : Nat) (hd : 48 ≤ d) (h : mH) (i0 : mm_inv h) (p1 : Int) (bp1 : 0 ≤ p1 ∧ p1 ≤ 20) (t0 : mm_aX h) (t1 : h.1 63 5 ≠ 0) : mm_Met l d yX7_readClause cX7_readClause 3 (some .boolean) [mR 63, mI p1] h (mm_pi fun r h2 => (0 ≤ r ∧ r ≤ 1) ∧ mm_inv h2 ∧ mm_fr [(63, 4), (63, 5), (63, 6), (63, 7), (63, 8), (63, 9), (63, 10)] [64, 65] h h2 ∧ ((r = 1 ∧ mm_K7 p1 h h2) ∨ (r = 0 ∧ mm_L7 10 p1 h h2)) ∧ (r = 1 → mm_KJ p1 h h2)) mm_nx 0 0 := by
  refine mm_ofW (ls := [mR 63, mI p1, mU]) hl (by decide) rfl (Nat.le_of_ble_eq_true rfl) ?_
  intro x hxl C T hnm htb
  subst hxl
  have C1 := mm_OK_le (d' := d - 1 + 1) (by omega) C
  have C8 := mm_OK_le (d' := d - 8 + 8) (by omega) C
  refine mm_rng (fun hr _ => ?_)
  have ap1 : -2147483648 ≤ p1 ∧ p1 < 2147483648 := mm_ok_at hr (i := 1) rfl
  have f0 : mm_fr [(63, 4), (63, 5), (63, 6), (63, 7), (63, 8), (63, 9), (63, 10)] [64, 65] h h := mm_fr_rf
  have g1 : -2147483648 ≤ h.1 63 5 ∧ h.1 63 5 ≤ 2147483647 := i0.1 63 5
  have g2 : 0 ≤ h.1 63 7 ∧ h.1 63 7 ≤ 500 := i0.1 63 7
  have g3 : 0 ≤ h.1 63 8 ∧ h.1 63 8 ≤ 500 := i0.1 63 8
  have g4 : 0 ≤ h.1 63 3 ∧ h.1 63 3 ≤ 500 := i0.1 63 3
  have g5 : -2147483648 ≤ h.1 63 6 ∧ h.1 63 6 ≤ 2147483647 := i0.1 63 6
  have g6 : -2147483648 ≤ h.1 63 9 ∧ h.1 63 9 ≤ 2147483647 := i0.1 63 9
  have g7 : -2147483648 ≤ h.1 63 10 ∧ h.1 63 10 ≤ 2147483647 := i0.1 63 10
  have tf := mm_cX_h i0 t0
  have tr := mm_cX_r i0 t0
  refine mm_aload_n C (mm_dec dk_X7_readClause 0 rfl) rfl ?_
  refine mm_geti C fl_X7_28 (mm_dec dk_X7_readClause 1 rfl) rfl rfl (Or.inl rfl) ?_
  refine mm_istore_nL (ls2 := [mR 63, mI p1, mI (h.1 63 6)]) C (mm_dec dk_X7_readClause 2 rfl) (by decide) rfl ?_
  refine mm_iload_n C (mm_dec dk_X7_readClause 3 rfl) rfl ?_
  have J25 : ∀ (w25_0 : mm_cX h = h.1 63 6) (w25_1 : 0 ≤ h.1 63 6) (w25_2 : h.1 63 6 ≤ 2), mm_W x 0 0 25 [mR 63, mI p1, mI (h.1 63 6)] [] h := by
    intro w25_0 w25_1 w25_2
    have g8 : -2147483648 ≤ h.1 63 5 ∧ h.1 63 5 ≤ 2147483647 := i0.1 63 5
    have g9 : 0 ≤ h.1 63 7 ∧ h.1 63 7 ≤ 500 := i0.1 63 7
    have g10 : 0 ≤ h.1 63 8 ∧ h.1 63 8 ≤ 500 := i0.1 63 8
    have g11 : 0 ≤ h.1 63 3 ∧ h.1 63 3 ≤ 500 := i0.1 63 3
    have g12 : -2147483648 ≤ h.1 63 6 ∧ h.1 63 6 ≤ 2147483647 := i0.1 63 6
    have g13 : -2147483648 ≤ h.1 63 9 ∧ h.1 63 9 ≤ 2147483647 := i0.1 63 9
    have g14 : -2147483648 ≤ h.1 63 10 ∧ h.1 63 10 ≤ 2147483647 := i0.1 63 10
    refine mm_iload_n C (mm_dec dk_X7_readClause 15 rfl) rfl ?_
    refine mm_bipush C (mm_dec dk_X7_readClause 16 rfl) ⟨by decide, by decide⟩ ?_
    refine mm_icmp_lt (tgt := 37) C (mm_dec dk_X7_readClause 17 rfl) (by decide) (fun c28 => ?_) (fun c28 => ?_)
    · skip
      refine mm_aload_n C (mm_dec dk_X7_readClause 22 rfl) rfl ?_
      refine mm_cVv (rest := []) C1 ev_X7_52 (mm_dec dk_X7_readClause 23 rfl) (c_X7_step_q x.2.1 hl (d - 1) (by omega) h i0 ) rfl rfl (Nat.le_of_ble_eq_true rfl) ⟨by decide, by decide⟩ rfl (fun h38c hp38 => ?_) (fun _ _ q => q.elim)
      obtain ⟨i38c, g38c, y38_0, y38_1, y38_2⟩ := hp38
      have f38c : mm_fr [(63, 4), (63, 5), (63, 6), (63, 7), (63, 8), (63, 9), (63, 10)] [64, 65] h h38c := mm_fr_tr f0 g38c (by decide +kernel)
      have q38c_16 : h38c.1 63 3 = h.1 63 3 := g38c.1 63 3 (by decide)
      have q38c_17 : h38c.1 63 9 = h.1 63 9 := g38c.1 63 9 (by decide)
      have q38c_18 : h38c.1 63 10 = h.1 63 10 := g38c.1 63 10 (by decide)
      have g19 : -2147483648 ≤ (h38c.1 63 5) ∧ (h38c.1 63 5) ≤ 2147483647 := i38c.1 63 5
      have g20 : 0 ≤ (h38c.1 63 7) ∧ (h38c.1 63 7) ≤ 500 := i38c.1 63 7
      have g21 : 0 ≤ (h38c.1 63 8) ∧ (h38c.1 63 8) ≤ 500 := i38c.1 63 8
      have g22 : -2147483648 ≤ (h38c.1 63 6) ∧ (h38c.1 63 6) ≤ 2147483647 := i38c.1 63 6
      have zs := mm_st7_of t0 y38_1 y38_2 g38c (by decide)
      have z65 : ∀ j, h38c.2.1 65 j = h.2.1 65 j := g38c.2 65 (by decide)
      refine mm_iload_n C (mm_dec dk_X7_readClause 24 rfl) rfl ?_
      refine mm_iconst C (mm_dec dk_X7_readClause 25 rfl) ⟨by decide, by decide⟩ ?_
      refine mm_icmp_ne (tgt := 68) C (mm_dec dk_X7_readClause 26 rfl) (by decide) (fun c43 => ?_) (fun c43 => ?_)
      · skip
        refine mm_aload_n C (mm_dec dk_X7_readClause 38 rfl) rfl ?_
        refine mm_iconst C (mm_dec dk_X7_readClause 39 rfl) ⟨by decide, by decide⟩ ?_
        refine mm_cVi (rest := []) C1 ev_X7_75 (mm_dec dk_X7_readClause 40 rfl) (c_X7_readOr_q0 x.2.1 hl (d - 1) (by omega) h38c i38c 0 ⟨by omega, by omega⟩ (by exact y38_1)) rfl rfl (Nat.le_of_ble_eq_true rfl) ⟨by decide, by decide⟩ rfl (fun r70 h70c hp70 => ?_) (fun _ _ q => q.elim)
        obtain ⟨b70, i70c, g70c, y70_0, y70_1⟩ := hp70
        have f70c : mm_fr [(63, 4), (63, 5), (63, 6), (63, 7), (63, 8), (63, 9), (63, 10)] [64, 65] h h70c := mm_fr_tr f38c g70c (by decide +kernel)
        have q70c_24 : h70c.1 63 3 = h38c.1 63 3 := g70c.1 63 3 (by decide)
        have g25 : -2147483648 ≤ (h70c.1 63 5) ∧ (h70c.1 63 5) ≤ 2147483647 := i70c.1 63 5
        have g26 : 0 ≤ (h70c.1 63 7) ∧ (h70c.1 63 7) ≤ 500 := i70c.1 63 7
        have g27 : 0 ≤ (h70c.1 63 8) ∧ (h70c.1 63 8) ≤ 500 := i70c.1 63 8
        have g28 : -2147483648 ≤ (h70c.1 63 6) ∧ (h70c.1 63 6) ≤ 2147483647 := i70c.1 63 6
        have g29 : -2147483648 ≤ (h70c.1 63 9) ∧ (h70c.1 63 9) ≤ 2147483647 := i70c.1 63 9
        have g30 : -2147483648 ≤ (h70c.1 63 10) ∧ (h70c.1 63 10) ≤ 2147483647 := i70c.1 63 10
        refine mm_if_ne (tgt := 78) C (mm_dec dk_X7_readClause 41 rfl) (by decide) (fun c73 => ?_) (fun c73 => ?_)
        · skip
          have zq := mm_or1 y70_0 (by omega)
          have zm := mm_m7_1 (p := p1) (by omega) (by omega) zs z65 zq.1 zq.2 (g70c.2 65 (by decide))
          have tg := mm_cX_h i70c zm.1.2.1
          have zmJ := mm_mJ_1 (p := p1) (by omega) (by omega) zs (mm_ey_fr g38c (by decide)) z65 zq.1.1.1 (y70_1 (by omega)) zq.2 (g70c.2 65 (by decide))
          refine mm_aload_n C (mm_dec dk_X7_readClause 44 rfl) rfl ?_
          refine mm_geti C fl_X7_28 (mm_dec dk_X7_readClause 45 rfl) rfl rfl (Or.inl rfl) ?_
          refine mm_iconst C (mm_dec dk_X7_readClause 46 rfl) ⟨by decide, by decide⟩ ?_
          have J106 : ∀ (h106_ : mH) (i106_ : mm_inv h106_) (f106_ : mm_fr [(63, 4), (63, 5), (63, 6), (63, 7), (63, 8), (63, 9), (63, 10)] [64, 65] h h106_) (w106_0 : mm_w7 p1 h h106_) (w106_1 : mm_wJ p1 h h106_) (w106_2 : mm_cX h ≠ 2), mm_W x 0 0 106 [mR 63, mU, mI (h.1 63 6)] [] h106_ := by
            intro h106_ i106_ f106_ w106_0 w106_1 w106_2
            have g31 : -2147483648 ≤ h106_.1 63 5 ∧ h106_.1 63 5 ≤ 2147483647 := i106_.1 63 5
            have g32 : 0 ≤ h106_.1 63 7 ∧ h106_.1 63 7 ≤ 500 := i106_.1 63 7
            have g33 : 0 ≤ h106_.1 63 8 ∧ h106_.1 63 8 ≤ 500 := i106_.1 63 8
            have g34 : 0 ≤ h106_.1 63 3 ∧ h106_.1 63 3 ≤ 500 := i106_.1 63 3
            have g35 : -2147483648 ≤ h106_.1 63 6 ∧ h106_.1 63 6 ≤ 2147483647 := i106_.1 63 6
            have g36 : -2147483648 ≤ h106_.1 63 9 ∧ h106_.1 63 9 ≤ 2147483647 := i106_.1 63 9
            have g37 : -2147483648 ≤ h106_.1 63 10 ∧ h106_.1 63 10 ≤ 2147483647 := i106_.1 63 10
            have g38 : h106_.1 63 3 = h.1 63 3 := f106_.1 63 3 (by decide)
            refine mm_aload_n C (mm_dec dk_X7_readClause 59 rfl) rfl ?_
            refine mm_bipush C (mm_dec dk_X7_readClause 60 rfl) ⟨by decide, by decide⟩ ?_
            refine mm_cVi (rest := []) C1 ev_X7_72 (mm_dec dk_X7_readClause 61 rfl) (c_X7_readSign_q x.2.1 hl (d - 1) (by omega) h106_ i106_ 59 ⟨by omega, by omega⟩ (by exact w106_0.1.2.1)) rfl rfl (Nat.le_of_ble_eq_true rfl) ⟨by decide, by decide⟩ rfl (fun r109 h109c hp109 => ?_) (fun _ _ q => q.elim)
            obtain ⟨b109, i109c, g109c, y109_0⟩ := hp109
            have f109c : mm_fr [(63, 4), (63, 5), (63, 6), (63, 7), (63, 8), (63, 9), (63, 10)] [64, 65] h h109c := mm_fr_tr f106_ g109c (by decide +kernel)
            have q109c_40 : h109c.1 63 3 = h106_.1 63 3 := g109c.1 63 3 (by decide)
            have g41 : -2147483648 ≤ (h109c.1 63 5) ∧ (h109c.1 63 5) ≤ 2147483647 := i109c.1 63 5
            have g42 : 0 ≤ (h109c.1 63 7) ∧ (h109c.1 63 7) ≤ 500 := i109c.1 63 7
            have g43 : 0 ≤ (h109c.1 63 8) ∧ (h109c.1 63 8) ≤ 500 := i109c.1 63 8
            have g44 : -2147483648 ≤ (h109c.1 63 6) ∧ (h109c.1 63 6) ≤ 2147483647 := i109c.1 63 6
            have g45 : -2147483648 ≤ (h109c.1 63 9) ∧ (h109c.1 63 9) ≤ 2147483647 := i109c.1 63 9
            have g46 : -2147483648 ≤ (h109c.1 63 10) ∧ (h109c.1 63 10) ≤ 2147483647 := i109c.1 63 10
            refine mm_if_ne (tgt := 117) C (mm_dec dk_X7_readClause 62 rfl) (by decide) (fun c112 => ?_) (fun c112 => ?_)
            · skip
              refine mm_aload_n C (mm_dec dk_X7_readClause 65 rfl) rfl ?_
              refine mm_iload_n C (mm_dec dk_X7_readClause 66 rfl) rfl ?_
              have J129 : ∀ (s129_1 : Int) (bs129_1 : 100020 ≤ s129_1 ∧ s129_1 ≤ 100021) (w129_0 : s129_1 = 100020 + mm_cX h), mm_W x 0 0 129 [mU, mU, mU] [mI s129_1, mR 63] h109c := by
                intro s129_1 bs129_1 w129_0
                refine mm_cVv (rest := []) C1 ev_X7_79 (mm_dec dk_X7_readClause 71 rfl) (c_X7_emit_q x.2.1 hl (d - 1) (by omega) h109c i109c s129_1) rfl rfl (Nat.le_of_ble_eq_true rfl) ⟨by decide, by decide⟩ rfl (fun h129c hp129 => ?_) (fun _ _ q => q.elim)
                obtain ⟨i129c, g129c, y129_0⟩ := hp129
                have f129c : mm_fr [(63, 4), (63, 5), (63, 6), (63, 7), (63, 8), (63, 9), (63, 10)] [64, 65] h h129c := mm_fr_tr f109c g129c (by decide +kernel)
                have q129c_48 : h129c.1 63 3 = h109c.1 63 3 := g129c.1 63 3 (by decide)
                have q129c_49 : h129c.1 63 5 = h109c.1 63 5 := g129c.1 63 5 (by decide)
                have q129c_50 : h129c.1 63 6 = h109c.1 63 6 := g129c.1 63 6 (by decide)
                have q129c_51 : h129c.1 63 7 = h109c.1 63 7 := g129c.1 63 7 (by decide)
                have q129c_52 : h129c.1 63 8 = h109c.1 63 8 := g129c.1 63 8 (by decide)
                have q129c_53 : h129c.1 63 9 = h109c.1 63 9 := g129c.1 63 9 (by decide)
                have q129c_54 : h129c.1 63 10 = h109c.1 63 10 := g129c.1 63 10 (by decide)
                refine mm_iconst C (mm_dec dk_X7_readClause 72 rfl) ⟨by decide, by decide⟩ ?_
                exact mm_zret C T (mm_dec dk_X7_readClause 73 rfl) (by decide : 0 ≤ 0) (by decide : 0 ≤ 0) (by omega) ⟨_, rfl, ⟨⟨by omega, by omega⟩, i129c, f129c, by first | exact w67_0 | exact Or.inr ⟨by omega, mm_L7_open (by have zz := mm_hdx tf; omega) (Or.inl ⟨by have zz := mm_hdx tf; omega, y21_0⟩) y21_1⟩ | exact Or.inr ⟨by omega, mm_L7_open (by omega) (Or.inr ⟨by omega, by omega, y33_0⟩) y33_1⟩ | exact Or.inr ⟨rfl, mm_L7_1 (by omega) (by omega) zs z65 (mm_or0 y70_0 (by omega))⟩ | exact Or.inr ⟨rfl, mm_L7_2 zm z3 zs2 (mm_or0 y92_0 (by omega))⟩ | (have z := mm_or0 y109_0 (by omega); exact Or.inr ⟨rfl, mm_L7_w w106_0 (by have := z.1; omega) z.2.1 z.2.2⟩) | (have z := mm_or1 y109_0 (by omega); exact Or.inl ⟨rfl, mm_K7_w w106_0 (by omega) (by have := z.1; omega) z.2 (g109c.2 65 (by decide)) (mm_em_fr g129c (by decide)) (g129c.2 65 (by decide))⟩), by first | exact fun q => absurd q (by omega) | exact w67_1 | (have z := mm_or1 y109_0 (by omega); exact fun _ => mm_KJ_w w106_1 w106_0.1.1 w106_2 (by have := z.1; omega) z.2 (mm_ey_fr g109c (by decide)) (g109c.2 65 (by decide)) y129_0 (by omega) (g129c.2 65 (by decide)) (show 0 ≤ h109c.1 63 7 ∧ h109c.1 63 7 ≤ 500 from i109c.1 63 7).2)⟩⟩
              refine mm_if_ne (tgt := 127) C (mm_dec dk_X7_readClause 67 rfl) (by decide) (fun c119 => ?_) (fun c119 => ?_)
              · skip
                refine mm_ldc (z := 100021) C (mm_dec dk_X7_readClause 70 rfl) kc_X7_84 (by decide) ?_
                refine mm_fgt 0 ?_
                refine mm_fgt 2 ?_
                exact J129 100021 ⟨by omega, by omega⟩ (by omega)
              · skip
                refine mm_ldc (z := 100020) C (mm_dec dk_X7_readClause 68 rfl) kc_X7_83 (by decide) ?_
                refine mm_goto (tgt := 129) C (mm_dec dk_X7_readClause 69 rfl) (by decide) ?_
                refine mm_fgt 0 ?_
                refine mm_fgt 2 ?_
                exact J129 100020 ⟨by omega, by omega⟩ (by omega)
            · skip
              refine mm_iconst C (mm_dec dk_X7_readClause 63 rfl) ⟨by decide, by decide⟩ ?_
              exact mm_zret C T (mm_dec dk_X7_readClause 64 rfl) (by decide : 0 ≤ 0) (by decide : 0 ≤ 0) (by omega) ⟨_, rfl, ⟨⟨by omega, by omega⟩, i109c, f109c, by first | exact w67_0 | exact Or.inr ⟨by omega, mm_L7_open (by have zz := mm_hdx tf; omega) (Or.inl ⟨by have zz := mm_hdx tf; omega, y21_0⟩) y21_1⟩ | exact Or.inr ⟨by omega, mm_L7_open (by omega) (Or.inr ⟨by omega, by omega, y33_0⟩) y33_1⟩ | exact Or.inr ⟨rfl, mm_L7_1 (by omega) (by omega) zs z65 (mm_or0 y70_0 (by omega))⟩ | exact Or.inr ⟨rfl, mm_L7_2 zm z3 zs2 (mm_or0 y92_0 (by omega))⟩ | (have z := mm_or0 y109_0 (by omega); exact Or.inr ⟨rfl, mm_L7_w w106_0 (by have := z.1; omega) z.2.1 z.2.2⟩) | (have z := mm_or1 y109_0 (by omega); exact Or.inl ⟨rfl, mm_K7_w w106_0 (by omega) (by have := z.1; omega) z.2 (g109c.2 65 (by decide)) (mm_em_fr g129c (by decide)) (g129c.2 65 (by decide))⟩), by first | exact fun q => absurd q (by omega) | exact w67_1 | (have z := mm_or1 y109_0 (by omega); exact fun _ => mm_KJ_w w106_1 w106_0.1.1 w106_2 (by have := z.1; omega) z.2 (mm_ey_fr g109c (by decide)) (g109c.2 65 (by decide)) y129_0 (by omega) (g129c.2 65 (by decide)) (show 0 ≤ h109c.1 63 7 ∧ h109c.1 63 7 ≤ 500 from i109c.1 63 7).2)⟩⟩
          refine mm_icmp_ne (tgt := 106) C (mm_dec dk_X7_readClause 47 rfl) (by decide) (fun c83 => ?_) (fun c83 => ?_)
          · skip
            refine mm_fgt 1 ?_
            exact J106 h70c i70c f70c (by first | exact mm_w7_m zm (Or.inr (by have zz := mm_hdx tg; omega)) mm_em_rf (fun _ => rfl) | (have z := mm_or1 y92_0 (by omega); exact mm_w7_m (mm_m7_2 zm z3 zs2 (g87c.2 65 (by decide)) z.1 z.2 (g92c.2 65 (by decide))) (Or.inl rfl) (mm_em_fr g103c (by decide)) (g103c.2 65 (by decide)))) (by first | exact mm_wJ_1 zm.1.1 zmJ (by omega) (by have zz := mm_hdx tg; omega) | (have z := mm_or1 y92_0 (by omega); exact mm_wJ_2 zm.1.1 zmJ zck z3 zs2 (mm_ey_fr g87c (by decide)) (g87c.2 65 (by decide)) z.1.1.1 (y92_1 (by omega)) z.2 (g92c.2 65 (by decide)) y103_0 (g103c.2 65 (by decide)) (show 0 ≤ h92c.1 63 7 ∧ h92c.1 63 7 ≤ 500 from i92c.1 63 7).2)) (by omega)
          · skip
            refine mm_aload_n C (mm_dec dk_X7_readClause 48 rfl) rfl ?_
            refine mm_cVv (rest := []) C1 ev_X7_52 (mm_dec dk_X7_readClause 49 rfl) (c_X7_step_q x.2.1 hl (d - 1) (by omega) h70c i70c ) rfl rfl (Nat.le_of_ble_eq_true rfl) ⟨by decide, by decide⟩ rfl (fun h87c hp87 => ?_) (fun _ _ q => q.elim)
            obtain ⟨i87c, g87c, y87_0, y87_1, y87_2⟩ := hp87
            have f87c : mm_fr [(63, 4), (63, 5), (63, 6), (63, 7), (63, 8), (63, 9), (63, 10)] [64, 65] h h87c := mm_fr_tr f70c g87c (by decide +kernel)
            have q87c_56 : h87c.1 63 3 = h70c.1 63 3 := g87c.1 63 3 (by decide)
            have q87c_57 : h87c.1 63 9 = h70c.1 63 9 := g87c.1 63 9 (by decide)
            have q87c_58 : h87c.1 63 10 = h70c.1 63 10 := g87c.1 63 10 (by decide)
            have g59 : -2147483648 ≤ (h87c.1 63 5) ∧ (h87c.1 63 5) ≤ 2147483647 := i87c.1 63 5
            have g60 : 0 ≤ (h87c.1 63 7) ∧ (h87c.1 63 7) ≤ 500 := i87c.1 63 7
            have g61 : 0 ≤ (h87c.1 63 8) ∧ (h87c.1 63 8) ≤ 500 := i87c.1 63 8
            have g62 : -2147483648 ≤ (h87c.1 63 6) ∧ (h87c.1 63 6) ≤ 2147483647 := i87c.1 63 6
            have zs2 := mm_st7_of zm.1.2.1 y87_1 y87_2 g87c (by decide)
            have z3 : mm_cX h70c = 3 := by have zz := mm_hdx tg; omega
            have zck : mm_cX h = 0 ∨ mm_cX h = 1 := by omega
            refine mm_aload_n C (mm_dec dk_X7_readClause 50 rfl) rfl ?_
            refine mm_iconst C (mm_dec dk_X7_readClause 51 rfl) ⟨by decide, by decide⟩ ?_
            refine mm_cVi (rest := []) C1 ev_X7_75 (mm_dec dk_X7_readClause 52 rfl) (c_X7_readOr_q0 x.2.1 hl (d - 1) (by omega) h87c i87c 0 ⟨by omega, by omega⟩ (by exact y87_1)) rfl rfl (Nat.le_of_ble_eq_true rfl) ⟨by decide, by decide⟩ rfl (fun r92 h92c hp92 => ?_) (fun _ _ q => q.elim)
            obtain ⟨b92, i92c, g92c, y92_0, y92_1⟩ := hp92
            have f92c : mm_fr [(63, 4), (63, 5), (63, 6), (63, 7), (63, 8), (63, 9), (63, 10)] [64, 65] h h92c := mm_fr_tr f87c g92c (by decide +kernel)
            have q92c_64 : h92c.1 63 3 = h87c.1 63 3 := g92c.1 63 3 (by decide)
            have g65 : -2147483648 ≤ (h92c.1 63 5) ∧ (h92c.1 63 5) ≤ 2147483647 := i92c.1 63 5
            have g66 : 0 ≤ (h92c.1 63 7) ∧ (h92c.1 63 7) ≤ 500 := i92c.1 63 7
            have g67 : 0 ≤ (h92c.1 63 8) ∧ (h92c.1 63 8) ≤ 500 := i92c.1 63 8
            have g68 : -2147483648 ≤ (h92c.1 63 6) ∧ (h92c.1 63 6) ≤ 2147483647 := i92c.1 63 6
            have g69 : -2147483648 ≤ (h92c.1 63 9) ∧ (h92c.1 63 9) ≤ 2147483647 := i92c.1 63 9
            have g70 : -2147483648 ≤ (h92c.1 63 10) ∧ (h92c.1 63 10) ≤ 2147483647 := i92c.1 63 10
            refine mm_if_ne (tgt := 100) C (mm_dec dk_X7_readClause 53 rfl) (by decide) (fun c95 => ?_) (fun c95 => ?_)
            · skip
              refine mm_aload_n C (mm_dec dk_X7_readClause 56 rfl) rfl ?_
              refine mm_ldc (z := 100019) C (mm_dec dk_X7_readClause 57 rfl) kc_X7_78 (by decide) ?_
              refine mm_cVv (rest := []) C1 ev_X7_79 (mm_dec dk_X7_readClause 58 rfl) (c_X7_emit_q x.2.1 hl (d - 1) (by omega) h92c i92c 100019) rfl rfl (Nat.le_of_ble_eq_true rfl) ⟨by decide, by decide⟩ rfl (fun h103c hp103 => ?_) (fun _ _ q => q.elim)
              obtain ⟨i103c, g103c, y103_0⟩ := hp103
              have f103c : mm_fr [(63, 4), (63, 5), (63, 6), (63, 7), (63, 8), (63, 9), (63, 10)] [64, 65] h h103c := mm_fr_tr f92c g103c (by decide +kernel)
              have q103c_72 : h103c.1 63 3 = h92c.1 63 3 := g103c.1 63 3 (by decide)
              have q103c_73 : h103c.1 63 5 = h92c.1 63 5 := g103c.1 63 5 (by decide)
              have q103c_74 : h103c.1 63 6 = h92c.1 63 6 := g103c.1 63 6 (by decide)
              have q103c_75 : h103c.1 63 7 = h92c.1 63 7 := g103c.1 63 7 (by decide)
              have q103c_76 : h103c.1 63 8 = h92c.1 63 8 := g103c.1 63 8 (by decide)
              have q103c_77 : h103c.1 63 9 = h92c.1 63 9 := g103c.1 63 9 (by decide)
              have q103c_78 : h103c.1 63 10 = h92c.1 63 10 := g103c.1 63 10 (by decide)
              refine mm_fgt 1 ?_
              exact J106 h103c i103c f103c (by first | exact mm_w7_m zm (Or.inr (by have zz := mm_hdx tg; omega)) mm_em_rf (fun _ => rfl) | (have z := mm_or1 y92_0 (by omega); exact mm_w7_m (mm_m7_2 zm z3 zs2 (g87c.2 65 (by decide)) z.1 z.2 (g92c.2 65 (by decide))) (Or.inl rfl) (mm_em_fr g103c (by decide)) (g103c.2 65 (by decide)))) (by first | exact mm_wJ_1 zm.1.1 zmJ (by omega) (by have zz := mm_hdx tg; omega) | (have z := mm_or1 y92_0 (by omega); exact mm_wJ_2 zm.1.1 zmJ zck z3 zs2 (mm_ey_fr g87c (by decide)) (g87c.2 65 (by decide)) z.1.1.1 (y92_1 (by omega)) z.2 (g92c.2 65 (by decide)) y103_0 (g103c.2 65 (by decide)) (show 0 ≤ h92c.1 63 7 ∧ h92c.1 63 7 ≤ 500 from i92c.1 63 7).2)) (by omega)
            · skip
              refine mm_iconst C (mm_dec dk_X7_readClause 54 rfl) ⟨by decide, by decide⟩ ?_
              exact mm_zret C T (mm_dec dk_X7_readClause 55 rfl) (by decide : 0 ≤ 0) (by decide : 0 ≤ 0) (by omega) ⟨_, rfl, ⟨⟨by omega, by omega⟩, i92c, f92c, by first | exact w67_0 | exact Or.inr ⟨by omega, mm_L7_open (by have zz := mm_hdx tf; omega) (Or.inl ⟨by have zz := mm_hdx tf; omega, y21_0⟩) y21_1⟩ | exact Or.inr ⟨by omega, mm_L7_open (by omega) (Or.inr ⟨by omega, by omega, y33_0⟩) y33_1⟩ | exact Or.inr ⟨rfl, mm_L7_1 (by omega) (by omega) zs z65 (mm_or0 y70_0 (by omega))⟩ | exact Or.inr ⟨rfl, mm_L7_2 zm z3 zs2 (mm_or0 y92_0 (by omega))⟩ | (have z := mm_or0 y109_0 (by omega); exact Or.inr ⟨rfl, mm_L7_w w106_0 (by have := z.1; omega) z.2.1 z.2.2⟩) | (have z := mm_or1 y109_0 (by omega); exact Or.inl ⟨rfl, mm_K7_w w106_0 (by omega) (by have := z.1; omega) z.2 (g109c.2 65 (by decide)) (mm_em_fr g129c (by decide)) (g129c.2 65 (by decide))⟩), by first | exact fun q => absurd q (by omega) | exact w67_1 | (have z := mm_or1 y109_0 (by omega); exact fun _ => mm_KJ_w w106_1 w106_0.1.1 w106_2 (by have := z.1; omega) z.2 (mm_ey_fr g109c (by decide)) (g109c.2 65 (by decide)) y129_0 (by omega) (g129c.2 65 (by decide)) (show 0 ≤ h109c.1 63 7 ∧ h109c.1 63 7 ≤ 500 from i109c.1 63 7).2)⟩⟩
        · skip
          refine mm_iconst C (mm_dec dk_X7_readClause 42 rfl) ⟨by decide, by decide⟩ ?_
          exact mm_zret C T (mm_dec dk_X7_readClause 43 rfl) (by decide : 0 ≤ 0) (by decide : 0 ≤ 0) (by omega) ⟨_, rfl, ⟨⟨by omega, by omega⟩, i70c, f70c, by first | exact w67_0 | exact Or.inr ⟨by omega, mm_L7_open (by have zz := mm_hdx tf; omega) (Or.inl ⟨by have zz := mm_hdx tf; omega, y21_0⟩) y21_1⟩ | exact Or.inr ⟨by omega, mm_L7_open (by omega) (Or.inr ⟨by omega, by omega, y33_0⟩) y33_1⟩ | exact Or.inr ⟨rfl, mm_L7_1 (by omega) (by omega) zs z65 (mm_or0 y70_0 (by omega))⟩ | exact Or.inr ⟨rfl, mm_L7_2 zm z3 zs2 (mm_or0 y92_0 (by omega))⟩ | (have z := mm_or0 y109_0 (by omega); exact Or.inr ⟨rfl, mm_L7_w w106_0 (by have := z.1; omega) z.2.1 z.2.2⟩) | (have z := mm_or1 y109_0 (by omega); exact Or.inl ⟨rfl, mm_K7_w w106_0 (by omega) (by have := z.1; omega) z.2 (g109c.2 65 (by decide)) (mm_em_fr g129c (by decide)) (g129c.2 65 (by decide))⟩), by first | exact fun q => absurd q (by omega) | exact w67_1 | (have z := mm_or1 y109_0 (by omega); exact fun _ => mm_KJ_w w106_1 w106_0.1.1 w106_2 (by have := z.1; omega) z.2 (mm_ey_fr g109c (by decide)) (g109c.2 65 (by decide)) y129_0 (by omega) (g129c.2 65 (by decide)) (show 0 ≤ h109c.1 63 7 ∧ h109c.1 63 7 ≤ 500 from i109c.1 63 7).2)⟩⟩
      · skip
        refine mm_aload_n C (mm_dec dk_X7_readClause 27 rfl) rfl ?_
        refine mm_cVi (rest := []) C1 ev_X7_68 (mm_dec dk_X7_readClause 28 rfl) (c_X7_readSetting_q x.2.1 hl (d - 1) (by omega) h38c i38c (by exact y38_1)) rfl rfl (Nat.le_of_ble_eq_true rfl) ⟨by decide, by decide⟩ rfl (fun r47 h47c hp47 => ?_) (fun _ _ q => q.elim)
        obtain ⟨b47, i47c, g47c, y47_0, y47_1⟩ := hp47
        have f47c : mm_fr [(63, 4), (63, 5), (63, 6), (63, 7), (63, 8), (63, 9), (63, 10)] [64, 65] h h47c := mm_fr_tr f38c g47c (by decide +kernel)
        have q47c_80 : h47c.1 63 3 = h38c.1 63 3 := g47c.1 63 3 (by decide)
        have g81 : -2147483648 ≤ (h47c.1 63 5) ∧ (h47c.1 63 5) ≤ 2147483647 := i47c.1 63 5
        have g82 : 0 ≤ (h47c.1 63 7) ∧ (h47c.1 63 7) ≤ 500 := i47c.1 63 7
        have g83 : 0 ≤ (h47c.1 63 8) ∧ (h47c.1 63 8) ≤ 500 := i47c.1 63 8
        have g84 : -2147483648 ≤ (h47c.1 63 6) ∧ (h47c.1 63 6) ≤ 2147483647 := i47c.1 63 6
        have g85 : -2147483648 ≤ (h47c.1 63 9) ∧ (h47c.1 63 9) ≤ 2147483647 := i47c.1 63 9
        have g86 : -2147483648 ≤ (h47c.1 63 10) ∧ (h47c.1 63 10) ≤ 2147483647 := i47c.1 63 10
        have J67 : ∀ (s67_0 : Int) (bs67_0 : 0 ≤ s67_0 ∧ s67_0 ≤ 1) (h67_ : mH) (i67_ : mm_inv h67_) (f67_ : mm_fr [(63, 4), (63, 5), (63, 6), (63, 7), (63, 8), (63, 9), (63, 10)] [64, 65] h h67_) (w67_0 : ((s67_0 = 1 ∧ mm_K7 p1 h h67_) ∨ (s67_0 = 0 ∧ mm_L7 10 p1 h h67_))) (w67_1 : (s67_0 = 1 → mm_KJ p1 h h67_)), mm_W x 0 0 67 [mU, mU, mU] [mI s67_0] h67_ := by
          intro s67_0 bs67_0 h67_ i67_ f67_ w67_0 w67_1
          have g87 : -2147483648 ≤ h67_.1 63 5 ∧ h67_.1 63 5 ≤ 2147483647 := i67_.1 63 5
          have g88 : 0 ≤ h67_.1 63 7 ∧ h67_.1 63 7 ≤ 500 := i67_.1 63 7
          have g89 : 0 ≤ h67_.1 63 8 ∧ h67_.1 63 8 ≤ 500 := i67_.1 63 8
          have g90 : 0 ≤ h67_.1 63 3 ∧ h67_.1 63 3 ≤ 500 := i67_.1 63 3
          have g91 : -2147483648 ≤ h67_.1 63 6 ∧ h67_.1 63 6 ≤ 2147483647 := i67_.1 63 6
          have g92 : -2147483648 ≤ h67_.1 63 9 ∧ h67_.1 63 9 ≤ 2147483647 := i67_.1 63 9
          have g93 : -2147483648 ≤ h67_.1 63 10 ∧ h67_.1 63 10 ≤ 2147483647 := i67_.1 63 10
          have g94 : h67_.1 63 3 = h.1 63 3 := f67_.1 63 3 (by decide)
          exact mm_zret C T (mm_dec dk_X7_readClause 37 rfl) (by decide : 0 ≤ 0) (by decide : 0 ≤ 0) (by omega) ⟨_, rfl, ⟨⟨by omega, by omega⟩, i67_, f67_, by first | exact w67_0 | exact Or.inr ⟨by omega, mm_L7_open (by have zz := mm_hdx tf; omega) (Or.inl ⟨by have zz := mm_hdx tf; omega, y21_0⟩) y21_1⟩ | exact Or.inr ⟨by omega, mm_L7_open (by omega) (Or.inr ⟨by omega, by omega, y33_0⟩) y33_1⟩ | exact Or.inr ⟨rfl, mm_L7_1 (by omega) (by omega) zs z65 (mm_or0 y70_0 (by omega))⟩ | exact Or.inr ⟨rfl, mm_L7_2 zm z3 zs2 (mm_or0 y92_0 (by omega))⟩ | (have z := mm_or0 y109_0 (by omega); exact Or.inr ⟨rfl, mm_L7_w w106_0 (by have := z.1; omega) z.2.1 z.2.2⟩) | (have z := mm_or1 y109_0 (by omega); exact Or.inl ⟨rfl, mm_K7_w w106_0 (by omega) (by have := z.1; omega) z.2 (g109c.2 65 (by decide)) (mm_em_fr g129c (by decide)) (g129c.2 65 (by decide))⟩), by first | exact fun q => absurd q (by omega) | exact w67_1 | (have z := mm_or1 y109_0 (by omega); exact fun _ => mm_KJ_w w106_1 w106_0.1.1 w106_2 (by have := z.1; omega) z.2 (mm_ey_fr g109c (by decide)) (g109c.2 65 (by decide)) y129_0 (by omega) (g129c.2 65 (by decide)) (show 0 ≤ h109c.1 63 7 ∧ h109c.1 63 7 ≤ 500 from i109c.1 63 7).2)⟩⟩
        have J66 : ∀ (h66_ : mH) (i66_ : mm_inv h66_) (f66_ : mm_fr [(63, 4), (63, 5), (63, 6), (63, 7), (63, 8), (63, 9), (63, 10)] [64, 65] h h66_) (w66_0 : mm_L7 10 p1 h h66_), mm_W x 0 0 66 [mU, mU, mU] [] h66_ := by
          intro h66_ i66_ f66_ w66_0
          have g95 : -2147483648 ≤ h66_.1 63 5 ∧ h66_.1 63 5 ≤ 2147483647 := i66_.1 63 5
          have g96 : 0 ≤ h66_.1 63 7 ∧ h66_.1 63 7 ≤ 500 := i66_.1 63 7
          have g97 : 0 ≤ h66_.1 63 8 ∧ h66_.1 63 8 ≤ 500 := i66_.1 63 8
          have g98 : 0 ≤ h66_.1 63 3 ∧ h66_.1 63 3 ≤ 500 := i66_.1 63 3
          have g99 : -2147483648 ≤ h66_.1 63 6 ∧ h66_.1 63 6 ≤ 2147483647 := i66_.1 63 6
          have g100 : -2147483648 ≤ h66_.1 63 9 ∧ h66_.1 63 9 ≤ 2147483647 := i66_.1 63 9
          have g101 : -2147483648 ≤ h66_.1 63 10 ∧ h66_.1 63 10 ≤ 2147483647 := i66_.1 63 10
          have g102 : h66_.1 63 3 = h.1 63 3 := f66_.1 63 3 (by decide)
          refine mm_iconst C (mm_dec dk_X7_readClause 36 rfl) ⟨by decide, by decide⟩ ?_
          exact J67 0 ⟨by omega, by omega⟩ h66_ i66_ f66_ (by first | exact Or.inr ⟨rfl, w66_0⟩ | (have z := mm_or1 y56_0 (by omega); exact Or.inl ⟨rfl, mm_K7_w zw (by omega) (by have := z.1; omega) z.2 (g56c.2 65 (by decide)) mm_em_rf (fun _ => rfl)⟩)) (by first | exact fun q => absurd q (by decide) | (have z := mm_or1 y56_0 (by omega); exact fun _ => mm_KJ_set zwJ zw.1.1 (by omega) (by have := z.1; omega) z.2 (mm_ey_fr g56c (by decide)) (g56c.2 65 (by decide))))
        refine mm_if_eq (tgt := 66) C (mm_dec dk_X7_readClause 29 rfl) (by decide) (fun c50 => ?_) (fun c50 => ?_)
        · skip
          refine mm_fgt 0 ?_
          refine mm_fgt 1 ?_
          refine mm_fgt 2 ?_
          exact J66 h47c i47c f47c (by first | exact mm_L7_set (by omega) (by omega) zs z65 (mm_or0 y47_0 (by omega) p1) | (have z := mm_or0 y56_0 (by omega); exact mm_L7_w zw (by have := z.1; omega) z.2.1 z.2.2))
        · skip
          have zw := mm_w7_set (p := p1) (by omega) (by omega) zs z65 (mm_or1 y47_0 (by omega) p1)
          have zwJ := mm_wJ_set (p := p1) (by omega) (by omega) zs (mm_ey_fr g38c (by decide)) z65 (y47_1 (by omega) p1) (mm_ey_fr g47c (by decide)) (by have z := (mm_or1 y47_0 (by omega) p1).2.1; omega)
          refine mm_aload_n C (mm_dec dk_X7_readClause 30 rfl) rfl ?_
          refine mm_bipush C (mm_dec dk_X7_readClause 31 rfl) ⟨by decide, by decide⟩ ?_
          refine mm_cVi (rest := []) C1 ev_X7_72 (mm_dec dk_X7_readClause 32 rfl) (c_X7_readSign_q x.2.1 hl (d - 1) (by omega) h47c i47c 59 ⟨by omega, by omega⟩ (by exact zw.1.2.1)) rfl rfl (Nat.le_of_ble_eq_true rfl) ⟨by decide, by decide⟩ rfl (fun r56 h56c hp56 => ?_) (fun _ _ q => q.elim)
          obtain ⟨b56, i56c, g56c, y56_0⟩ := hp56
          have f56c : mm_fr [(63, 4), (63, 5), (63, 6), (63, 7), (63, 8), (63, 9), (63, 10)] [64, 65] h h56c := mm_fr_tr f47c g56c (by decide +kernel)
          have q56c_104 : h56c.1 63 3 = h47c.1 63 3 := g56c.1 63 3 (by decide)
          have g105 : -2147483648 ≤ (h56c.1 63 5) ∧ (h56c.1 63 5) ≤ 2147483647 := i56c.1 63 5
          have g106 : 0 ≤ (h56c.1 63 7) ∧ (h56c.1 63 7) ≤ 500 := i56c.1 63 7
          have g107 : 0 ≤ (h56c.1 63 8) ∧ (h56c.1 63 8) ≤ 500 := i56c.1 63 8
          have g108 : -2147483648 ≤ (h56c.1 63 6) ∧ (h56c.1 63 6) ≤ 2147483647 := i56c.1 63 6
          have g109 : -2147483648 ≤ (h56c.1 63 9) ∧ (h56c.1 63 9) ≤ 2147483647 := i56c.1 63 9
          have g110 : -2147483648 ≤ (h56c.1 63 10) ∧ (h56c.1 63 10) ≤ 2147483647 := i56c.1 63 10
          refine mm_if_eq (tgt := 66) C (mm_dec dk_X7_readClause 33 rfl) (by decide) (fun c59 => ?_) (fun c59 => ?_)
          · skip
            refine mm_fgt 0 ?_
            refine mm_fgt 1 ?_
            refine mm_fgt 2 ?_
            exact J66 h56c i56c f56c (by first | exact mm_L7_set (by omega) (by omega) zs z65 (mm_or0 y47_0 (by omega) p1) | (have z := mm_or0 y56_0 (by omega); exact mm_L7_w zw (by have := z.1; omega) z.2.1 z.2.2))
          · skip
            refine mm_iconst C (mm_dec dk_X7_readClause 34 rfl) ⟨by decide, by decide⟩ ?_
            refine mm_goto (tgt := 67) C (mm_dec dk_X7_readClause 35 rfl) (by decide) ?_
            refine mm_fgt 0 ?_
            refine mm_fgt 1 ?_
            refine mm_fgt 2 ?_
            exact J67 1 ⟨by omega, by omega⟩ h56c i56c f56c (by first | exact Or.inr ⟨rfl, w66_0⟩ | (have z := mm_or1 y56_0 (by omega); exact Or.inl ⟨rfl, mm_K7_w zw (by omega) (by have := z.1; omega) z.2 (g56c.2 65 (by decide)) mm_em_rf (fun _ => rfl)⟩)) (by first | exact fun q => absurd q (by decide) | (have z := mm_or1 y56_0 (by omega); exact fun _ => mm_KJ_set zwJ zw.1.1 (by omega) (by have := z.1; omega) z.2 (mm_ey_fr g56c (by decide)) (g56c.2 65 (by decide))))
    · skip
      refine mm_aload_n C (mm_dec dk_X7_readClause 18 rfl) rfl ?_
      refine mm_iconst C (mm_dec dk_X7_readClause 19 rfl) ⟨by decide, by decide⟩ ?_
      refine mm_cVi (rest := []) C1 ev_X7_65 (mm_dec dk_X7_readClause 20 rfl) (c_X7_refuse_q x.2.1 hl (d - 1) (by omega) h i0 2) rfl rfl (Nat.le_of_ble_eq_true rfl) ⟨by decide, by decide⟩ rfl (fun r33 h33c hp33 => ?_) (fun _ _ q => q.elim)
      obtain ⟨b33, i33c, g33c, y33_0, y33_1⟩ := hp33
      have f33c : mm_fr [(63, 4), (63, 5), (63, 6), (63, 7), (63, 8), (63, 9), (63, 10)] [64, 65] h h33c := mm_fr_tr f0 g33c (by decide +kernel)
      have q33c_112 : h33c.1 63 3 = h.1 63 3 := g33c.1 63 3 (by decide)
      have q33c_113 : h33c.1 63 5 = h.1 63 5 := g33c.1 63 5 (by decide)
      have q33c_114 : h33c.1 63 6 = h.1 63 6 := g33c.1 63 6 (by decide)
      have q33c_115 : h33c.1 63 7 = h.1 63 7 := g33c.1 63 7 (by decide)
      have q33c_116 : h33c.1 63 8 = h.1 63 8 := g33c.1 63 8 (by decide)
      have g117 : -2147483648 ≤ (h33c.1 63 9) ∧ (h33c.1 63 9) ≤ 2147483647 := i33c.1 63 9
      have g118 : -2147483648 ≤ (h33c.1 63 10) ∧ (h33c.1 63 10) ≤ 2147483647 := i33c.1 63 10
      exact mm_zret C T (mm_dec dk_X7_readClause 21 rfl) (by decide : 0 ≤ 0) (by decide : 0 ≤ 0) (by omega) ⟨_, rfl, ⟨⟨by omega, by omega⟩, i33c, f33c, by first | exact w67_0 | exact Or.inr ⟨by omega, mm_L7_open (by have zz := mm_hdx tf; omega) (Or.inl ⟨by have zz := mm_hdx tf; omega, y21_0⟩) y21_1⟩ | exact Or.inr ⟨by omega, mm_L7_open (by omega) (Or.inr ⟨by omega, by omega, y33_0⟩) y33_1⟩ | exact Or.inr ⟨rfl, mm_L7_1 (by omega) (by omega) zs z65 (mm_or0 y70_0 (by omega))⟩ | exact Or.inr ⟨rfl, mm_L7_2 zm z3 zs2 (mm_or0 y92_0 (by omega))⟩ | (have z := mm_or0 y109_0 (by omega); exact Or.inr ⟨rfl, mm_L7_w w106_0 (by have := z.1; omega) z.2.1 z.2.2⟩) | (have z := mm_or1 y109_0 (by omega); exact Or.inl ⟨rfl, mm_K7_w w106_0 (by omega) (by have := z.1; omega) z.2 (g109c.2 65 (by decide)) (mm_em_fr g129c (by decide)) (g129c.2 65 (by decide))⟩), by first | exact fun q => absurd q (by omega) | exact w67_1 | (have z := mm_or1 y109_0 (by omega); exact fun _ => mm_KJ_w w106_1 w106_0.1.1 w106_2 (by have := z.1; omega) z.2 (mm_ey_fr g109c (by decide)) (g109c.2 65 (by decide)) y129_0 (by omega) (g129c.2 65 (by decide)) (show 0 ≤ h109c.1 63 7 ∧ h109c.1 63 7 ≤ 500 from i109c.1 63 7).2)⟩⟩
  refine mm_if_eq (tgt := 25) C (mm_dec dk_X7_readClause 4 rfl) (by decide) (fun c6 => ?_) (fun c6 => ?_)
  · skip
    exact J25 (by have zz := mm_hdx tf; omega) (by have zz := mm_hdx tf; omega) (by have zz := mm_hdx tf; omega)
  · skip
    refine mm_iload_n C (mm_dec dk_X7_readClause 5 rfl) rfl ?_
    refine mm_iconst C (mm_dec dk_X7_readClause 6 rfl) ⟨by decide, by decide⟩ ?_
    refine mm_icmp_eq (tgt := 25) C (mm_dec dk_X7_readClause 7 rfl) (by decide) (fun c11 => ?_) (fun c11 => ?_)
    · skip
      exact J25 (by have zz := mm_hdx tf; omega) (by have zz := mm_hdx tf; omega) (by have zz := mm_hdx tf; omega)
    · skip
      refine mm_iload_n C (mm_dec dk_X7_readClause 8 rfl) rfl ?_
      refine mm_iconst C (mm_dec dk_X7_readClause 9 rfl) ⟨by decide, by decide⟩ ?_
      refine mm_icmp_eq (tgt := 25) C (mm_dec dk_X7_readClause 10 rfl) (by decide) (fun c16 => ?_) (fun c16 => ?_)
      · skip
        exact J25 (by have zz := mm_hdx tf; omega) (by have zz := mm_hdx tf; omega) (by have zz := mm_hdx tf; omega)
      · skip
        refine mm_aload_n C (mm_dec dk_X7_readClause 11 rfl) rfl ?_
        refine mm_iconst C (mm_dec dk_X7_readClause 12 rfl) ⟨by decide, by decide⟩ ?_
        refine mm_cVi (rest := []) C1 ev_X7_65 (mm_dec dk_X7_readClause 13 rfl) (c_X7_refuse_q x.2.1 hl (d - 1) (by omega) h i0 1) rfl rfl (Nat.le_of_ble_eq_true rfl) ⟨by decide, by decide⟩ rfl (fun r21 h21c hp21 => ?_) (fun _ _ q => q.elim)
        obtain ⟨b21, i21c, g21c, y21_0, y21_1⟩ := hp21
        have f21c : mm_fr [(63, 4), (63, 5), (63, 6), (63, 7), (63, 8), (63, 9), (63, 10)] [64, 65] h h21c := mm_fr_tr f0 g21c (by decide +kernel)
        have q21c_120 : h21c.1 63 3 = h.1 63 3 := g21c.1 63 3 (by decide)
        have q21c_121 : h21c.1 63 5 = h.1 63 5 := g21c.1 63 5 (by decide)
        have q21c_122 : h21c.1 63 6 = h.1 63 6 := g21c.1 63 6 (by decide)
        have q21c_123 : h21c.1 63 7 = h.1 63 7 := g21c.1 63 7 (by decide)
        have q21c_124 : h21c.1 63 8 = h.1 63 8 := g21c.1 63 8 (by decide)
        have g125 : -2147483648 ≤ (h21c.1 63 9) ∧ (h21c.1 63 9) ≤ 2147483647 := i21c.1 63 9
        have g126 : -2147483648 ≤ (h21c.1 63 10) ∧ (h21c.1 63 10) ≤ 2147483647 := i21c.1 63 10
        exact mm_zret C T (mm_dec dk_X7_readClause 14 rfl) (by decide : 0 ≤ 0) (by decide : 0 ≤ 0) (by omega) ⟨_, rfl, ⟨⟨by omega, by omega⟩, i21c, f21c, by first | exact w67_0 | exact Or.inr ⟨by omega, mm_L7_open (by have zz := mm_hdx tf; omega) (Or.inl ⟨by have zz := mm_hdx tf; omega, y21_0⟩) y21_1⟩ | exact Or.inr ⟨by omega, mm_L7_open (by omega) (Or.inr ⟨by omega, by omega, y33_0⟩) y33_1⟩ | exact Or.inr ⟨rfl, mm_L7_1 (by omega) (by omega) zs z65 (mm_or0 y70_0 (by omega))⟩ | exact Or.inr ⟨rfl, mm_L7_2 zm z3 zs2 (mm_or0 y92_0 (by omega))⟩ | (have z := mm_or0 y109_0 (by omega); exact Or.inr ⟨rfl, mm_L7_w w106_0 (by have := z.1; omega) z.2.1 z.2.2⟩) | (have z := mm_or1 y109_0 (by omega); exact Or.inl ⟨rfl, mm_K7_w w106_0 (by omega) (by have := z.1; omega) z.2 (g109c.2 65 (by decide)) (mm_em_fr g129c (by decide)) (g129c.2 65 (by decide))⟩), by first | exact fun q => absurd q (by omega) | exact w67_1 | (have z := mm_or1 y109_0 (by omega); exact fun _ => mm_KJ_w w106_1 w106_0.1.1 w106_2 (by have := z.1; omega) z.2 (mm_ey_fr g109c (by decide)) (g109c.2 65 (by decide)) y129_0 (by omega) (g129c.2 65 (by decide)) (show 0 ≤ h109c.1 63 7 ∧ h109c.1 63 7 ≤ 500 from i109c.1 63 7).2)⟩⟩
set_option maxRecDepth 100000 in
set_option maxHeartbeats 4000000 in
theorem c_X7_read_q (l : Launch) (hl : l.stackTraces = false) (d : Nat) (hd : 49 ≤ d) (h : mH) (i0 : mm_inv h) (p1 : Int) (bp1 : 0 ≤ p1 ∧ p1 ≤ 500) : mm_Met l d yX7_read cX7_read 3 (some .int) [mR 63, mI p1] h (mm_pi fun r h2 => (-2147483648 ≤ r ∧ r ≤ 2147483647) ∧ mm_inv h2 ∧ mm_fr [(63, 3), (63, 4), (63, 5), (63, 6), (63, 7), (63, 8), (63, 9), (63, 10)] [64, 65] h h2 ∧ r = h2.1 63 9 ∧ ((h2.1 63 9 = 0 ∧ h2.1 63 10 = -1 ∧ mm_RDo (h.2.1 62) p1 (mm_PX h2)) ∨ (1 ≤ h2.1 63 9 ∧ mm_RDf (h.2.1 62) p1 (h2.1 63 10) (h2.1 63 9))) ∧ (h2.1 63 9 = 0 → ∃ L, mm_cdj (h2.1 63 4) (h2.2.1 64) L ∧ mm_RDj (h.2.1 62) p1 (mm_bs9 L ([], [])))) mm_nx 0 0 := by
  refine mm_ofW (ls := [mR 63, mI p1, mU]) hl (by decide) rfl (Nat.le_of_ble_eq_true rfl) ?_
  intro x hxl C T hnm htb
  subst hxl
  have C1 := mm_OK_le (d' := d - 1 + 1) (by omega) C
  have C8 := mm_OK_le (d' := d - 8 + 8) (by omega) C
  refine mm_rng (fun hr _ => ?_)
  have ap1 : -2147483648 ≤ p1 ∧ p1 < 2147483648 := mm_ok_at hr (i := 1) rfl
  have f0 : mm_fr [(63, 3), (63, 4), (63, 5), (63, 6), (63, 7), (63, 8), (63, 9), (63, 10)] [64, 65] h h := mm_fr_rf
  have g1 : -2147483648 ≤ h.1 63 5 ∧ h.1 63 5 ≤ 2147483647 := i0.1 63 5
  have g2 : 0 ≤ h.1 63 7 ∧ h.1 63 7 ≤ 500 := i0.1 63 7
  have g3 : 0 ≤ h.1 63 8 ∧ h.1 63 8 ≤ 500 := i0.1 63 8
  have g4 : 0 ≤ h.1 63 3 ∧ h.1 63 3 ≤ 500 := i0.1 63 3
  have g5 : -2147483648 ≤ h.1 63 6 ∧ h.1 63 6 ≤ 2147483647 := i0.1 63 6
  have g6 : -2147483648 ≤ h.1 63 9 ∧ h.1 63 9 ≤ 2147483647 := i0.1 63 9
  have g7 : -2147483648 ≤ h.1 63 10 ∧ h.1 63 10 ≤ 2147483647 := i0.1 63 10
  have g8 : 0 ≤ h.1 63 4 ∧ h.1 63 4 ≤ 500 := i0.1 63 4
  refine mm_aload_n C (mm_dec dk_X7_read 0 rfl) rfl ?_
  refine mm_iload_n C (mm_dec dk_X7_read 1 rfl) rfl ?_
  refine mm_puti C fl_X7_18 (mm_dec dk_X7_read 2 rfl) rfl rfl rfl (Or.inl ⟨rfl, rfl⟩) ?_
  have i1 : mm_inv (mm_pf h 63 3 p1) := mm_inv_pf i0 (show 0 ≤ p1 ∧ p1 ≤ 500 from ⟨by omega, by omega⟩) (by decide)
  have f1 : mm_fr [(63, 3), (63, 4), (63, 5), (63, 6), (63, 7), (63, 8), (63, 9), (63, 10)] [64, 65] h (mm_pf h 63 3 p1) := mm_fr_pf f0 (by decide)
  obtain ⟨h1, eh1⟩ : ∃ z, z = mm_pf h 63 3 p1 := ⟨_, rfl⟩
  rw [← eh1] at i1 f1 ⊢
  have qh1 : h1.1 63 3 = p1 := by rw [eh1]; exact mm_pf_same _ _ _ _
  have qh1_9 : h1.1 63 4 = h.1 63 4 := by rw [eh1]; exact mm_pf_ne _ _ (by decide)
  have qh1_10 : h1.1 63 5 = h.1 63 5 := by rw [eh1]; exact mm_pf_ne _ _ (by decide)
  have qh1_11 : h1.1 63 6 = h.1 63 6 := by rw [eh1]; exact mm_pf_ne _ _ (by decide)
  have qh1_12 : h1.1 63 7 = h.1 63 7 := by rw [eh1]; exact mm_pf_ne _ _ (by decide)
  have qh1_13 : h1.1 63 8 = h.1 63 8 := by rw [eh1]; exact mm_pf_ne _ _ (by decide)
  have qh1_14 : h1.1 63 9 = h.1 63 9 := by rw [eh1]; exact mm_pf_ne _ _ (by decide)
  have qh1_15 : h1.1 63 10 = h.1 63 10 := by rw [eh1]; exact mm_pf_ne _ _ (by decide)
  refine mm_aload_n C (mm_dec dk_X7_read 3 rfl) rfl ?_
  refine mm_iconst C (mm_dec dk_X7_read 4 rfl) ⟨by decide, by decide⟩ ?_
  refine mm_puti C fl_X7_22 (mm_dec dk_X7_read 5 rfl) rfl rfl rfl (Or.inl ⟨rfl, rfl⟩) ?_
  have i2 : mm_inv (mm_pf h1 63 4 0) := mm_inv_pf i1 (show 0 ≤ 0 ∧ 0 ≤ 500 from ⟨by omega, by omega⟩) (by decide)
  have f2 : mm_fr [(63, 3), (63, 4), (63, 5), (63, 6), (63, 7), (63, 8), (63, 9), (63, 10)] [64, 65] h (mm_pf h1 63 4 0) := mm_fr_pf f1 (by decide)
  obtain ⟨h2, eh2⟩ : ∃ z, z = mm_pf h1 63 4 0 := ⟨_, rfl⟩
  rw [← eh2] at i2 f2 ⊢
  have qh2 : h2.1 63 4 = 0 := by rw [eh2]; exact mm_pf_same _ _ _ _
  have qh2_16 : h2.1 63 3 = h1.1 63 3 := by rw [eh2]; exact mm_pf_ne _ _ (by decide)
  have qh2_17 : h2.1 63 5 = h1.1 63 5 := by rw [eh2]; exact mm_pf_ne _ _ (by decide)
  have qh2_18 : h2.1 63 6 = h1.1 63 6 := by rw [eh2]; exact mm_pf_ne _ _ (by decide)
  have qh2_19 : h2.1 63 7 = h1.1 63 7 := by rw [eh2]; exact mm_pf_ne _ _ (by decide)
  have qh2_20 : h2.1 63 8 = h1.1 63 8 := by rw [eh2]; exact mm_pf_ne _ _ (by decide)
  have qh2_21 : h2.1 63 9 = h1.1 63 9 := by rw [eh2]; exact mm_pf_ne _ _ (by decide)
  have qh2_22 : h2.1 63 10 = h1.1 63 10 := by rw [eh2]; exact mm_pf_ne _ _ (by decide)
  refine mm_aload_n C (mm_dec dk_X7_read 6 rfl) rfl ?_
  refine mm_iconst C (mm_dec dk_X7_read 7 rfl) ⟨by decide, by decide⟩ ?_
  refine mm_puti C fl_X7_34 (mm_dec dk_X7_read 8 rfl) rfl rfl rfl (Or.inl ⟨rfl, rfl⟩) ?_
  have i3 : mm_inv (mm_pf h2 63 8 0) := mm_inv_pf i2 (show 0 ≤ 0 ∧ 0 ≤ 500 from ⟨by omega, by omega⟩) (by decide)
  have f3 : mm_fr [(63, 3), (63, 4), (63, 5), (63, 6), (63, 7), (63, 8), (63, 9), (63, 10)] [64, 65] h (mm_pf h2 63 8 0) := mm_fr_pf f2 (by decide)
  obtain ⟨h3, eh3⟩ : ∃ z, z = mm_pf h2 63 8 0 := ⟨_, rfl⟩
  rw [← eh3] at i3 f3 ⊢
  have qh3 : h3.1 63 8 = 0 := by rw [eh3]; exact mm_pf_same _ _ _ _
  have qh3_23 : h3.1 63 3 = h2.1 63 3 := by rw [eh3]; exact mm_pf_ne _ _ (by decide)
  have qh3_24 : h3.1 63 4 = h2.1 63 4 := by rw [eh3]; exact mm_pf_ne _ _ (by decide)
  have qh3_25 : h3.1 63 5 = h2.1 63 5 := by rw [eh3]; exact mm_pf_ne _ _ (by decide)
  have qh3_26 : h3.1 63 6 = h2.1 63 6 := by rw [eh3]; exact mm_pf_ne _ _ (by decide)
  have qh3_27 : h3.1 63 7 = h2.1 63 7 := by rw [eh3]; exact mm_pf_ne _ _ (by decide)
  have qh3_28 : h3.1 63 9 = h2.1 63 9 := by rw [eh3]; exact mm_pf_ne _ _ (by decide)
  have qh3_29 : h3.1 63 10 = h2.1 63 10 := by rw [eh3]; exact mm_pf_ne _ _ (by decide)
  refine mm_aload_n C (mm_dec dk_X7_read 9 rfl) rfl ?_
  refine mm_iconst C (mm_dec dk_X7_read 10 rfl) ⟨by decide, by decide⟩ ?_
  refine mm_puti C fl_X7_37 (mm_dec dk_X7_read 11 rfl) rfl rfl rfl (Or.inl ⟨rfl, rfl⟩) ?_
  have i4 : mm_inv (mm_pf h3 63 9 0) := mm_inv_pf i3 (show -2147483648 ≤ 0 ∧ 0 ≤ 2147483647 from ⟨by omega, by omega⟩) (by decide)
  have f4 : mm_fr [(63, 3), (63, 4), (63, 5), (63, 6), (63, 7), (63, 8), (63, 9), (63, 10)] [64, 65] h (mm_pf h3 63 9 0) := mm_fr_pf f3 (by decide)
  obtain ⟨h4, eh4⟩ : ∃ z, z = mm_pf h3 63 9 0 := ⟨_, rfl⟩
  rw [← eh4] at i4 f4 ⊢
  have qh4 : h4.1 63 9 = 0 := by rw [eh4]; exact mm_pf_same _ _ _ _
  have qh4_30 : h4.1 63 3 = h3.1 63 3 := by rw [eh4]; exact mm_pf_ne _ _ (by decide)
  have qh4_31 : h4.1 63 4 = h3.1 63 4 := by rw [eh4]; exact mm_pf_ne _ _ (by decide)
  have qh4_32 : h4.1 63 5 = h3.1 63 5 := by rw [eh4]; exact mm_pf_ne _ _ (by decide)
  have qh4_33 : h4.1 63 6 = h3.1 63 6 := by rw [eh4]; exact mm_pf_ne _ _ (by decide)
  have qh4_34 : h4.1 63 7 = h3.1 63 7 := by rw [eh4]; exact mm_pf_ne _ _ (by decide)
  have qh4_35 : h4.1 63 8 = h3.1 63 8 := by rw [eh4]; exact mm_pf_ne _ _ (by decide)
  have qh4_36 : h4.1 63 10 = h3.1 63 10 := by rw [eh4]; exact mm_pf_ne _ _ (by decide)
  refine mm_aload_n C (mm_dec dk_X7_read 12 rfl) rfl ?_
  refine mm_iconst C (mm_dec dk_X7_read 13 rfl) ⟨by decide, by decide⟩ ?_
  refine mm_puti C fl_X7_40 (mm_dec dk_X7_read 14 rfl) rfl rfl rfl (Or.inl ⟨rfl, rfl⟩) ?_
  have i5 : mm_inv (mm_pf h4 63 10 (-1)) := mm_inv_pf i4 (show -2147483648 ≤ (-1) ∧ (-1) ≤ 2147483647 from ⟨by omega, by omega⟩) (by decide)
  have f5 : mm_fr [(63, 3), (63, 4), (63, 5), (63, 6), (63, 7), (63, 8), (63, 9), (63, 10)] [64, 65] h (mm_pf h4 63 10 (-1)) := mm_fr_pf f4 (by decide)
  obtain ⟨h5, eh5⟩ : ∃ z, z = mm_pf h4 63 10 (-1) := ⟨_, rfl⟩
  rw [← eh5] at i5 f5 ⊢
  have qh5 : h5.1 63 10 = (-1) := by rw [eh5]; exact mm_pf_same _ _ _ _
  have qh5_37 : h5.1 63 3 = h4.1 63 3 := by rw [eh5]; exact mm_pf_ne _ _ (by decide)
  have qh5_38 : h5.1 63 4 = h4.1 63 4 := by rw [eh5]; exact mm_pf_ne _ _ (by decide)
  have qh5_39 : h5.1 63 5 = h4.1 63 5 := by rw [eh5]; exact mm_pf_ne _ _ (by decide)
  have qh5_40 : h5.1 63 6 = h4.1 63 6 := by rw [eh5]; exact mm_pf_ne _ _ (by decide)
  have qh5_41 : h5.1 63 7 = h4.1 63 7 := by rw [eh5]; exact mm_pf_ne _ _ (by decide)
  have qh5_42 : h5.1 63 8 = h4.1 63 8 := by rw [eh5]; exact mm_pf_ne _ _ (by decide)
  have qh5_43 : h5.1 63 9 = h4.1 63 9 := by rw [eh5]; exact mm_pf_ne _ _ (by decide)
  refine mm_aload_n C (mm_dec dk_X7_read 15 rfl) rfl ?_
  refine mm_getr (t := 65) C fl_X7_15 (mm_dec dk_X7_read 16 rfl) rfl rfl (mm_ref i5 rfl) ?_
  refine mm_cSv (rest := []) C1 es_X7_46 (mm_dec dk_X7_read 17 rfl) (c_X8_setDefaults_65_q x.2.1 hl (d - 1) (by omega) h5 i5 ) rfl (Nat.le_of_ble_eq_true rfl) ⟨by decide, by decide⟩ rfl (fun h29c hp29 => ?_) (fun _ _ q => q.elim)
  obtain ⟨i29c, g29c, y29_0, y29_1, y29_2⟩ := hp29
  have f29c : mm_fr [(63, 3), (63, 4), (63, 5), (63, 6), (63, 7), (63, 8), (63, 9), (63, 10)] [64, 65] h h29c := mm_fr_tr f5 g29c (by decide +kernel)
  have q29c_45 : h29c.1 63 3 = h5.1 63 3 := g29c.1 63 3 (by decide)
  have q29c_46 : h29c.1 63 4 = h5.1 63 4 := g29c.1 63 4 (by decide)
  have q29c_47 : h29c.1 63 5 = h5.1 63 5 := g29c.1 63 5 (by decide)
  have q29c_48 : h29c.1 63 6 = h5.1 63 6 := g29c.1 63 6 (by decide)
  have q29c_49 : h29c.1 63 7 = h5.1 63 7 := g29c.1 63 7 (by decide)
  have q29c_50 : h29c.1 63 8 = h5.1 63 8 := g29c.1 63 8 (by decide)
  have q29c_51 : h29c.1 63 9 = h5.1 63 9 := g29c.1 63 9 (by decide)
  have q29c_52 : h29c.1 63 10 = h5.1 63 10 := g29c.1 63 10 (by decide)
  refine mm_aload_n C (mm_dec dk_X7_read 18 rfl) rfl ?_
  refine mm_cVv (rest := []) C1 ev_X7_52 (mm_dec dk_X7_read 19 rfl) (c_X7_step_q x.2.1 hl (d - 1) (by omega) h29c i29c ) rfl rfl (Nat.le_of_ble_eq_true rfl) ⟨by decide, by decide⟩ rfl (fun h33c hp33 => ?_) (fun _ _ q => q.elim)
  obtain ⟨i33c, g33c, y33_0, y33_1, y33_2⟩ := hp33
  have f33c : mm_fr [(63, 3), (63, 4), (63, 5), (63, 6), (63, 7), (63, 8), (63, 9), (63, 10)] [64, 65] h h33c := mm_fr_tr f29c g33c (by decide +kernel)
  have q33c_54 : h33c.1 63 3 = h29c.1 63 3 := g33c.1 63 3 (by decide)
  have q33c_55 : h33c.1 63 4 = h29c.1 63 4 := g33c.1 63 4 (by decide)
  have q33c_56 : h33c.1 63 9 = h29c.1 63 9 := g33c.1 63 9 (by decide)
  have q33c_57 : h33c.1 63 10 = h29c.1 63 10 := g33c.1 63 10 (by decide)
  have g58 : -2147483648 ≤ (h33c.1 63 5) ∧ (h33c.1 63 5) ≤ 2147483647 := i33c.1 63 5
  have g59 : 0 ≤ (h33c.1 63 7) ∧ (h33c.1 63 7) ≤ 500 := i33c.1 63 7
  have g60 : 0 ≤ (h33c.1 63 8) ∧ (h33c.1 63 8) ≤ 500 := i33c.1 63 8
  have g61 : -2147483648 ≤ (h33c.1 63 6) ∧ (h33c.1 63 6) ≤ 2147483647 := i33c.1 63 6
  have zR : mm_R7 (h.2.1 62) p1 0 h33c := mm_R7_0 y33_1 ⟨fun j => f33c.2 62 (by decide) j, by omega⟩ (by omega) (by omega) (by rw [y33_2]; unfold mm_UX; rw [show h29c.1 63 3 = p1 by omega, show h29c.1 63 8 = 0 by omega, show h29c.2.1 62 = h.2.1 62 from funext (f29c.2 62 (by decide))]) ((g33c.2 65 (by decide) 0).trans y29_0) ((g33c.2 65 (by decide) 1).trans y29_1) ((g33c.2 65 (by decide) 2).trans y29_2)
  have zRJ : mm_RJ (h.2.1 62) p1 0 h33c := mm_RJ_0 (by rw [y33_2]; unfold mm_UX; rw [show h29c.1 63 3 = p1 by omega, show h29c.1 63 8 = 0 by omega, show h29c.2.1 62 = h.2.1 62 from funext (f29c.2 62 (by decide))]) (mm_P0_of ((g33c.2 65 (by decide) 0).trans y29_0) ((g33c.2 65 (by decide) 1).trans y29_1) ((g33c.2 65 (by decide) 2).trans y29_2)) (by omega) (show 0 ≤ h33c.1 63 7 ∧ h33c.1 63 7 ≤ 500 from i33c.1 63 7).1
  refine mm_iconst C (mm_dec dk_X7_read 20 rfl) ⟨by decide, by decide⟩ ?_
  have J38 : ∀ (n : Nat) (x38_2 : Int) (bx38_2 : 0 ≤ x38_2 ∧ x38_2 ≤ 20) (h38_ : mH) (i38_ : mm_inv h38_) (f38_ : mm_fr [(63, 3), (63, 4), (63, 5), (63, 6), (63, 7), (63, 8), (63, 9), (63, 10)] [64, 65] h h38_) (w38_0 : mm_R7 (h.2.1 62) p1 x38_2 h38_) (w38_1 : mm_RJ (h.2.1 62) p1 x38_2 h38_), (20 - x38_2 : Int) < n → mm_W x 0 0 38 [mR 63, mU, mI x38_2] [] h38_ := by
    intro n
    induction n with
    | zero =>
      intro x38_2 bx38_2 h38_ i38_ f38_ w38_0 w38_1 hm
      have g62 : -2147483648 ≤ h38_.1 63 5 ∧ h38_.1 63 5 ≤ 2147483647 := i38_.1 63 5
      have g63 : 0 ≤ h38_.1 63 7 ∧ h38_.1 63 7 ≤ 500 := i38_.1 63 7
      have g64 : 0 ≤ h38_.1 63 8 ∧ h38_.1 63 8 ≤ 500 := i38_.1 63 8
      have g65 : 0 ≤ h38_.1 63 3 ∧ h38_.1 63 3 ≤ 500 := i38_.1 63 3
      have g66 : -2147483648 ≤ h38_.1 63 6 ∧ h38_.1 63 6 ≤ 2147483647 := i38_.1 63 6
      have g67 : -2147483648 ≤ h38_.1 63 9 ∧ h38_.1 63 9 ≤ 2147483647 := i38_.1 63 9
      have g68 : -2147483648 ≤ h38_.1 63 10 ∧ h38_.1 63 10 ≤ 2147483647 := i38_.1 63 10
      have g69 : 0 ≤ h38_.1 63 4 ∧ h38_.1 63 4 ≤ 500 := i38_.1 63 4
      exfalso; omega
    | succ n ih38 =>
      intro x38_2 bx38_2 h38_ i38_ f38_ w38_0 w38_1 hm38
      have g70 : -2147483648 ≤ h38_.1 63 5 ∧ h38_.1 63 5 ≤ 2147483647 := i38_.1 63 5
      have g71 : 0 ≤ h38_.1 63 7 ∧ h38_.1 63 7 ≤ 500 := i38_.1 63 7
      have g72 : 0 ≤ h38_.1 63 8 ∧ h38_.1 63 8 ≤ 500 := i38_.1 63 8
      have g73 : 0 ≤ h38_.1 63 3 ∧ h38_.1 63 3 ≤ 500 := i38_.1 63 3
      have g74 : -2147483648 ≤ h38_.1 63 6 ∧ h38_.1 63 6 ≤ 2147483647 := i38_.1 63 6
      have g75 : -2147483648 ≤ h38_.1 63 9 ∧ h38_.1 63 9 ≤ 2147483647 := i38_.1 63 9
      have g76 : -2147483648 ≤ h38_.1 63 10 ∧ h38_.1 63 10 ≤ 2147483647 := i38_.1 63 10
      have g77 : 0 ≤ h38_.1 63 4 ∧ h38_.1 63 4 ≤ 500 := i38_.1 63 4
      have tf38 := mm_cX_h i38_ w38_0.1
      refine mm_iload_n C (mm_dec dk_X7_read 22 rfl) rfl ?_
      refine mm_bipush C (mm_dec dk_X7_read 23 rfl) ⟨by decide, by decide⟩ ?_
      have J68 : ∀ (h68_ : mH) (i68_ : mm_inv h68_) (f68_ : mm_fr [(63, 3), (63, 4), (63, 5), (63, 6), (63, 7), (63, 8), (63, 9), (63, 10)] [64, 65] h h68_) (w68_0 : ((h68_.1 63 9 = 0 ∧ h68_.1 63 10 = -1 ∧ mm_RDo (h.2.1 62) p1 (mm_PX h68_)) ∨ (1 ≤ h68_.1 63 9 ∧ mm_RDf (h.2.1 62) p1 (h68_.1 63 10) (h68_.1 63 9)))) (w68_1 : (h68_.1 63 9 = 0 → ∃ L, mm_cdj (h68_.1 63 4) (h68_.2.1 64) L ∧ mm_RDj (h.2.1 62) p1 (mm_bs9 L ([], [])))), mm_W x 0 0 68 [mR 63, mU, mU] [] h68_ := by
        intro h68_ i68_ f68_ w68_0 w68_1
        have g78 : -2147483648 ≤ h68_.1 63 5 ∧ h68_.1 63 5 ≤ 2147483647 := i68_.1 63 5
        have g79 : 0 ≤ h68_.1 63 7 ∧ h68_.1 63 7 ≤ 500 := i68_.1 63 7
        have g80 : 0 ≤ h68_.1 63 8 ∧ h68_.1 63 8 ≤ 500 := i68_.1 63 8
        have g81 : 0 ≤ h68_.1 63 3 ∧ h68_.1 63 3 ≤ 500 := i68_.1 63 3
        have g82 : -2147483648 ≤ h68_.1 63 6 ∧ h68_.1 63 6 ≤ 2147483647 := i68_.1 63 6
        have g83 : -2147483648 ≤ h68_.1 63 9 ∧ h68_.1 63 9 ≤ 2147483647 := i68_.1 63 9
        have g84 : -2147483648 ≤ h68_.1 63 10 ∧ h68_.1 63 10 ≤ 2147483647 := i68_.1 63 10
        have g85 : 0 ≤ h68_.1 63 4 ∧ h68_.1 63 4 ≤ 500 := i68_.1 63 4
        refine mm_aload_n C (mm_dec dk_X7_read 35 rfl) rfl ?_
        refine mm_geti C fl_X7_37 (mm_dec dk_X7_read 36 rfl) rfl rfl (Or.inl rfl) ?_
        exact mm_iret C T (mm_dec dk_X7_read 37 rfl) (by decide : 0 ≤ 0) (by decide : 0 ≤ 0) ⟨_, rfl, ⟨⟨by omega, by omega⟩, i68_, f68_, by rfl, by exact w68_0, by exact w68_1⟩⟩
      refine mm_icmp_gt (tgt := 68) C (mm_dec dk_X7_read 24 rfl) (by decide) (fun c41 => ?_) (fun c41 => ?_)
      · skip
        exfalso; omega
      · skip
        refine mm_aload_n C (mm_dec dk_X7_read 25 rfl) rfl ?_
        refine mm_geti C fl_X7_25 (mm_dec dk_X7_read 26 rfl) rfl rfl (Or.inl rfl) ?_
        refine mm_if_eq (tgt := 68) C (mm_dec dk_X7_read 27 rfl) (by decide) (fun c48 => ?_) (fun c48 => ?_)
        · skip
          refine mm_fgt 2 ?_
          exact J68 h38_ i38_ f38_ (by first | exact Or.inl ⟨w38_0.2.2.1, w38_0.2.2.2.1, mm_R7_end w38_0 (by have zz := mm_hdx tf38; omega)⟩ | (have z := mm_or0 y53_0 (by omega); exact Or.inr ⟨z.1, mm_R7_bad w38_0 z⟩)) (by first | exact fun _ => mm_RJ_end w38_0 w38_1 (by have zz := mm_hdx tf38; omega) | (have z := mm_or0 y53_0 (by omega); exact fun q => absurd q (by have z1 := z.1; omega)))
        · skip
          refine mm_aload_n C (mm_dec dk_X7_read 28 rfl) rfl ?_
          refine mm_iload_n C (mm_dec dk_X7_read 29 rfl) rfl ?_
          refine mm_cVi (rest := []) C1 ev_X7_55 (mm_dec dk_X7_read 30 rfl) (c_X7_readClause_q x.2.1 hl (d - 1) (by omega) h38_ i38_ x38_2 ⟨by omega, by omega⟩ (by first | exact w38_0.1 | omega) (by first | exact w38_0.1 | omega)) rfl rfl (Nat.le_of_ble_eq_true rfl) ⟨by decide, by decide⟩ rfl (fun r53 h53c hp53 => ?_) (fun _ _ q => q.elim)
          obtain ⟨b53, i53c, g53c, y53_0, y53_1⟩ := hp53
          have f53c : mm_fr [(63, 3), (63, 4), (63, 5), (63, 6), (63, 7), (63, 8), (63, 9), (63, 10)] [64, 65] h h53c := mm_fr_tr f38_ g53c (by decide +kernel)
          have q53c_87 : h53c.1 63 3 = h38_.1 63 3 := g53c.1 63 3 (by decide)
          have g88 : -2147483648 ≤ (h53c.1 63 5) ∧ (h53c.1 63 5) ≤ 2147483647 := i53c.1 63 5
          have g89 : 0 ≤ (h53c.1 63 7) ∧ (h53c.1 63 7) ≤ 500 := i53c.1 63 7
          have g90 : 0 ≤ (h53c.1 63 8) ∧ (h53c.1 63 8) ≤ 500 := i53c.1 63 8
          have g91 : -2147483648 ≤ (h53c.1 63 6) ∧ (h53c.1 63 6) ≤ 2147483647 := i53c.1 63 6
          have g92 : -2147483648 ≤ (h53c.1 63 9) ∧ (h53c.1 63 9) ≤ 2147483647 := i53c.1 63 9
          have g93 : -2147483648 ≤ (h53c.1 63 10) ∧ (h53c.1 63 10) ≤ 2147483647 := i53c.1 63 10
          have g94 : 0 ≤ (h53c.1 63 4) ∧ (h53c.1 63 4) ≤ 500 := i53c.1 63 4
          refine mm_if_ne (tgt := 62) C (mm_dec dk_X7_read 31 rfl) (by decide) (fun c56 => ?_) (fun c56 => ?_)
          · skip
            have zK := mm_or1 y53_0 (by omega)
            have zp := zK.2.2.1
            refine mm_iincL (ls2 := [mR 63, mU, mI (x38_2 + 1)]) C (mm_dec dk_X7_read 33 rfl) rfl (by decide) ⟨by omega, by omega⟩ rfl ?_
            refine mm_goto (tgt := 38) C (mm_dec dk_X7_read 34 rfl) (by decide) ?_
            exact ih38 (x38_2 + 1) ⟨by omega, by omega⟩ h53c i53c f53c (by first | exact zR | exact mm_R7_s w38_0 zK) (by first | exact zRJ | exact mm_RJ_s w38_0 w38_1 (y53_1 (by omega))) (by omega)
          · skip
            refine mm_goto (tgt := 68) C (mm_dec dk_X7_read 32 rfl) (by decide) ?_
            refine mm_fgt 2 ?_
            exact J68 h53c i53c f53c (by first | exact Or.inl ⟨w38_0.2.2.1, w38_0.2.2.2.1, mm_R7_end w38_0 (by have zz := mm_hdx tf38; omega)⟩ | (have z := mm_or0 y53_0 (by omega); exact Or.inr ⟨z.1, mm_R7_bad w38_0 z⟩)) (by first | exact fun _ => mm_RJ_end w38_0 w38_1 (by have zz := mm_hdx tf38; omega) | (have z := mm_or0 y53_0 (by omega); exact fun q => absurd q (by have z1 := z.1; omega)))
  refine mm_istore_nL (ls2 := [mR 63, mI p1, mI 0]) C (mm_dec dk_X7_read 21 rfl) (by decide) rfl ?_
  refine mm_fgt 1 ?_
  exact J38 (((20 - 0) : Int) + 1).toNat 0 ⟨by omega, by omega⟩ h33c i33c f33c (by first | exact zR | exact mm_R7_s w38_0 zK) (by first | exact zRJ | exact mm_RJ_s w38_0 w38_1 (y53_1 (by omega))) (by omega)
set_option maxRecDepth 100000 in
set_option maxHeartbeats 4000000 in
theorem c_X7_copyTo_43_44_q (l : Launch) (hl : l.stackTraces = false) (d : Nat) (hd : 1 ≤ d) (h : mH) (i0 : mm_inv h) : mm_Met l d yX7_copyTo cX7_copyTo 3 (some .int) [mR 63, mR 43, mR 44] h (mm_pi fun r h2 => (0 ≤ r ∧ r ≤ 500) ∧ mm_inv h2 ∧ mm_fr [] [43, 44] h h2 ∧ (∀ j, 0 ≤ j → j ≤ 2 → h2.2.1 44 j = h.2.1 65 j) ∧ (∀ j, 0 ≤ j → j < h.1 63 4 → h2.2.1 43 j = h.2.1 64 j) ∧ r = h.1 63 4) mm_nx 0 0 := by
  refine mm_ofW (ls := [mR 63, mR 43, mR 44]) hl (by decide) rfl (Nat.le_of_ble_eq_true rfl) ?_
  intro x hxl C T hnm htb
  subst hxl
  have C1 := mm_OK_le (d' := d - 1 + 1) (by omega) C
  have f0 : mm_fr [] [43, 44] h h := mm_fr_rf
  have g1 : 0 ≤ h.1 63 4 ∧ h.1 63 4 ≤ 500 := i0.1 63 4
  refine mm_aload_n C (mm_dec dk_X7_copyTo 0 rfl) rfl ?_
  refine mm_getr (t := 64) C fl_X7_11 (mm_dec dk_X7_copyTo 1 rfl) rfl rfl (mm_ref i0 rfl) ?_
  refine mm_iconst C (mm_dec dk_X7_copyTo 2 rfl) ⟨by decide, by decide⟩ ?_
  refine mm_aload_n C (mm_dec dk_X7_copyTo 3 rfl) rfl ?_
  refine mm_iconst C (mm_dec dk_X7_copyTo 4 rfl) ⟨by decide, by decide⟩ ?_
  refine mm_aload_n C (mm_dec dk_X7_copyTo 5 rfl) rfl ?_
  refine mm_geti C fl_X7_22 (mm_dec dk_X7_copyTo 6 rfl) rfl rfl (Or.inl rfl) ?_
  refine mm_copy C1 ml_ac nt_ac sm_ac cn_sys rfl rfl (by omega) (by omega) (by omega) (Nat.le_of_ble_eq_true rfl) (mm_dec dk_X7_copyTo 7 rfl) ?_
  have i1 : mm_inv (mm_cp h 64 43 (h.1 63 4)) := mm_inv_cp i0 (by decide) (by decide)
  have f1 : mm_fr [] [43, 44] h (mm_cp h 64 43 (h.1 63 4)) := mm_fr_cp f0 (by decide)
  change mm_W _ _ _ _ _ _ (mm_cp h 64 43 (h.1 63 4))
  obtain ⟨h1, eh1⟩ : ∃ z, z = mm_cp h 64 43 (h.1 63 4) := ⟨_, rfl⟩
  rw [← eh1] at i1 f1 ⊢
  refine mm_aload_n C (mm_dec dk_X7_copyTo 8 rfl) rfl ?_
  refine mm_getr (t := 65) C fl_X7_15 (mm_dec dk_X7_copyTo 9 rfl) rfl rfl (mm_ref i1 rfl) ?_
  refine mm_iconst C (mm_dec dk_X7_copyTo 10 rfl) ⟨by decide, by decide⟩ ?_
  refine mm_aload_n C (mm_dec dk_X7_copyTo 11 rfl) rfl ?_
  refine mm_iconst C (mm_dec dk_X7_copyTo 12 rfl) ⟨by decide, by decide⟩ ?_
  refine mm_iconst C (mm_dec dk_X7_copyTo 13 rfl) ⟨by decide, by decide⟩ ?_
  refine mm_copy C1 ml_ac nt_ac sm_ac cn_sys rfl rfl (by omega) (by omega) (by omega) (Nat.le_of_ble_eq_true rfl) (mm_dec dk_X7_copyTo 14 rfl) ?_
  have i2 : mm_inv (mm_cp h1 65 44 3) := mm_inv_cp i1 (by decide) (by decide)
  have f2 : mm_fr [] [43, 44] h (mm_cp h1 65 44 3) := mm_fr_cp f1 (by decide)
  change mm_W _ _ _ _ _ _ (mm_cp h1 65 44 3)
  obtain ⟨h2, eh2⟩ : ∃ z, z = mm_cp h1 65 44 3 := ⟨_, rfl⟩
  rw [← eh2] at i2 f2 ⊢
  refine mm_aload_n C (mm_dec dk_X7_copyTo 15 rfl) rfl ?_
  refine mm_geti C fl_X7_22 (mm_dec dk_X7_copyTo 16 rfl) rfl rfl (Or.inl rfl) ?_
  have g2 : 0 ≤ (h2.1 63 4) ∧ (h2.1 63 4) ≤ 500 := i2.1 63 4
  exact mm_iret C T (mm_dec dk_X7_copyTo 17 rfl) (by decide : 0 ≤ 0) (by decide : 0 ≤ 0) ⟨_, rfl, ⟨⟨by omega, by omega⟩, i2, f2, by exact fun j a b => by rw [eh2, mm_cp_in a (by omega), eh1]; exact mm_cp_o (by decide), by exact fun j a b => by rw [eh2, mm_cp_o (by decide), eh1]; exact mm_cp_in a (by omega), by (have zf9 := f2.1 63 4 (by decide); omega)⟩⟩
set_option maxRecDepth 100000 in
set_option maxHeartbeats 4000000 in
theorem c_X8_adopt_63_q (l : Launch) (hl : l.stackTraces = false) (d : Nat) (hd : 2 ≤ d) (h : mH) (i0 : mm_inv h) : mm_Met l d yX8_adopt cX8_adopt 2 none [mR 42, mR 63] h (mm_pv fun h2 => mm_inv h2 ∧ mm_fr [(42, 3)] [43, 44] h h2 ∧ (∀ j, 0 ≤ j → j ≤ 2 → h2.2.1 44 j = h.2.1 65 j) ∧ (h2.1 42 3 = h.1 63 4 ∧ ∀ j, 0 ≤ j → j < h.1 63 4 → h2.2.1 43 j = h.2.1 64 j)) mm_nx 0 0 := by
  refine mm_ofW (ls := [mR 42, mR 63]) hl (by decide) rfl (Nat.le_of_ble_eq_true rfl) ?_
  intro x hxl C T hnm htb
  subst hxl
  have C1 := mm_OK_le (d' := d - 1 + 1) (by omega) C
  have f0 : mm_fr [(42, 3)] [43, 44] h h := mm_fr_rf
  have g1 : 0 ≤ h.1 63 4 ∧ h.1 63 4 ≤ 500 := i0.1 63 4
  have g2 : 0 ≤ h.1 42 3 ∧ h.1 42 3 ≤ 500 := i0.1 42 3
  refine mm_aload_n C (mm_dec dk_X8_adopt 0 rfl) rfl ?_
  refine mm_aload_n C (mm_dec dk_X8_adopt 1 rfl) rfl ?_
  refine mm_aload_n C (mm_dec dk_X8_adopt 2 rfl) rfl ?_
  refine mm_getr (t := 43) C fl_X8_11 (mm_dec dk_X8_adopt 3 rfl) rfl rfl (mm_ref i0 rfl) ?_
  refine mm_aload_n C (mm_dec dk_X8_adopt 4 rfl) rfl ?_
  refine mm_getr (t := 44) C fl_X8_15 (mm_dec dk_X8_adopt 5 rfl) rfl rfl (mm_ref i0 rfl) ?_
  refine mm_cVi (rest := [mR 42]) C1 ev_X8_39 (mm_dec dk_X8_adopt 6 rfl) (c_X7_copyTo_43_44_q x.2.1 hl (d - 1) (by omega) h i0 ) rfl rfl (Nat.le_of_ble_eq_true rfl) ⟨by decide, by decide⟩ rfl (fun r10 h10c hp10 => ?_) (fun _ _ q => q.elim)
  obtain ⟨b10, i10c, g10c, y10_0, y10_1, y10_2⟩ := hp10
  have f10c : mm_fr [(42, 3)] [43, 44] h h10c := mm_fr_tr f0 g10c (by decide +kernel)
  have q10c_4 : h10c.1 42 3 = h.1 42 3 := g10c.1 42 3 (by decide)
  have q10c_5 : h10c.1 63 4 = h.1 63 4 := g10c.1 63 4 (by decide)
  refine mm_puti C fl_X8_21 (mm_dec dk_X8_adopt 7 rfl) rfl rfl rfl (Or.inl ⟨rfl, rfl⟩) ?_
  have i2 : mm_inv (mm_pf h10c 42 3 r10) := mm_inv_pf i10c (show 0 ≤ r10 ∧ r10 ≤ 500 from ⟨by omega, by omega⟩) (by decide)
  have f2 : mm_fr [(42, 3)] [43, 44] h (mm_pf h10c 42 3 r10) := mm_fr_pf f10c (by decide)
  obtain ⟨h2, eh2⟩ : ∃ z, z = mm_pf h10c 42 3 r10 := ⟨_, rfl⟩
  rw [← eh2] at i2 f2 ⊢
  have qh2 : h2.1 42 3 = r10 := by rw [eh2]; exact mm_pf_same _ _ _ _
  have qh2_6 : h2.1 63 4 = h10c.1 63 4 := by rw [eh2]; exact mm_pf_ne _ _ (by decide)
  exact mm_vret C T (mm_dec dk_X8_adopt 8 rfl) (by decide : 0 ≤ 0) (by decide : 0 ≤ 0) ⟨rfl, ⟨i2, f2, by exact fun j a b => (mm_sm_pf 44 eh2 j).trans (y10_0 j a b), by exact ⟨by omega, fun j a b => (mm_sm_pf 43 eh2 j).trans (y10_1 j a b)⟩⟩⟩
