set_option maxRecDepth 100000 in
set_option maxHeartbeats 4000000 in
theorem c_X7_readPart_q1 (l : Launch) (hl : l.stackTraces = false) (d : Nat) (hd : 34 ≤ d) (h : mH) (i0 : mm_inv h) (p1 : Int) (bp1 : 1 ≤ p1 ∧ p1 ≤ 1) (t0 : mm_aX h) : mm_Met l d yX7_readPart cX7_readPart 2 (some .boolean) [mR 63, mI p1] h (mm_pi fun r h2 => (0 ≤ r ∧ r ≤ 1) ∧ mm_inv h2 ∧ mm_fr [(63, 4), (63, 5), (63, 6), (63, 7), (63, 8), (63, 9), (63, 10)] [64] h h2 ∧ ((r = 1 ∧ mm_p7 1 h h2) ∨ (r = 0 ∧ mm_g7 1 h h2)) ∧ (r = 1 → mm_pJ 7 21 1 h h2)) mm_nx 0 0 := by
  refine mm_ofW (ls := [mR 63, mI p1]) hl (by decide) rfl (Nat.le_of_ble_eq_true rfl) ?_
  intro x hxl C T hnm htb
  subst hxl
  have C1 := mm_OK_le (d' := d - 1 + 1) (by omega) C
  have C8 := mm_OK_le (d' := d - 8 + 8) (by omega) C
  refine mm_rng (fun hr _ => ?_)
  have ap1 : -2147483648 ≤ p1 ∧ p1 < 2147483648 := mm_ok_at hr (i := 1) rfl
  have f0 : mm_fr [(63, 4), (63, 5), (63, 6), (63, 7), (63, 8), (63, 9), (63, 10)] [64] h h := mm_fr_rf
  have g1 : -2147483648 ≤ h.1 63 5 ∧ h.1 63 5 ≤ 2147483647 := i0.1 63 5
  have g2 : 0 ≤ h.1 63 7 ∧ h.1 63 7 ≤ 500 := i0.1 63 7
  have g3 : 0 ≤ h.1 63 8 ∧ h.1 63 8 ≤ 500 := i0.1 63 8
  have g4 : 0 ≤ h.1 63 3 ∧ h.1 63 3 ≤ 500 := i0.1 63 3
  have g5 : -2147483648 ≤ h.1 63 6 ∧ h.1 63 6 ≤ 2147483647 := i0.1 63 6
  have g6 : -2147483648 ≤ h.1 63 9 ∧ h.1 63 9 ≤ 2147483647 := i0.1 63 9
  have g7 : -2147483648 ≤ h.1 63 10 ∧ h.1 63 10 ≤ 2147483647 := i0.1 63 10
  have tf := mm_cX_h i0 t0
  have tr := mm_cX_r i0 t0
  refine mm_aload_n C (mm_dec dk_X7_readPart 0 rfl) rfl ?_
  refine mm_bipush C (mm_dec dk_X7_readPart 1 rfl) ⟨by decide, by decide⟩ ?_
  refine mm_cVi (rest := []) C1 ev_X7_96 (mm_dec dk_X7_readPart 2 rfl) (c_X7_isSign x.2.1 hl (d - 1) (by omega) h i0 40 (by omega)) rfl rfl (Nat.le_of_ble_eq_true rfl) ⟨by decide, by decide⟩ rfl (fun r3 h3c hp3 => ?_) (fun _ _ q => q.elim)
  obtain ⟨z3, y3⟩ := hp3
  rw [z3]
  have g9 : -2147483648 ≤ (h.2.1 62 (h.1 63 7)) ∧ (h.2.1 62 (h.1 63 7)) ≤ 2147483647 := i0.2.1 62 (h.1 63 7)
  refine mm_if_eq (tgt := 38) C (mm_dec dk_X7_readPart 3 rfl) (by decide) (fun c6 => ?_) (fun c6 => ?_)
  · skip
    refine mm_aload_n C (mm_dec dk_X7_readPart 20 rfl) rfl ?_
    refine mm_geti C fl_X7_25 (mm_dec dk_X7_readPart 21 rfl) rfl rfl (Or.inl rfl) ?_
    refine mm_iconst C (mm_dec dk_X7_readPart 22 rfl) ⟨by decide, by decide⟩ ?_
    have J117 : ∀ (h117_ : mH) (i117_ : mm_inv h117_) (f117_ : mm_fr [(63, 4), (63, 5), (63, 6), (63, 7), (63, 8), (63, 9), (63, 10)] [64] h h117_) (w117_0 : mm_em h h117_) (w117_1 : (mm_cX h = 18 ∨ (7 ≤ mm_cX h ∧ mm_cX h ≤ 16))) (w117_2 : mm_pe9 h h117_) (w117_3 : h.1 63 7 ≤ 499), mm_W x 0 0 117 [mR 63, mU] [] h117_ := by
      intro h117_ i117_ f117_ w117_0 w117_1 w117_2 w117_3
      have g10 : -2147483648 ≤ h117_.1 63 5 ∧ h117_.1 63 5 ≤ 2147483647 := i117_.1 63 5
      have g11 : 0 ≤ h117_.1 63 7 ∧ h117_.1 63 7 ≤ 500 := i117_.1 63 7
      have g12 : 0 ≤ h117_.1 63 8 ∧ h117_.1 63 8 ≤ 500 := i117_.1 63 8
      have g13 : 0 ≤ h117_.1 63 3 ∧ h117_.1 63 3 ≤ 500 := i117_.1 63 3
      have g14 : -2147483648 ≤ h117_.1 63 6 ∧ h117_.1 63 6 ≤ 2147483647 := i117_.1 63 6
      have g15 : -2147483648 ≤ h117_.1 63 9 ∧ h117_.1 63 9 ≤ 2147483647 := i117_.1 63 9
      have g16 : -2147483648 ≤ h117_.1 63 10 ∧ h117_.1 63 10 ≤ 2147483647 := i117_.1 63 10
      have g17 : h117_.1 63 3 = h.1 63 3 := f117_.1 63 3 (by decide)
      refine mm_aload_n C (mm_dec dk_X7_readPart 61 rfl) rfl ?_
      refine mm_cVv (rest := []) C1 ev_X7_52 (mm_dec dk_X7_readPart 62 rfl) (c_X7_step_q x.2.1 hl (d - 1) (by omega) h117_ i117_ ) rfl rfl (Nat.le_of_ble_eq_true rfl) ⟨by decide, by decide⟩ rfl (fun h118c hp118 => ?_) (fun _ _ q => q.elim)
      obtain ⟨i118c, g118c, y118_0, y118_1, y118_2⟩ := hp118
      have f118c : mm_fr [(63, 4), (63, 5), (63, 6), (63, 7), (63, 8), (63, 9), (63, 10)] [64] h h118c := mm_fr_tr f117_ g118c (by decide +kernel)
      have q118c_19 : h118c.1 63 3 = h117_.1 63 3 := g118c.1 63 3 (by decide)
      have q118c_20 : h118c.1 63 9 = h117_.1 63 9 := g118c.1 63 9 (by decide)
      have q118c_21 : h118c.1 63 10 = h117_.1 63 10 := g118c.1 63 10 (by decide)
      have g22 : -2147483648 ≤ (h118c.1 63 5) ∧ (h118c.1 63 5) ≤ 2147483647 := i118c.1 63 5
      have g23 : 0 ≤ (h118c.1 63 7) ∧ (h118c.1 63 7) ≤ 500 := i118c.1 63 7
      have g24 : 0 ≤ (h118c.1 63 8) ∧ (h118c.1 63 8) ≤ 500 := i118c.1 63 8
      have g25 : -2147483648 ≤ (h118c.1 63 6) ∧ (h118c.1 63 6) ≤ 2147483647 := i118c.1 63 6
      refine mm_iconst C (mm_dec dk_X7_readPart 63 rfl) ⟨by decide, by decide⟩ ?_
      exact mm_zret C T (mm_dec dk_X7_readPart 64 rfl) (by decide : 0 ≤ 0) (by decide : 0 ≤ 0) (by omega) ⟨_, rfl, ⟨⟨by omega, by omega⟩, i118c, f118c, by first | exact w37_0 | exact Or.inr ⟨by omega, mm_g7_bad (by have zz := mm_hdx tf; have zy := y57_0; omega) y57_1⟩ | (have z := mm_or0 y101_0 (by omega); exact Or.inr ⟨rfl, mm_g7_bad (by have := z.1; have zz := mm_hdx tf; omega) z.2⟩) | exact Or.inl ⟨rfl, mm_p7_part w117_1 w117_0 (mm_st7_of (mm_em_a w117_0 t0) y118_1 y118_2 g118c (by decide))⟩, by first | exact fun q => absurd q (by omega) | exact w37_1 | exact fun _ => mm_pJ_le (Int.le_refl _) (by decide) (mm_pJ_part w117_2 w117_0 (mm_st7_of (mm_em_a w117_0 t0) y118_1 y118_2 g118c (by decide)) (mm_ey_fr g118c (by decide)) w117_3)⟩⟩
    refine mm_icmp_ne (tgt := 100) C (mm_dec dk_X7_readPart 23 rfl) (by decide) (fun c43 => ?_) (fun c43 => ?_)
    · skip
      refine mm_aload_n C (mm_dec dk_X7_readPart 52 rfl) rfl ?_
      refine mm_cVi (rest := []) C1 ev_X7_89 (mm_dec dk_X7_readPart 53 rfl) (c_X7_isNumber_q x.2.1 hl (d - 1) (by omega) h i0 ) rfl rfl (Nat.le_of_ble_eq_true rfl) ⟨by decide, by decide⟩ rfl (fun r101 h101c hp101 => ?_) (fun _ _ q => q.elim)
      obtain ⟨b101, i101c, g101c, y101_0⟩ := hp101
      have f101c : mm_fr [(63, 4), (63, 5), (63, 6), (63, 7), (63, 8), (63, 9), (63, 10)] [64] h h101c := mm_fr_tr f0 g101c (by decide +kernel)
      have q101c_27 : h101c.1 63 3 = h.1 63 3 := g101c.1 63 3 (by decide)
      have q101c_28 : h101c.1 63 5 = h.1 63 5 := g101c.1 63 5 (by decide)
      have q101c_29 : h101c.1 63 6 = h.1 63 6 := g101c.1 63 6 (by decide)
      have q101c_30 : h101c.1 63 7 = h.1 63 7 := g101c.1 63 7 (by decide)
      have q101c_31 : h101c.1 63 8 = h.1 63 8 := g101c.1 63 8 (by decide)
      have g32 : -2147483648 ≤ (h101c.1 63 9) ∧ (h101c.1 63 9) ≤ 2147483647 := i101c.1 63 9
      have g33 : -2147483648 ≤ (h101c.1 63 10) ∧ (h101c.1 63 10) ≤ 2147483647 := i101c.1 63 10
      refine mm_if_ne (tgt := 109) C (mm_dec dk_X7_readPart 54 rfl) (by decide) (fun c104 => ?_) (fun c104 => ?_)
      · skip
        refine mm_aload_n C (mm_dec dk_X7_readPart 57 rfl) rfl ?_
        refine mm_aload_n C (mm_dec dk_X7_readPart 58 rfl) rfl ?_
        refine mm_cVi (rest := [mR 63]) C1 ev_X7_92 (mm_dec dk_X7_readPart 59 rfl) (c_X7_numberOfToken_q x.2.1 hl (d - 1) (by omega) h101c i101c (by first | exact mm_em_a (mm_or1 y101_0 (by omega)).2.2 t0 | (have z := (mm_or1 y101_0 (by omega)).2.2; have z5 := z.2.1; have z7 := z.2.2.2.1; have z8 := z.2.2.2.2.1; omega)) (by first | exact mm_em_a (mm_or1 y101_0 (by omega)).2.2 t0 | (have z := (mm_or1 y101_0 (by omega)).2.2; have z5 := z.2.1; have z7 := z.2.2.2.1; have z8 := z.2.2.2.2.1; omega)) (by first | exact mm_em_a (mm_or1 y101_0 (by omega)).2.2 t0 | (have z := (mm_or1 y101_0 (by omega)).2.2; have z5 := z.2.1; have z7 := z.2.2.2.1; have z8 := z.2.2.2.2.1; omega))) rfl rfl (Nat.le_of_ble_eq_true rfl) ⟨by decide, by decide⟩ rfl (fun r111 h111c hp111 => ?_) (fun _ _ q => q.elim)
        obtain ⟨b111, z111, y111_0⟩ := hp111
        rw [z111]
        refine mm_cVv (rest := []) C1 ev_X7_79 (mm_dec dk_X7_readPart 60 rfl) (c_X7_emit_q x.2.1 hl (d - 1) (by omega) h101c i101c r111) rfl rfl (Nat.le_of_ble_eq_true rfl) ⟨by decide, by decide⟩ rfl (fun h114c hp114 => ?_) (fun _ _ q => q.elim)
        obtain ⟨i114c, g114c, y114_0⟩ := hp114
        have f114c : mm_fr [(63, 4), (63, 5), (63, 6), (63, 7), (63, 8), (63, 9), (63, 10)] [64] h h114c := mm_fr_tr f101c g114c (by decide +kernel)
        have q114c_36 : h114c.1 63 3 = h101c.1 63 3 := g114c.1 63 3 (by decide)
        have q114c_37 : h114c.1 63 5 = h101c.1 63 5 := g114c.1 63 5 (by decide)
        have q114c_38 : h114c.1 63 6 = h101c.1 63 6 := g114c.1 63 6 (by decide)
        have q114c_39 : h114c.1 63 7 = h101c.1 63 7 := g114c.1 63 7 (by decide)
        have q114c_40 : h114c.1 63 8 = h101c.1 63 8 := g114c.1 63 8 (by decide)
        have q114c_41 : h114c.1 63 9 = h101c.1 63 9 := g114c.1 63 9 (by decide)
        have q114c_42 : h114c.1 63 10 = h101c.1 63 10 := g114c.1 63 10 (by decide)
        refine mm_fgt 1 ?_
        exact J117 h114c i114c f114c (by first | exact mm_em_fr g94c (by decide) | exact mm_em_tr (mm_or1 y101_0 (by omega)).2.2 (mm_em_fr g114c (by decide))) (by first | (have zz := mm_hdx tf; omega) | (have z := mm_or1 y101_0 (by omega); have z1 := z.1; have z2 := z.2.1; have zz := mm_hdx tf; omega)) (by first | exact ⟨_, y94_0, Or.inr (by have zz := mm_hdx tf; have zw := w94_0; omega)⟩ | (have z := mm_or1 y101_0 (by omega); exact ⟨_, mm_e1j_ey (mm_ey_fr g101c (by decide)) z.2.2.2.2.2.1 y114_0, Or.inl ⟨by have z1 := z.1; have z2 := z.2.1; have zz := mm_hdx tf; omega, (y111_0.trans (mm_em_tv z.2.2)), by omega, by omega⟩⟩)) (by have zz := mm_hdx tf; omega)
      · skip
        refine mm_iconst C (mm_dec dk_X7_readPart 55 rfl) ⟨by decide, by decide⟩ ?_
        exact mm_zret C T (mm_dec dk_X7_readPart 56 rfl) (by decide : 0 ≤ 0) (by decide : 0 ≤ 0) (by omega) ⟨_, rfl, ⟨⟨by omega, by omega⟩, i101c, f101c, by first | exact w37_0 | exact Or.inr ⟨by omega, mm_g7_bad (by have zz := mm_hdx tf; have zy := y57_0; omega) y57_1⟩ | (have z := mm_or0 y101_0 (by omega); exact Or.inr ⟨rfl, mm_g7_bad (by have := z.1; have zz := mm_hdx tf; omega) z.2⟩) | exact Or.inl ⟨rfl, mm_p7_part w117_1 w117_0 (mm_st7_of (mm_em_a w117_0 t0) y118_1 y118_2 g118c (by decide))⟩, by first | exact fun q => absurd q (by omega) | exact w37_1 | exact fun _ => mm_pJ_le (Int.le_refl _) (by decide) (mm_pJ_part w117_2 w117_0 (mm_st7_of (mm_em_a w117_0 t0) y118_1 y118_2 g118c (by decide)) (mm_ey_fr g118c (by decide)) w117_3)⟩⟩
    · skip
      refine mm_aload_n C (mm_dec dk_X7_readPart 24 rfl) rfl ?_
      refine mm_geti C fl_X7_28 (mm_dec dk_X7_readPart 25 rfl) rfl rfl (Or.inl rfl) ?_
      refine mm_bipush C (mm_dec dk_X7_readPart 26 rfl) ⟨by decide, by decide⟩ ?_
      refine mm_icmp_ge (tgt := 61) C (mm_dec dk_X7_readPart 27 rfl) (by decide) (fun c52 => ?_) (fun c52 => ?_)
      · skip
        have zr6 : 7 ≤ h.1 63 6 ∧ h.1 63 6 ≤ 16 := by have zz := mm_hdx tf; omega
        have zw5 : mm_w (mm_w (100000 + h.1 63 6) - 10) = 99990 + h.1 63 6 := by rw [mm_w_id (z := 100000 + h.1 63 6) ⟨by omega, by omega⟩, mm_w_id ⟨by omega, by omega⟩]; omega
        have zw6 : mm_w (mm_w (100007 + h.1 63 6) - 7) = 100000 + h.1 63 6 := by rw [mm_w_id (z := 100007 + h.1 63 6) ⟨by omega, by omega⟩, mm_w_id ⟨by omega, by omega⟩]; omega
        refine mm_aload_n C (mm_dec dk_X7_readPart 32 rfl) rfl ?_
        refine mm_aload_n C (mm_dec dk_X7_readPart 33 rfl) rfl ?_
        refine mm_geti C fl_X7_28 (mm_dec dk_X7_readPart 34 rfl) rfl rfl (Or.inl rfl) ?_
        refine mm_bipush C (mm_dec dk_X7_readPart 35 rfl) ⟨by decide, by decide⟩ ?_
        have J94 : ∀ (s94_1 : Int) (bs94_1 : -2147483648 ≤ s94_1 ∧ s94_1 ≤ 2147483647) (w94_0 : ((s94_1 = 100000 + h.1 63 6 ∧ 7 ≤ h.1 63 6 ∧ h.1 63 6 ≤ 9) ∨ (s94_1 = 99990 + h.1 63 6 ∧ 10 ≤ h.1 63 6))), mm_W x 0 0 94 [mR 63, mU] [mI s94_1, mR 63] h := by
          intro s94_1 bs94_1 w94_0
          have g43 : -2147483648 ≤ h.1 63 5 ∧ h.1 63 5 ≤ 2147483647 := i0.1 63 5
          have g44 : 0 ≤ h.1 63 7 ∧ h.1 63 7 ≤ 500 := i0.1 63 7
          have g45 : 0 ≤ h.1 63 8 ∧ h.1 63 8 ≤ 500 := i0.1 63 8
          have g46 : 0 ≤ h.1 63 3 ∧ h.1 63 3 ≤ 500 := i0.1 63 3
          have g47 : -2147483648 ≤ h.1 63 6 ∧ h.1 63 6 ≤ 2147483647 := i0.1 63 6
          have g48 : -2147483648 ≤ h.1 63 9 ∧ h.1 63 9 ≤ 2147483647 := i0.1 63 9
          have g49 : -2147483648 ≤ h.1 63 10 ∧ h.1 63 10 ≤ 2147483647 := i0.1 63 10
          refine mm_cVv (rest := []) C1 ev_X7_79 (mm_dec dk_X7_readPart 50 rfl) (c_X7_emit_q x.2.1 hl (d - 1) (by omega) h i0 s94_1) rfl rfl (Nat.le_of_ble_eq_true rfl) ⟨by decide, by decide⟩ rfl (fun h94c hp94 => ?_) (fun _ _ q => q.elim)
          obtain ⟨i94c, g94c, y94_0⟩ := hp94
          have f94c : mm_fr [(63, 4), (63, 5), (63, 6), (63, 7), (63, 8), (63, 9), (63, 10)] [64] h h94c := mm_fr_tr f0 g94c (by decide +kernel)
          have q94c_51 : h94c.1 63 3 = h.1 63 3 := g94c.1 63 3 (by decide)
          have q94c_52 : h94c.1 63 5 = h.1 63 5 := g94c.1 63 5 (by decide)
          have q94c_53 : h94c.1 63 6 = h.1 63 6 := g94c.1 63 6 (by decide)
          have q94c_54 : h94c.1 63 7 = h.1 63 7 := g94c.1 63 7 (by decide)
          have q94c_55 : h94c.1 63 8 = h.1 63 8 := g94c.1 63 8 (by decide)
          have q94c_56 : h94c.1 63 9 = h.1 63 9 := g94c.1 63 9 (by decide)
          have q94c_57 : h94c.1 63 10 = h.1 63 10 := g94c.1 63 10 (by decide)
          refine mm_goto (tgt := 117) C (mm_dec dk_X7_readPart 51 rfl) (by decide) ?_
          exact J117 h94c i94c f94c (by first | exact mm_em_fr g94c (by decide) | exact mm_em_tr (mm_or1 y101_0 (by omega)).2.2 (mm_em_fr g114c (by decide))) (by first | (have zz := mm_hdx tf; omega) | (have z := mm_or1 y101_0 (by omega); have z1 := z.1; have z2 := z.2.1; have zz := mm_hdx tf; omega)) (by first | exact ⟨_, y94_0, Or.inr (by have zz := mm_hdx tf; have zw := w94_0; omega)⟩ | (have z := mm_or1 y101_0 (by omega); exact ⟨_, mm_e1j_ey (mm_ey_fr g101c (by decide)) z.2.2.2.2.2.1 y114_0, Or.inl ⟨by have z1 := z.1; have z2 := z.2.1; have zz := mm_hdx tf; omega, (y111_0.trans (mm_em_tv z.2.2)), by omega, by omega⟩⟩)) (by have zz := mm_hdx tf; omega)
        refine mm_icmp_ge (tgt := 84) C (mm_dec dk_X7_readPart 36 rfl) (by decide) (fun c68 => ?_) (fun c68 => ?_)
        · skip
          refine mm_ldc (z := 100000) C (mm_dec dk_X7_readPart 44 rfl) kc_X7_127 (by decide) ?_
          refine mm_aload_n C (mm_dec dk_X7_readPart 45 rfl) rfl ?_
          refine mm_geti C fl_X7_28 (mm_dec dk_X7_readPart 46 rfl) rfl rfl (Or.inl rfl) ?_
          refine mm_iaddw C (mm_dec dk_X7_readPart 47 rfl) ?_
          have g58 : -2147483648 ≤ (mm_w (100000 + (h.1 63 6))) ∧ (mm_w (100000 + (h.1 63 6))) < 2147483648 := mm_w_rg _
          refine mm_bipush C (mm_dec dk_X7_readPart 48 rfl) ⟨by decide, by decide⟩ ?_
          refine mm_isubw C (mm_dec dk_X7_readPart 49 rfl) ?_
          have g59 : -2147483648 ≤ (mm_w ((mm_w (100000 + (h.1 63 6))) - 10)) ∧ (mm_w ((mm_w (100000 + (h.1 63 6))) - 10)) < 2147483648 := mm_w_rg _
          refine mm_fgt 1 ?_
          exact J94 (mm_w ((mm_w (100000 + (h.1 63 6))) - 10)) ⟨by omega, by omega⟩ (by have zz := mm_hdx tf; omega)
        · skip
          refine mm_ldc (z := 100007) C (mm_dec dk_X7_readPart 37 rfl) kc_X7_126 (by decide) ?_
          refine mm_aload_n C (mm_dec dk_X7_readPart 38 rfl) rfl ?_
          refine mm_geti C fl_X7_28 (mm_dec dk_X7_readPart 39 rfl) rfl rfl (Or.inl rfl) ?_
          refine mm_iadd C (mm_dec dk_X7_readPart 40 rfl) ⟨by omega, by omega⟩ ?_
          refine mm_bipush C (mm_dec dk_X7_readPart 41 rfl) ⟨by decide, by decide⟩ ?_
          refine mm_isub C (mm_dec dk_X7_readPart 42 rfl) ⟨by omega, by omega⟩ ?_
          refine mm_goto (tgt := 94) C (mm_dec dk_X7_readPart 43 rfl) (by decide) ?_
          refine mm_fgt 1 ?_
          exact J94 ((100007 + (h.1 63 6)) - 7) ⟨by omega, by omega⟩ (by have zz := mm_hdx tf; omega)
      · skip
        refine mm_aload_n C (mm_dec dk_X7_readPart 28 rfl) rfl ?_
        refine mm_iconst C (mm_dec dk_X7_readPart 29 rfl) ⟨by decide, by decide⟩ ?_
        refine mm_cVi (rest := []) C1 ev_X7_65 (mm_dec dk_X7_readPart 30 rfl) (c_X7_refuse_q x.2.1 hl (d - 1) (by omega) h i0 3) rfl rfl (Nat.le_of_ble_eq_true rfl) ⟨by decide, by decide⟩ rfl (fun r57 h57c hp57 => ?_) (fun _ _ q => q.elim)
        obtain ⟨b57, i57c, g57c, y57_0, y57_1⟩ := hp57
        have f57c : mm_fr [(63, 4), (63, 5), (63, 6), (63, 7), (63, 8), (63, 9), (63, 10)] [64] h h57c := mm_fr_tr f0 g57c (by decide +kernel)
        have q57c_61 : h57c.1 63 3 = h.1 63 3 := g57c.1 63 3 (by decide)
        have q57c_62 : h57c.1 63 5 = h.1 63 5 := g57c.1 63 5 (by decide)
        have q57c_63 : h57c.1 63 6 = h.1 63 6 := g57c.1 63 6 (by decide)
        have q57c_64 : h57c.1 63 7 = h.1 63 7 := g57c.1 63 7 (by decide)
        have q57c_65 : h57c.1 63 8 = h.1 63 8 := g57c.1 63 8 (by decide)
        have g66 : -2147483648 ≤ (h57c.1 63 9) ∧ (h57c.1 63 9) ≤ 2147483647 := i57c.1 63 9
        have g67 : -2147483648 ≤ (h57c.1 63 10) ∧ (h57c.1 63 10) ≤ 2147483647 := i57c.1 63 10
        exact mm_zret C T (mm_dec dk_X7_readPart 31 rfl) (by decide : 0 ≤ 0) (by decide : 0 ≤ 0) (by omega) ⟨_, rfl, ⟨⟨by omega, by omega⟩, i57c, f57c, by first | exact w37_0 | exact Or.inr ⟨by omega, mm_g7_bad (by have zz := mm_hdx tf; have zy := y57_0; omega) y57_1⟩ | (have z := mm_or0 y101_0 (by omega); exact Or.inr ⟨rfl, mm_g7_bad (by have := z.1; have zz := mm_hdx tf; omega) z.2⟩) | exact Or.inl ⟨rfl, mm_p7_part w117_1 w117_0 (mm_st7_of (mm_em_a w117_0 t0) y118_1 y118_2 g118c (by decide))⟩, by first | exact fun q => absurd q (by omega) | exact w37_1 | exact fun _ => mm_pJ_le (Int.le_refl _) (by decide) (mm_pJ_part w117_2 w117_0 (mm_st7_of (mm_em_a w117_0 t0) y118_1 y118_2 g118c (by decide)) (mm_ey_fr g118c (by decide)) w117_3)⟩⟩
  · skip
    refine mm_aload_n C (mm_dec dk_X7_readPart 4 rfl) rfl ?_
    refine mm_cVv (rest := []) C1 ev_X7_52 (mm_dec dk_X7_readPart 5 rfl) (c_X7_step_q x.2.1 hl (d - 1) (by omega) h i0 ) rfl rfl (Nat.le_of_ble_eq_true rfl) ⟨by decide, by decide⟩ rfl (fun h10c hp10 => ?_) (fun _ _ q => q.elim)
    obtain ⟨i10c, g10c, y10_0, y10_1, y10_2⟩ := hp10
    have f10c : mm_fr [(63, 4), (63, 5), (63, 6), (63, 7), (63, 8), (63, 9), (63, 10)] [64] h h10c := mm_fr_tr f0 g10c (by decide +kernel)
    have q10c_69 : h10c.1 63 3 = h.1 63 3 := g10c.1 63 3 (by decide)
    have q10c_70 : h10c.1 63 9 = h.1 63 9 := g10c.1 63 9 (by decide)
    have q10c_71 : h10c.1 63 10 = h.1 63 10 := g10c.1 63 10 (by decide)
    have g72 : -2147483648 ≤ (h10c.1 63 5) ∧ (h10c.1 63 5) ≤ 2147483647 := i10c.1 63 5
    have g73 : 0 ≤ (h10c.1 63 7) ∧ (h10c.1 63 7) ≤ 500 := i10c.1 63 7
    have g74 : 0 ≤ (h10c.1 63 8) ∧ (h10c.1 63 8) ≤ 500 := i10c.1 63 8
    have g75 : -2147483648 ≤ (h10c.1 63 6) ∧ (h10c.1 63 6) ≤ 2147483647 := i10c.1 63 6
    have zs := mm_st7_of t0 y10_1 y10_2 g10c (by decide)
    refine mm_aload_n C (mm_dec dk_X7_readPart 6 rfl) rfl ?_
    refine mm_iload_n C (mm_dec dk_X7_readPart 7 rfl) rfl ?_
    refine mm_iconst C (mm_dec dk_X7_readPart 8 rfl) ⟨by decide, by decide⟩ ?_
    refine mm_iadd C (mm_dec dk_X7_readPart 9 rfl) ⟨by omega, by omega⟩ ?_
    refine mm_cVi (rest := []) C1 ev_X7_75 (mm_dec dk_X7_readPart 10 rfl) (c_X7_readOr_q2 x.2.1 hl (d - 1) (by omega) h10c i10c (p1 + 1) ⟨by omega, by omega⟩ (by exact y10_1)) rfl rfl (Nat.le_of_ble_eq_true rfl) ⟨by decide, by decide⟩ rfl (fun r17 h17c hp17 => ?_) (fun _ _ q => q.elim)
    obtain ⟨b17, i17c, g17c, y17_0, y17_1⟩ := hp17
    have f17c : mm_fr [(63, 4), (63, 5), (63, 6), (63, 7), (63, 8), (63, 9), (63, 10)] [64] h h17c := mm_fr_tr f10c g17c (by decide +kernel)
    have q17c_77 : h17c.1 63 3 = h10c.1 63 3 := g17c.1 63 3 (by decide)
    have g78 : -2147483648 ≤ (h17c.1 63 5) ∧ (h17c.1 63 5) ≤ 2147483647 := i17c.1 63 5
    have g79 : 0 ≤ (h17c.1 63 7) ∧ (h17c.1 63 7) ≤ 500 := i17c.1 63 7
    have g80 : 0 ≤ (h17c.1 63 8) ∧ (h17c.1 63 8) ≤ 500 := i17c.1 63 8
    have g81 : -2147483648 ≤ (h17c.1 63 6) ∧ (h17c.1 63 6) ≤ 2147483647 := i17c.1 63 6
    have g82 : -2147483648 ≤ (h17c.1 63 9) ∧ (h17c.1 63 9) ≤ 2147483647 := i17c.1 63 9
    have g83 : -2147483648 ≤ (h17c.1 63 10) ∧ (h17c.1 63 10) ≤ 2147483647 := i17c.1 63 10
    have J37 : ∀ (s37_0 : Int) (bs37_0 : 0 ≤ s37_0 ∧ s37_0 ≤ 1) (h37_ : mH) (i37_ : mm_inv h37_) (f37_ : mm_fr [(63, 4), (63, 5), (63, 6), (63, 7), (63, 8), (63, 9), (63, 10)] [64] h h37_) (w37_0 : ((s37_0 = 1 ∧ mm_p7 1 h h37_) ∨ (s37_0 = 0 ∧ mm_g7 1 h h37_))) (w37_1 : (s37_0 = 1 → mm_pJ 7 21 1 h h37_)), mm_W x 0 0 37 [mU, mU] [mI s37_0] h37_ := by
      intro s37_0 bs37_0 h37_ i37_ f37_ w37_0 w37_1
      have g84 : -2147483648 ≤ h37_.1 63 5 ∧ h37_.1 63 5 ≤ 2147483647 := i37_.1 63 5
      have g85 : 0 ≤ h37_.1 63 7 ∧ h37_.1 63 7 ≤ 500 := i37_.1 63 7
      have g86 : 0 ≤ h37_.1 63 8 ∧ h37_.1 63 8 ≤ 500 := i37_.1 63 8
      have g87 : 0 ≤ h37_.1 63 3 ∧ h37_.1 63 3 ≤ 500 := i37_.1 63 3
      have g88 : -2147483648 ≤ h37_.1 63 6 ∧ h37_.1 63 6 ≤ 2147483647 := i37_.1 63 6
      have g89 : -2147483648 ≤ h37_.1 63 9 ∧ h37_.1 63 9 ≤ 2147483647 := i37_.1 63 9
      have g90 : -2147483648 ≤ h37_.1 63 10 ∧ h37_.1 63 10 ≤ 2147483647 := i37_.1 63 10
      have g91 : h37_.1 63 3 = h.1 63 3 := f37_.1 63 3 (by decide)
      exact mm_zret C T (mm_dec dk_X7_readPart 19 rfl) (by decide : 0 ≤ 0) (by decide : 0 ≤ 0) (by omega) ⟨_, rfl, ⟨⟨by omega, by omega⟩, i37_, f37_, by first | exact w37_0 | exact Or.inr ⟨by omega, mm_g7_bad (by have zz := mm_hdx tf; have zy := y57_0; omega) y57_1⟩ | (have z := mm_or0 y101_0 (by omega); exact Or.inr ⟨rfl, mm_g7_bad (by have := z.1; have zz := mm_hdx tf; omega) z.2⟩) | exact Or.inl ⟨rfl, mm_p7_part w117_1 w117_0 (mm_st7_of (mm_em_a w117_0 t0) y118_1 y118_2 g118c (by decide))⟩, by first | exact fun q => absurd q (by omega) | exact w37_1 | exact fun _ => mm_pJ_le (Int.le_refl _) (by decide) (mm_pJ_part w117_2 w117_0 (mm_st7_of (mm_em_a w117_0 t0) y118_1 y118_2 g118c (by decide)) (mm_ey_fr g118c (by decide)) w117_3)⟩⟩
    have J36 : ∀ (h36_ : mH) (i36_ : mm_inv h36_) (f36_ : mm_fr [(63, 4), (63, 5), (63, 6), (63, 7), (63, 8), (63, 9), (63, 10)] [64] h h36_) (w36_0 : mm_g7 1 h h36_), mm_W x 0 0 36 [mU, mU] [] h36_ := by
      intro h36_ i36_ f36_ w36_0
      have g92 : -2147483648 ≤ h36_.1 63 5 ∧ h36_.1 63 5 ≤ 2147483647 := i36_.1 63 5
      have g93 : 0 ≤ h36_.1 63 7 ∧ h36_.1 63 7 ≤ 500 := i36_.1 63 7
      have g94 : 0 ≤ h36_.1 63 8 ∧ h36_.1 63 8 ≤ 500 := i36_.1 63 8
      have g95 : 0 ≤ h36_.1 63 3 ∧ h36_.1 63 3 ≤ 500 := i36_.1 63 3
      have g96 : -2147483648 ≤ h36_.1 63 6 ∧ h36_.1 63 6 ≤ 2147483647 := i36_.1 63 6
      have g97 : -2147483648 ≤ h36_.1 63 9 ∧ h36_.1 63 9 ≤ 2147483647 := i36_.1 63 9
      have g98 : -2147483648 ≤ h36_.1 63 10 ∧ h36_.1 63 10 ≤ 2147483647 := i36_.1 63 10
      have g99 : h36_.1 63 3 = h.1 63 3 := f36_.1 63 3 (by decide)
      refine mm_iconst C (mm_dec dk_X7_readPart 18 rfl) ⟨by decide, by decide⟩ ?_
      exact J37 0 ⟨by omega, by omega⟩ h36_ i36_ f36_ (by first | exact Or.inr ⟨rfl, w36_0⟩ | (have z := mm_or1 y26_0 (by omega); exact Or.inl ⟨rfl, mm_p7_par (by decide) (by have zz := mm_hdx tf; omega) zs zq.1 (by have := z.1; omega) z.2⟩)) (by first | exact fun q => absurd q (by decide) | exact fun _ => mm_pJ_par (by decide) (by have zz := mm_hdx tf; omega) zs (mm_ey_fr g10c (by decide)) zq.1.1.1 (y17_1 (by omega)) (by have z := mm_or1 y26_0 (by omega); have z1 := z.1; omega) (mm_or1 y26_0 (by omega)).2 (mm_ey_fr g26c (by decide)))
    refine mm_if_eq (tgt := 36) C (mm_dec dk_X7_readPart 11 rfl) (by decide) (fun c20 => ?_) (fun c20 => ?_)
    · skip
      refine mm_fgt 0 ?_
      refine mm_fgt 1 ?_
      exact J36 h17c i17c f17c (by first | exact mm_g7_par (by decide) (by have zz := mm_hdx tf; omega) zs (mm_or0 y17_0 (by omega)) | (have z := mm_or0 y26_0 (by omega); exact mm_g7_shut (by decide) (by have zz := mm_hdx tf; omega) zs zq.1 zq.2 (fun q => z.1 (by omega)) z.2.1 z.2.2))
    · skip
      have zq := mm_or1 y17_0 (by omega)
      have tg := mm_cX_h i17c zq.1.1.2.1
      have th := mm_cX_r i17c zq.1.1.2.1
      refine mm_aload_n C (mm_dec dk_X7_readPart 12 rfl) rfl ?_
      refine mm_bipush C (mm_dec dk_X7_readPart 13 rfl) ⟨by decide, by decide⟩ ?_
      refine mm_cVi (rest := []) C1 ev_X7_72 (mm_dec dk_X7_readPart 14 rfl) (c_X7_readSign_q x.2.1 hl (d - 1) (by omega) h17c i17c 41 ⟨by omega, by omega⟩ (by exact zq.1.1.2.1)) rfl rfl (Nat.le_of_ble_eq_true rfl) ⟨by decide, by decide⟩ rfl (fun r26 h26c hp26 => ?_) (fun _ _ q => q.elim)
      obtain ⟨b26, i26c, g26c, y26_0⟩ := hp26
      have f26c : mm_fr [(63, 4), (63, 5), (63, 6), (63, 7), (63, 8), (63, 9), (63, 10)] [64] h h26c := mm_fr_tr f17c g26c (by decide +kernel)
      have q26c_101 : h26c.1 63 3 = h17c.1 63 3 := g26c.1 63 3 (by decide)
      have g102 : -2147483648 ≤ (h26c.1 63 5) ∧ (h26c.1 63 5) ≤ 2147483647 := i26c.1 63 5
      have g103 : 0 ≤ (h26c.1 63 7) ∧ (h26c.1 63 7) ≤ 500 := i26c.1 63 7
      have g104 : 0 ≤ (h26c.1 63 8) ∧ (h26c.1 63 8) ≤ 500 := i26c.1 63 8
      have g105 : -2147483648 ≤ (h26c.1 63 6) ∧ (h26c.1 63 6) ≤ 2147483647 := i26c.1 63 6
      have g106 : -2147483648 ≤ (h26c.1 63 9) ∧ (h26c.1 63 9) ≤ 2147483647 := i26c.1 63 9
      have g107 : -2147483648 ≤ (h26c.1 63 10) ∧ (h26c.1 63 10) ≤ 2147483647 := i26c.1 63 10
      refine mm_if_eq (tgt := 36) C (mm_dec dk_X7_readPart 15 rfl) (by decide) (fun c29 => ?_) (fun c29 => ?_)
      · skip
        refine mm_fgt 0 ?_
        refine mm_fgt 1 ?_
        exact J36 h26c i26c f26c (by first | exact mm_g7_par (by decide) (by have zz := mm_hdx tf; omega) zs (mm_or0 y17_0 (by omega)) | (have z := mm_or0 y26_0 (by omega); exact mm_g7_shut (by decide) (by have zz := mm_hdx tf; omega) zs zq.1 zq.2 (fun q => z.1 (by omega)) z.2.1 z.2.2))
      · skip
        refine mm_iconst C (mm_dec dk_X7_readPart 16 rfl) ⟨by decide, by decide⟩ ?_
        refine mm_goto (tgt := 37) C (mm_dec dk_X7_readPart 17 rfl) (by decide) ?_
        refine mm_fgt 0 ?_
        refine mm_fgt 1 ?_
        exact J37 1 ⟨by omega, by omega⟩ h26c i26c f26c (by first | exact Or.inr ⟨rfl, w36_0⟩ | (have z := mm_or1 y26_0 (by omega); exact Or.inl ⟨rfl, mm_p7_par (by decide) (by have zz := mm_hdx tf; omega) zs zq.1 (by have := z.1; omega) z.2⟩)) (by first | exact fun q => absurd q (by decide) | exact fun _ => mm_pJ_par (by decide) (by have zz := mm_hdx tf; omega) zs (mm_ey_fr g10c (by decide)) zq.1.1.1 (y17_1 (by omega)) (by have z := mm_or1 y26_0 (by omega); have z1 := z.1; omega) (mm_or1 y26_0 (by omega)).2 (mm_ey_fr g26c (by decide)))
set_option maxRecDepth 100000 in
set_option maxHeartbeats 4000000 in
theorem c_X7_readProduct_q1 (l : Launch) (hl : l.stackTraces = false) (d : Nat) (hd : 35 ≤ d) (h : mH) (i0 : mm_inv h) (p1 : Int) (bp1 : 1 ≤ p1 ∧ p1 ≤ 1) (t0 : mm_aX h) : mm_Met l d yX7_readProduct cX7_readProduct 4 (some .boolean) [mR 63, mI p1] h (mm_pi fun r h2 => (0 ≤ r ∧ r ≤ 1) ∧ mm_inv h2 ∧ mm_fr [(63, 4), (63, 5), (63, 6), (63, 7), (63, 8), (63, 9), (63, 10)] [64] h h2 ∧ ((r = 1 ∧ mm_p7 1 h h2 ∧ mm_nA h2) ∨ (r = 0 ∧ mm_g7 1 h h2)) ∧ (r = 1 → mm_pJ 6 22 1 h h2)) mm_nx 0 0 := by
  refine mm_ofW (ls := [mR 63, mI p1, mU, mU]) hl (by decide) rfl (Nat.le_of_ble_eq_true rfl) ?_
  intro x hxl C T hnm htb
  subst hxl
  have C1 := mm_OK_le (d' := d - 1 + 1) (by omega) C
  have C8 := mm_OK_le (d' := d - 8 + 8) (by omega) C
  refine mm_rng (fun hr _ => ?_)
  have ap1 : -2147483648 ≤ p1 ∧ p1 < 2147483648 := mm_ok_at hr (i := 1) rfl
  have f0 : mm_fr [(63, 4), (63, 5), (63, 6), (63, 7), (63, 8), (63, 9), (63, 10)] [64] h h := mm_fr_rf
  have g1 : -2147483648 ≤ h.1 63 5 ∧ h.1 63 5 ≤ 2147483647 := i0.1 63 5
  have g2 : 0 ≤ h.1 63 7 ∧ h.1 63 7 ≤ 500 := i0.1 63 7
  have g3 : 0 ≤ h.1 63 8 ∧ h.1 63 8 ≤ 500 := i0.1 63 8
  have g4 : 0 ≤ h.1 63 3 ∧ h.1 63 3 ≤ 500 := i0.1 63 3
  have g5 : -2147483648 ≤ h.1 63 6 ∧ h.1 63 6 ≤ 2147483647 := i0.1 63 6
  have g6 : -2147483648 ≤ h.1 63 9 ∧ h.1 63 9 ≤ 2147483647 := i0.1 63 9
  have g7 : -2147483648 ≤ h.1 63 10 ∧ h.1 63 10 ≤ 2147483647 := i0.1 63 10
  have tf := mm_cX_h i0 t0
  have tr := mm_cX_r i0 t0
  refine mm_aload_n C (mm_dec dk_X7_readProduct 0 rfl) rfl ?_
  refine mm_iload_n C (mm_dec dk_X7_readProduct 1 rfl) rfl ?_
  refine mm_cVi (rest := []) C1 ev_X7_121 (mm_dec dk_X7_readProduct 2 rfl) (c_X7_readPart_q1 x.2.1 hl (d - 1) (by omega) h i0 p1 ⟨by omega, by omega⟩ (by exact t0)) rfl rfl (Nat.le_of_ble_eq_true rfl) ⟨by decide, by decide⟩ rfl (fun r2 h2c hp2 => ?_) (fun _ _ q => q.elim)
  obtain ⟨b2, i2c, g2c, y2_0, y2_1⟩ := hp2
  have f2c : mm_fr [(63, 4), (63, 5), (63, 6), (63, 7), (63, 8), (63, 9), (63, 10)] [64] h h2c := mm_fr_tr f0 g2c (by decide +kernel)
  have q2c_9 : h2c.1 63 3 = h.1 63 3 := g2c.1 63 3 (by decide)
  have g10 : -2147483648 ≤ (h2c.1 63 5) ∧ (h2c.1 63 5) ≤ 2147483647 := i2c.1 63 5
  have g11 : 0 ≤ (h2c.1 63 7) ∧ (h2c.1 63 7) ≤ 500 := i2c.1 63 7
  have g12 : 0 ≤ (h2c.1 63 8) ∧ (h2c.1 63 8) ≤ 500 := i2c.1 63 8
  have g13 : -2147483648 ≤ (h2c.1 63 6) ∧ (h2c.1 63 6) ≤ 2147483647 := i2c.1 63 6
  have g14 : -2147483648 ≤ (h2c.1 63 9) ∧ (h2c.1 63 9) ≤ 2147483647 := i2c.1 63 9
  have g15 : -2147483648 ≤ (h2c.1 63 10) ∧ (h2c.1 63 10) ≤ 2147483647 := i2c.1 63 10
  refine mm_if_ne (tgt := 10) C (mm_dec dk_X7_readProduct 3 rfl) (by decide) (fun c5 => ?_) (fun c5 => ?_)
  · skip
    refine mm_iconst C (mm_dec dk_X7_readProduct 6 rfl) ⟨by decide, by decide⟩ ?_
    have J12 : ∀ (n : Nat) (x12_2 : Int) (bx12_2 : 0 ≤ x12_2 ∧ x12_2 ≤ 500) (h12_ : mH) (i12_ : mm_inv h12_) (f12_ : mm_fr [(63, 4), (63, 5), (63, 6), (63, 7), (63, 8), (63, 9), (63, 10)] [64] h h12_) (w12_0 : mm_p7 1 h h12_) (w12_1 : x12_2 ≤ h12_.1 63 7) (w12_2 : mm_pJ 6 22 1 h h12_), (500 - x12_2 : Int) < n → mm_W x 0 0 12 [mR 63, mI p1, mI x12_2, mU] [] h12_ := by
      intro n
      induction n with
      | zero =>
        intro x12_2 bx12_2 h12_ i12_ f12_ w12_0 w12_1 w12_2 hm
        have g16 : -2147483648 ≤ h12_.1 63 5 ∧ h12_.1 63 5 ≤ 2147483647 := i12_.1 63 5
        have g17 : 0 ≤ h12_.1 63 7 ∧ h12_.1 63 7 ≤ 500 := i12_.1 63 7
        have g18 : 0 ≤ h12_.1 63 8 ∧ h12_.1 63 8 ≤ 500 := i12_.1 63 8
        have g19 : 0 ≤ h12_.1 63 3 ∧ h12_.1 63 3 ≤ 500 := i12_.1 63 3
        have g20 : -2147483648 ≤ h12_.1 63 6 ∧ h12_.1 63 6 ≤ 2147483647 := i12_.1 63 6
        have g21 : -2147483648 ≤ h12_.1 63 9 ∧ h12_.1 63 9 ≤ 2147483647 := i12_.1 63 9
        have g22 : -2147483648 ≤ h12_.1 63 10 ∧ h12_.1 63 10 ≤ 2147483647 := i12_.1 63 10
        exfalso; omega
      | succ n ih12 =>
        intro x12_2 bx12_2 h12_ i12_ f12_ w12_0 w12_1 w12_2 hm12
        have g23 : -2147483648 ≤ h12_.1 63 5 ∧ h12_.1 63 5 ≤ 2147483647 := i12_.1 63 5
        have g24 : 0 ≤ h12_.1 63 7 ∧ h12_.1 63 7 ≤ 500 := i12_.1 63 7
        have g25 : 0 ≤ h12_.1 63 8 ∧ h12_.1 63 8 ≤ 500 := i12_.1 63 8
        have g26 : 0 ≤ h12_.1 63 3 ∧ h12_.1 63 3 ≤ 500 := i12_.1 63 3
        have g27 : -2147483648 ≤ h12_.1 63 6 ∧ h12_.1 63 6 ≤ 2147483647 := i12_.1 63 6
        have g28 : -2147483648 ≤ h12_.1 63 9 ∧ h12_.1 63 9 ≤ 2147483647 := i12_.1 63 9
        have g29 : -2147483648 ≤ h12_.1 63 10 ∧ h12_.1 63 10 ≤ 2147483647 := i12_.1 63 10
        have g30 : h12_.1 63 3 = h.1 63 3 := f12_.1 63 3 (by decide)
        have tf12 := mm_cX_h i12_ w12_0.1.2.1
        have tr12 := mm_cX_r i12_ w12_0.1.2.1
        refine mm_iload_n C (mm_dec dk_X7_readProduct 8 rfl) rfl ?_
        refine mm_sipush C (mm_dec dk_X7_readProduct 9 rfl) ⟨by decide, by decide⟩ ?_
        have J79 : ∀ (w79_0 : mm_nA h12_), mm_W x 0 0 79 [mU, mU, mU, mU] [] h12_ := by
          intro w79_0
          have g31 : -2147483648 ≤ h12_.1 63 5 ∧ h12_.1 63 5 ≤ 2147483647 := i12_.1 63 5
          have g32 : 0 ≤ h12_.1 63 7 ∧ h12_.1 63 7 ≤ 500 := i12_.1 63 7
          have g33 : 0 ≤ h12_.1 63 8 ∧ h12_.1 63 8 ≤ 500 := i12_.1 63 8
          have g34 : 0 ≤ h12_.1 63 3 ∧ h12_.1 63 3 ≤ 500 := i12_.1 63 3
          have g35 : -2147483648 ≤ h12_.1 63 6 ∧ h12_.1 63 6 ≤ 2147483647 := i12_.1 63 6
          have g36 : -2147483648 ≤ h12_.1 63 9 ∧ h12_.1 63 9 ≤ 2147483647 := i12_.1 63 9
          have g37 : -2147483648 ≤ h12_.1 63 10 ∧ h12_.1 63 10 ≤ 2147483647 := i12_.1 63 10
          refine mm_iconst C (mm_dec dk_X7_readProduct 40 rfl) ⟨by decide, by decide⟩ ?_
          exact mm_zret C T (mm_dec dk_X7_readProduct 41 rfl) (by decide : 0 ≤ 0) (by decide : 0 ≤ 0) (by omega) ⟨_, rfl, ⟨⟨by omega, by omega⟩, i12_, f12_, by first | exact Or.inl ⟨rfl, w12_0, w79_0⟩ | exact Or.inr ⟨rfl, mm_or0 y2_0 (by omega)⟩ | exact Or.inr ⟨rfl, mm_g7_op w12_0 (by omega) zs (mm_or0 y60_0 (by omega))⟩, by first | exact fun q => absurd q (by omega) | exact fun _ => w12_2⟩⟩
        refine mm_icmp_ge (tgt := 79) C (mm_dec dk_X7_readProduct 10 rfl) (by decide) (fun c16 => ?_) (fun c16 => ?_)
        · skip
          refine mm_fgt 0 ?_
          refine mm_fgt 1 ?_
          refine mm_fgt 2 ?_
          exact J79 (by (unfold mm_nA; have zz := mm_hdx tf12; omega))
        · skip
          refine mm_aload_n C (mm_dec dk_X7_readProduct 11 rfl) rfl ?_
          refine mm_bipush C (mm_dec dk_X7_readProduct 12 rfl) ⟨by decide, by decide⟩ ?_
          refine mm_cVi (rest := []) C1 ev_X7_96 (mm_dec dk_X7_readProduct 13 rfl) (c_X7_isSign x.2.1 hl (d - 1) (by omega) h12_ i12_ 42 (by omega)) rfl rfl (Nat.le_of_ble_eq_true rfl) ⟨by decide, by decide⟩ rfl (fun r22 h22c hp22 => ?_) (fun _ _ q => q.elim)
          obtain ⟨z22, y22⟩ := hp22
          rw [z22]
          have g39 : -2147483648 ≤ (h12_.2.1 62 (h12_.1 63 7)) ∧ (h12_.2.1 62 (h12_.1 63 7)) ≤ 2147483647 := i12_.2.1 62 (h12_.1 63 7)
          have J37 : ∀ (w37_0 : (mm_cX h12_ = 142 ∨ mm_cX h12_ = 147)), mm_W x 0 0 37 [mR 63, mI p1, mI x12_2, mU] [] h12_ := by
            intro w37_0
            have g40 : -2147483648 ≤ h12_.1 63 5 ∧ h12_.1 63 5 ≤ 2147483647 := i12_.1 63 5
            have g41 : 0 ≤ h12_.1 63 7 ∧ h12_.1 63 7 ≤ 500 := i12_.1 63 7
            have g42 : 0 ≤ h12_.1 63 8 ∧ h12_.1 63 8 ≤ 500 := i12_.1 63 8
            have g43 : 0 ≤ h12_.1 63 3 ∧ h12_.1 63 3 ≤ 500 := i12_.1 63 3
            have g44 : -2147483648 ≤ h12_.1 63 6 ∧ h12_.1 63 6 ≤ 2147483647 := i12_.1 63 6
            have g45 : -2147483648 ≤ h12_.1 63 9 ∧ h12_.1 63 9 ≤ 2147483647 := i12_.1 63 9
            have g46 : -2147483648 ≤ h12_.1 63 10 ∧ h12_.1 63 10 ≤ 2147483647 := i12_.1 63 10
            refine mm_aload_n C (mm_dec dk_X7_readProduct 19 rfl) rfl ?_
            refine mm_bipush C (mm_dec dk_X7_readProduct 20 rfl) ⟨by decide, by decide⟩ ?_
            refine mm_cVi (rest := []) C1 ev_X7_96 (mm_dec dk_X7_readProduct 21 rfl) (c_X7_isSign x.2.1 hl (d - 1) (by omega) h12_ i12_ 42 (by omega)) rfl rfl (Nat.le_of_ble_eq_true rfl) ⟨by decide, by decide⟩ rfl (fun r40 h40c hp40 => ?_) (fun _ _ q => q.elim)
            obtain ⟨z40, y40⟩ := hp40
            rw [z40]
            have J53 : ∀ (s53_0 : Int) (bs53_0 : 100017 ≤ s53_0 ∧ s53_0 ≤ 100018) (w53_0 : ((mm_cX h12_ = 142 ∧ s53_0 = 100017) ∨ (mm_cX h12_ = 147 ∧ s53_0 = 100018))) (vs53_0 : (r40 ≠ 0 ∧ s53_0 = 100017) ∨ (r40 = 0 ∧ s53_0 = 100018)), mm_W x 0 0 53 [mR 63, mI p1, mI x12_2, mU] [mI s53_0] h12_ := by
              intro s53_0 bs53_0 w53_0 vs53_0
              have g48 : -2147483648 ≤ h12_.1 63 5 ∧ h12_.1 63 5 ≤ 2147483647 := i12_.1 63 5
              have g49 : 0 ≤ h12_.1 63 7 ∧ h12_.1 63 7 ≤ 500 := i12_.1 63 7
              have g50 : 0 ≤ h12_.1 63 8 ∧ h12_.1 63 8 ≤ 500 := i12_.1 63 8
              have g51 : 0 ≤ h12_.1 63 3 ∧ h12_.1 63 3 ≤ 500 := i12_.1 63 3
              have g52 : -2147483648 ≤ h12_.1 63 6 ∧ h12_.1 63 6 ≤ 2147483647 := i12_.1 63 6
              have g53 : -2147483648 ≤ h12_.1 63 9 ∧ h12_.1 63 9 ≤ 2147483647 := i12_.1 63 9
              have g54 : -2147483648 ≤ h12_.1 63 10 ∧ h12_.1 63 10 ≤ 2147483647 := i12_.1 63 10
              refine mm_istore_nL (ls2 := [mR 63, mI p1, mI x12_2, mI s53_0]) C (mm_dec dk_X7_readProduct 26 rfl) (by decide) rfl ?_
              refine mm_aload_n C (mm_dec dk_X7_readProduct 27 rfl) rfl ?_
              refine mm_cVv (rest := []) C1 ev_X7_52 (mm_dec dk_X7_readProduct 28 rfl) (c_X7_step_q x.2.1 hl (d - 1) (by omega) h12_ i12_ ) rfl rfl (Nat.le_of_ble_eq_true rfl) ⟨by decide, by decide⟩ rfl (fun h55c hp55 => ?_) (fun _ _ q => q.elim)
              obtain ⟨i55c, g55c, y55_0, y55_1, y55_2⟩ := hp55
              have f55c : mm_fr [(63, 4), (63, 5), (63, 6), (63, 7), (63, 8), (63, 9), (63, 10)] [64] h h55c := mm_fr_tr f12_ g55c (by decide +kernel)
              have q55c_56 : h55c.1 63 3 = h12_.1 63 3 := g55c.1 63 3 (by decide)
              have q55c_57 : h55c.1 63 9 = h12_.1 63 9 := g55c.1 63 9 (by decide)
              have q55c_58 : h55c.1 63 10 = h12_.1 63 10 := g55c.1 63 10 (by decide)
              have g59 : -2147483648 ≤ (h55c.1 63 5) ∧ (h55c.1 63 5) ≤ 2147483647 := i55c.1 63 5
              have g60 : 0 ≤ (h55c.1 63 7) ∧ (h55c.1 63 7) ≤ 500 := i55c.1 63 7
              have g61 : 0 ≤ (h55c.1 63 8) ∧ (h55c.1 63 8) ≤ 500 := i55c.1 63 8
              have g62 : -2147483648 ≤ (h55c.1 63 6) ∧ (h55c.1 63 6) ≤ 2147483647 := i55c.1 63 6
              have zs := mm_st7_of w12_0.1.2.1 y55_1 y55_2 g55c (by decide)
              have zl := mm_st7_lt zs (by omega)
              refine mm_aload_n C (mm_dec dk_X7_readProduct 29 rfl) rfl ?_
              refine mm_iload_n C (mm_dec dk_X7_readProduct 30 rfl) rfl ?_
              refine mm_cVi (rest := []) C1 ev_X7_121 (mm_dec dk_X7_readProduct 31 rfl) (c_X7_readPart_q1 x.2.1 hl (d - 1) (by omega) h55c i55c p1 ⟨by omega, by omega⟩ (by exact y55_1)) rfl rfl (Nat.le_of_ble_eq_true rfl) ⟨by decide, by decide⟩ rfl (fun r60 h60c hp60 => ?_) (fun _ _ q => q.elim)
              obtain ⟨b60, i60c, g60c, y60_0, y60_1⟩ := hp60
              have f60c : mm_fr [(63, 4), (63, 5), (63, 6), (63, 7), (63, 8), (63, 9), (63, 10)] [64] h h60c := mm_fr_tr f55c g60c (by decide +kernel)
              have q60c_64 : h60c.1 63 3 = h55c.1 63 3 := g60c.1 63 3 (by decide)
              have g65 : -2147483648 ≤ (h60c.1 63 5) ∧ (h60c.1 63 5) ≤ 2147483647 := i60c.1 63 5
              have g66 : 0 ≤ (h60c.1 63 7) ∧ (h60c.1 63 7) ≤ 500 := i60c.1 63 7
              have g67 : 0 ≤ (h60c.1 63 8) ∧ (h60c.1 63 8) ≤ 500 := i60c.1 63 8
              have g68 : -2147483648 ≤ (h60c.1 63 6) ∧ (h60c.1 63 6) ≤ 2147483647 := i60c.1 63 6
              have g69 : -2147483648 ≤ (h60c.1 63 9) ∧ (h60c.1 63 9) ≤ 2147483647 := i60c.1 63 9
              have g70 : -2147483648 ≤ (h60c.1 63 10) ∧ (h60c.1 63 10) ≤ 2147483647 := i60c.1 63 10
              refine mm_if_ne (tgt := 68) C (mm_dec dk_X7_readProduct 32 rfl) (by decide) (fun c63 => ?_) (fun c63 => ?_)
              · skip
                refine mm_aload_n C (mm_dec dk_X7_readProduct 35 rfl) rfl ?_
                refine mm_iload_n C (mm_dec dk_X7_readProduct 36 rfl) rfl ?_
                refine mm_cVv (rest := []) C1 ev_X7_79 (mm_dec dk_X7_readProduct 37 rfl) (c_X7_emit_q x.2.1 hl (d - 1) (by omega) h60c i60c s53_0) rfl rfl (Nat.le_of_ble_eq_true rfl) ⟨by decide, by decide⟩ rfl (fun h70c hp70 => ?_) (fun _ _ q => q.elim)
                obtain ⟨i70c, g70c, y70_0⟩ := hp70
                have f70c : mm_fr [(63, 4), (63, 5), (63, 6), (63, 7), (63, 8), (63, 9), (63, 10)] [64] h h70c := mm_fr_tr f60c g70c (by decide +kernel)
                have q70c_72 : h70c.1 63 3 = h60c.1 63 3 := g70c.1 63 3 (by decide)
                have q70c_73 : h70c.1 63 5 = h60c.1 63 5 := g70c.1 63 5 (by decide)
                have q70c_74 : h70c.1 63 6 = h60c.1 63 6 := g70c.1 63 6 (by decide)
                have q70c_75 : h70c.1 63 7 = h60c.1 63 7 := g70c.1 63 7 (by decide)
                have q70c_76 : h70c.1 63 8 = h60c.1 63 8 := g70c.1 63 8 (by decide)
                have q70c_77 : h70c.1 63 9 = h60c.1 63 9 := g70c.1 63 9 (by decide)
                have q70c_78 : h70c.1 63 10 = h60c.1 63 10 := g70c.1 63 10 (by decide)
                have zt := g70c.1 63 7 (by decide)
                have zu := (mm_or1 y60_0 (by omega)).2.1
                refine mm_iincL (ls2 := [mR 63, mI p1, mI (x12_2 + 1), mI s53_0]) C (mm_dec dk_X7_readProduct 38 rfl) rfl (by decide) ⟨by omega, by omega⟩ rfl ?_
                refine mm_goto (tgt := 12) C (mm_dec dk_X7_readProduct 39 rfl) (by decide) ?_
                refine mm_fgt 3 ?_
                exact ih12 (x12_2 + 1) ⟨by omega, by omega⟩ h70c i70c f70c (by first | exact (mm_or1 y2_0 (by omega)) | exact mm_p7_em (mm_p7_op w12_0 (by omega) zs (mm_or1 y60_0 (by omega))) (mm_em_fr g70c (by decide))) (by omega) (by first | exact mm_pJ_le (by decide) (by decide) (y2_1 (by omega)) | exact mm_pJ_op w12_0 w12_2 (mm_opP w53_0) (by decide) zs (mm_ey_fr g55c (by decide)) (y60_1 (by omega)) y70_0 (show 0 ≤ h60c.1 63 7 ∧ h60c.1 63 7 ≤ 500 from i60c.1 63 7).2) (by omega)
              · skip
                refine mm_iconst C (mm_dec dk_X7_readProduct 33 rfl) ⟨by decide, by decide⟩ ?_
                exact mm_zret C T (mm_dec dk_X7_readProduct 34 rfl) (by decide : 0 ≤ 0) (by decide : 0 ≤ 0) (by omega) ⟨_, rfl, ⟨⟨by omega, by omega⟩, i60c, f60c, by first | exact Or.inl ⟨rfl, w12_0, w79_0⟩ | exact Or.inr ⟨rfl, mm_or0 y2_0 (by omega)⟩ | exact Or.inr ⟨rfl, mm_g7_op w12_0 (by omega) zs (mm_or0 y60_0 (by omega))⟩, by first | exact fun q => absurd q (by omega) | exact fun _ => w12_2⟩⟩
            refine mm_if_eq (tgt := 51) C (mm_dec dk_X7_readProduct 22 rfl) (by decide) (fun c43 => ?_) (fun c43 => ?_)
            · skip
              refine mm_ldc (z := 100018) C (mm_dec dk_X7_readProduct 25 rfl) kc_X7_125 (by decide) ?_
              exact J53 100018 ⟨by omega, by omega⟩ (by have zz := mm_hdx tf12; omega) (Or.inr (⟨by omega, rfl⟩))
            · skip
              refine mm_ldc (z := 100017) C (mm_dec dk_X7_readProduct 23 rfl) kc_X7_124 (by decide) ?_
              refine mm_goto (tgt := 53) C (mm_dec dk_X7_readProduct 24 rfl) (by decide) ?_
              exact J53 100017 ⟨by omega, by omega⟩ (by have zz := mm_hdx tf12; omega) (Or.inl ⟨by omega, rfl⟩)
          refine mm_if_ne (tgt := 37) C (mm_dec dk_X7_readProduct 14 rfl) (by decide) (fun c25 => ?_) (fun c25 => ?_)
          · skip
            exact J37 (by have zz := mm_hdx tf12; omega)
          · skip
            refine mm_aload_n C (mm_dec dk_X7_readProduct 15 rfl) rfl ?_
            refine mm_bipush C (mm_dec dk_X7_readProduct 16 rfl) ⟨by decide, by decide⟩ ?_
            refine mm_cVi (rest := []) C1 ev_X7_96 (mm_dec dk_X7_readProduct 17 rfl) (c_X7_isSign x.2.1 hl (d - 1) (by omega) h12_ i12_ 47 (by omega)) rfl rfl (Nat.le_of_ble_eq_true rfl) ⟨by decide, by decide⟩ rfl (fun r31 h31c hp31 => ?_) (fun _ _ q => q.elim)
            obtain ⟨z31, y31⟩ := hp31
            rw [z31]
            refine mm_if_eq (tgt := 79) C (mm_dec dk_X7_readProduct 18 rfl) (by decide) (fun c34 => ?_) (fun c34 => ?_)
            · skip
              refine mm_fgt 0 ?_
              refine mm_fgt 1 ?_
              refine mm_fgt 2 ?_
              exact J79 (by (unfold mm_nA; have zz := mm_hdx tf12; omega))
            · skip
              exact J37 (by have zz := mm_hdx tf12; omega)
    refine mm_istore_nL (ls2 := [mR 63, mI p1, mI 0, mU]) C (mm_dec dk_X7_readProduct 7 rfl) (by decide) rfl ?_
    exact J12 (((500 - 0) : Int) + 1).toNat 0 ⟨by omega, by omega⟩ h2c i2c f2c (by first | exact (mm_or1 y2_0 (by omega)) | exact mm_p7_em (mm_p7_op w12_0 (by omega) zs (mm_or1 y60_0 (by omega))) (mm_em_fr g70c (by decide))) (by omega) (by first | exact mm_pJ_le (by decide) (by decide) (y2_1 (by omega)) | exact mm_pJ_op w12_0 w12_2 (mm_opP w53_0) (by decide) zs (mm_ey_fr g55c (by decide)) (y60_1 (by omega)) y70_0 (show 0 ≤ h60c.1 63 7 ∧ h60c.1 63 7 ≤ 500 from i60c.1 63 7).2) (by omega)
  · skip
    refine mm_iconst C (mm_dec dk_X7_readProduct 4 rfl) ⟨by decide, by decide⟩ ?_
    exact mm_zret C T (mm_dec dk_X7_readProduct 5 rfl) (by decide : 0 ≤ 0) (by decide : 0 ≤ 0) (by omega) ⟨_, rfl, ⟨⟨by omega, by omega⟩, i2c, f2c, by first | exact Or.inl ⟨rfl, w12_0, w79_0⟩ | exact Or.inr ⟨rfl, mm_or0 y2_0 (by omega)⟩ | exact Or.inr ⟨rfl, mm_g7_op w12_0 (by omega) zs (mm_or0 y60_0 (by omega))⟩, by first | exact fun q => absurd q (by omega) | exact fun _ => w12_2⟩⟩
set_option maxRecDepth 100000 in
set_option maxHeartbeats 4000000 in
theorem c_X7_readSum_q1 (l : Launch) (hl : l.stackTraces = false) (d : Nat) (hd : 36 ≤ d) (h : mH) (i0 : mm_inv h) (p1 : Int) (bp1 : 1 ≤ p1 ∧ p1 ≤ 1) (t0 : mm_aX h) : mm_Met l d yX7_readSum cX7_readSum 4 (some .boolean) [mR 63, mI p1] h (mm_pi fun r h2 => (0 ≤ r ∧ r ≤ 1) ∧ mm_inv h2 ∧ mm_fr [(63, 4), (63, 5), (63, 6), (63, 7), (63, 8), (63, 9), (63, 10)] [64] h h2 ∧ ((r = 1 ∧ mm_p7 1 h h2 ∧ mm_nB h2) ∨ (r = 0 ∧ mm_g7 1 h h2)) ∧ (r = 1 → mm_pJ 5 23 1 h h2)) mm_nx 0 0 := by
  refine mm_ofW (ls := [mR 63, mI p1, mU, mU]) hl (by decide) rfl (Nat.le_of_ble_eq_true rfl) ?_
  intro x hxl C T hnm htb
  subst hxl
  have C1 := mm_OK_le (d' := d - 1 + 1) (by omega) C
  have C8 := mm_OK_le (d' := d - 8 + 8) (by omega) C
  refine mm_rng (fun hr _ => ?_)
  have ap1 : -2147483648 ≤ p1 ∧ p1 < 2147483648 := mm_ok_at hr (i := 1) rfl
  have f0 : mm_fr [(63, 4), (63, 5), (63, 6), (63, 7), (63, 8), (63, 9), (63, 10)] [64] h h := mm_fr_rf
  have g1 : -2147483648 ≤ h.1 63 5 ∧ h.1 63 5 ≤ 2147483647 := i0.1 63 5
  have g2 : 0 ≤ h.1 63 7 ∧ h.1 63 7 ≤ 500 := i0.1 63 7
  have g3 : 0 ≤ h.1 63 8 ∧ h.1 63 8 ≤ 500 := i0.1 63 8
  have g4 : 0 ≤ h.1 63 3 ∧ h.1 63 3 ≤ 500 := i0.1 63 3
  have g5 : -2147483648 ≤ h.1 63 6 ∧ h.1 63 6 ≤ 2147483647 := i0.1 63 6
  have g6 : -2147483648 ≤ h.1 63 9 ∧ h.1 63 9 ≤ 2147483647 := i0.1 63 9
  have g7 : -2147483648 ≤ h.1 63 10 ∧ h.1 63 10 ≤ 2147483647 := i0.1 63 10
  have tf := mm_cX_h i0 t0
  have tr := mm_cX_r i0 t0
  refine mm_aload_n C (mm_dec dk_X7_readSum 0 rfl) rfl ?_
  refine mm_iload_n C (mm_dec dk_X7_readSum 1 rfl) rfl ?_
  refine mm_cVi (rest := []) C1 ev_X7_116 (mm_dec dk_X7_readSum 2 rfl) (c_X7_readProduct_q1 x.2.1 hl (d - 1) (by omega) h i0 p1 ⟨by omega, by omega⟩ (by exact t0)) rfl rfl (Nat.le_of_ble_eq_true rfl) ⟨by decide, by decide⟩ rfl (fun r2 h2c hp2 => ?_) (fun _ _ q => q.elim)
  obtain ⟨b2, i2c, g2c, y2_0, y2_1⟩ := hp2
  have f2c : mm_fr [(63, 4), (63, 5), (63, 6), (63, 7), (63, 8), (63, 9), (63, 10)] [64] h h2c := mm_fr_tr f0 g2c (by decide +kernel)
  have q2c_9 : h2c.1 63 3 = h.1 63 3 := g2c.1 63 3 (by decide)
  have g10 : -2147483648 ≤ (h2c.1 63 5) ∧ (h2c.1 63 5) ≤ 2147483647 := i2c.1 63 5
  have g11 : 0 ≤ (h2c.1 63 7) ∧ (h2c.1 63 7) ≤ 500 := i2c.1 63 7
  have g12 : 0 ≤ (h2c.1 63 8) ∧ (h2c.1 63 8) ≤ 500 := i2c.1 63 8
  have g13 : -2147483648 ≤ (h2c.1 63 6) ∧ (h2c.1 63 6) ≤ 2147483647 := i2c.1 63 6
  have g14 : -2147483648 ≤ (h2c.1 63 9) ∧ (h2c.1 63 9) ≤ 2147483647 := i2c.1 63 9
  have g15 : -2147483648 ≤ (h2c.1 63 10) ∧ (h2c.1 63 10) ≤ 2147483647 := i2c.1 63 10
  refine mm_if_ne (tgt := 10) C (mm_dec dk_X7_readSum 3 rfl) (by decide) (fun c5 => ?_) (fun c5 => ?_)
  · skip
    refine mm_iconst C (mm_dec dk_X7_readSum 6 rfl) ⟨by decide, by decide⟩ ?_
    have J12 : ∀ (n : Nat) (x12_2 : Int) (bx12_2 : 0 ≤ x12_2 ∧ x12_2 ≤ 500) (h12_ : mH) (i12_ : mm_inv h12_) (f12_ : mm_fr [(63, 4), (63, 5), (63, 6), (63, 7), (63, 8), (63, 9), (63, 10)] [64] h h12_) (w12_0 : mm_p7 1 h h12_) (w12_1 : x12_2 ≤ h12_.1 63 7) (w12_2 : mm_nA h12_) (w12_3 : mm_pJ 5 23 1 h h12_), (500 - x12_2 : Int) < n → mm_W x 0 0 12 [mR 63, mI p1, mI x12_2, mU] [] h12_ := by
      intro n
      induction n with
      | zero =>
        intro x12_2 bx12_2 h12_ i12_ f12_ w12_0 w12_1 w12_2 w12_3 hm
        have g16 : -2147483648 ≤ h12_.1 63 5 ∧ h12_.1 63 5 ≤ 2147483647 := i12_.1 63 5
        have g17 : 0 ≤ h12_.1 63 7 ∧ h12_.1 63 7 ≤ 500 := i12_.1 63 7
        have g18 : 0 ≤ h12_.1 63 8 ∧ h12_.1 63 8 ≤ 500 := i12_.1 63 8
        have g19 : 0 ≤ h12_.1 63 3 ∧ h12_.1 63 3 ≤ 500 := i12_.1 63 3
        have g20 : -2147483648 ≤ h12_.1 63 6 ∧ h12_.1 63 6 ≤ 2147483647 := i12_.1 63 6
        have g21 : -2147483648 ≤ h12_.1 63 9 ∧ h12_.1 63 9 ≤ 2147483647 := i12_.1 63 9
        have g22 : -2147483648 ≤ h12_.1 63 10 ∧ h12_.1 63 10 ≤ 2147483647 := i12_.1 63 10
        exfalso; omega
      | succ n ih12 =>
        intro x12_2 bx12_2 h12_ i12_ f12_ w12_0 w12_1 w12_2 w12_3 hm12
        have g23 : -2147483648 ≤ h12_.1 63 5 ∧ h12_.1 63 5 ≤ 2147483647 := i12_.1 63 5
        have g24 : 0 ≤ h12_.1 63 7 ∧ h12_.1 63 7 ≤ 500 := i12_.1 63 7
        have g25 : 0 ≤ h12_.1 63 8 ∧ h12_.1 63 8 ≤ 500 := i12_.1 63 8
        have g26 : 0 ≤ h12_.1 63 3 ∧ h12_.1 63 3 ≤ 500 := i12_.1 63 3
        have g27 : -2147483648 ≤ h12_.1 63 6 ∧ h12_.1 63 6 ≤ 2147483647 := i12_.1 63 6
        have g28 : -2147483648 ≤ h12_.1 63 9 ∧ h12_.1 63 9 ≤ 2147483647 := i12_.1 63 9
        have g29 : -2147483648 ≤ h12_.1 63 10 ∧ h12_.1 63 10 ≤ 2147483647 := i12_.1 63 10
        have g30 : h12_.1 63 3 = h.1 63 3 := f12_.1 63 3 (by decide)
        have tf12 := mm_cX_h i12_ w12_0.1.2.1
        have tr12 := mm_cX_r i12_ w12_0.1.2.1
        refine mm_iload_n C (mm_dec dk_X7_readSum 8 rfl) rfl ?_
        refine mm_sipush C (mm_dec dk_X7_readSum 9 rfl) ⟨by decide, by decide⟩ ?_
        have J79 : ∀ (w79_0 : mm_nB h12_), mm_W x 0 0 79 [mU, mU, mU, mU] [] h12_ := by
          intro w79_0
          have g31 : -2147483648 ≤ h12_.1 63 5 ∧ h12_.1 63 5 ≤ 2147483647 := i12_.1 63 5
          have g32 : 0 ≤ h12_.1 63 7 ∧ h12_.1 63 7 ≤ 500 := i12_.1 63 7
          have g33 : 0 ≤ h12_.1 63 8 ∧ h12_.1 63 8 ≤ 500 := i12_.1 63 8
          have g34 : 0 ≤ h12_.1 63 3 ∧ h12_.1 63 3 ≤ 500 := i12_.1 63 3
          have g35 : -2147483648 ≤ h12_.1 63 6 ∧ h12_.1 63 6 ≤ 2147483647 := i12_.1 63 6
          have g36 : -2147483648 ≤ h12_.1 63 9 ∧ h12_.1 63 9 ≤ 2147483647 := i12_.1 63 9
          have g37 : -2147483648 ≤ h12_.1 63 10 ∧ h12_.1 63 10 ≤ 2147483647 := i12_.1 63 10
          refine mm_iconst C (mm_dec dk_X7_readSum 40 rfl) ⟨by decide, by decide⟩ ?_
          exact mm_zret C T (mm_dec dk_X7_readSum 41 rfl) (by decide : 0 ≤ 0) (by decide : 0 ≤ 0) (by omega) ⟨_, rfl, ⟨⟨by omega, by omega⟩, i12_, f12_, by first | exact Or.inl ⟨rfl, w12_0, w79_0⟩ | exact Or.inr ⟨rfl, mm_or0 y2_0 (by omega)⟩ | exact Or.inr ⟨rfl, mm_g7_op w12_0 (by omega) zs (mm_or0 y60_0 (by omega))⟩, by first | exact fun q => absurd q (by omega) | exact fun _ => w12_3⟩⟩
        refine mm_icmp_ge (tgt := 79) C (mm_dec dk_X7_readSum 10 rfl) (by decide) (fun c16 => ?_) (fun c16 => ?_)
        · skip
          refine mm_fgt 0 ?_
          refine mm_fgt 1 ?_
          refine mm_fgt 2 ?_
          exact J79 (by (unfold mm_nB; have zz := mm_hdx tf12; have z := w12_2; unfold mm_nA at z; omega))
        · skip
          refine mm_aload_n C (mm_dec dk_X7_readSum 11 rfl) rfl ?_
          refine mm_bipush C (mm_dec dk_X7_readSum 12 rfl) ⟨by decide, by decide⟩ ?_
          refine mm_cVi (rest := []) C1 ev_X7_96 (mm_dec dk_X7_readSum 13 rfl) (c_X7_isSign x.2.1 hl (d - 1) (by omega) h12_ i12_ 43 (by omega)) rfl rfl (Nat.le_of_ble_eq_true rfl) ⟨by decide, by decide⟩ rfl (fun r22 h22c hp22 => ?_) (fun _ _ q => q.elim)
          obtain ⟨z22, y22⟩ := hp22
          rw [z22]
          have g39 : -2147483648 ≤ (h12_.2.1 62 (h12_.1 63 7)) ∧ (h12_.2.1 62 (h12_.1 63 7)) ≤ 2147483647 := i12_.2.1 62 (h12_.1 63 7)
          have J37 : ∀ (w37_0 : (mm_cX h12_ = 143 ∨ mm_cX h12_ = 145)), mm_W x 0 0 37 [mR 63, mI p1, mI x12_2, mU] [] h12_ := by
            intro w37_0
            have g40 : -2147483648 ≤ h12_.1 63 5 ∧ h12_.1 63 5 ≤ 2147483647 := i12_.1 63 5
            have g41 : 0 ≤ h12_.1 63 7 ∧ h12_.1 63 7 ≤ 500 := i12_.1 63 7
            have g42 : 0 ≤ h12_.1 63 8 ∧ h12_.1 63 8 ≤ 500 := i12_.1 63 8
            have g43 : 0 ≤ h12_.1 63 3 ∧ h12_.1 63 3 ≤ 500 := i12_.1 63 3
            have g44 : -2147483648 ≤ h12_.1 63 6 ∧ h12_.1 63 6 ≤ 2147483647 := i12_.1 63 6
            have g45 : -2147483648 ≤ h12_.1 63 9 ∧ h12_.1 63 9 ≤ 2147483647 := i12_.1 63 9
            have g46 : -2147483648 ≤ h12_.1 63 10 ∧ h12_.1 63 10 ≤ 2147483647 := i12_.1 63 10
            refine mm_aload_n C (mm_dec dk_X7_readSum 19 rfl) rfl ?_
            refine mm_bipush C (mm_dec dk_X7_readSum 20 rfl) ⟨by decide, by decide⟩ ?_
            refine mm_cVi (rest := []) C1 ev_X7_96 (mm_dec dk_X7_readSum 21 rfl) (c_X7_isSign x.2.1 hl (d - 1) (by omega) h12_ i12_ 43 (by omega)) rfl rfl (Nat.le_of_ble_eq_true rfl) ⟨by decide, by decide⟩ rfl (fun r40 h40c hp40 => ?_) (fun _ _ q => q.elim)
            obtain ⟨z40, y40⟩ := hp40
            rw [z40]
            have J53 : ∀ (s53_0 : Int) (bs53_0 : 100015 ≤ s53_0 ∧ s53_0 ≤ 100016) (w53_0 : ((mm_cX h12_ = 143 ∧ s53_0 = 100015) ∨ (mm_cX h12_ = 145 ∧ s53_0 = 100016))) (vs53_0 : (r40 ≠ 0 ∧ s53_0 = 100015) ∨ (r40 = 0 ∧ s53_0 = 100016)), mm_W x 0 0 53 [mR 63, mI p1, mI x12_2, mU] [mI s53_0] h12_ := by
              intro s53_0 bs53_0 w53_0 vs53_0
              have g48 : -2147483648 ≤ h12_.1 63 5 ∧ h12_.1 63 5 ≤ 2147483647 := i12_.1 63 5
              have g49 : 0 ≤ h12_.1 63 7 ∧ h12_.1 63 7 ≤ 500 := i12_.1 63 7
              have g50 : 0 ≤ h12_.1 63 8 ∧ h12_.1 63 8 ≤ 500 := i12_.1 63 8
              have g51 : 0 ≤ h12_.1 63 3 ∧ h12_.1 63 3 ≤ 500 := i12_.1 63 3
              have g52 : -2147483648 ≤ h12_.1 63 6 ∧ h12_.1 63 6 ≤ 2147483647 := i12_.1 63 6
              have g53 : -2147483648 ≤ h12_.1 63 9 ∧ h12_.1 63 9 ≤ 2147483647 := i12_.1 63 9
              have g54 : -2147483648 ≤ h12_.1 63 10 ∧ h12_.1 63 10 ≤ 2147483647 := i12_.1 63 10
              refine mm_istore_nL (ls2 := [mR 63, mI p1, mI x12_2, mI s53_0]) C (mm_dec dk_X7_readSum 26 rfl) (by decide) rfl ?_
              refine mm_aload_n C (mm_dec dk_X7_readSum 27 rfl) rfl ?_
              refine mm_cVv (rest := []) C1 ev_X7_52 (mm_dec dk_X7_readSum 28 rfl) (c_X7_step_q x.2.1 hl (d - 1) (by omega) h12_ i12_ ) rfl rfl (Nat.le_of_ble_eq_true rfl) ⟨by decide, by decide⟩ rfl (fun h55c hp55 => ?_) (fun _ _ q => q.elim)
              obtain ⟨i55c, g55c, y55_0, y55_1, y55_2⟩ := hp55
              have f55c : mm_fr [(63, 4), (63, 5), (63, 6), (63, 7), (63, 8), (63, 9), (63, 10)] [64] h h55c := mm_fr_tr f12_ g55c (by decide +kernel)
              have q55c_56 : h55c.1 63 3 = h12_.1 63 3 := g55c.1 63 3 (by decide)
              have q55c_57 : h55c.1 63 9 = h12_.1 63 9 := g55c.1 63 9 (by decide)
              have q55c_58 : h55c.1 63 10 = h12_.1 63 10 := g55c.1 63 10 (by decide)
              have g59 : -2147483648 ≤ (h55c.1 63 5) ∧ (h55c.1 63 5) ≤ 2147483647 := i55c.1 63 5
              have g60 : 0 ≤ (h55c.1 63 7) ∧ (h55c.1 63 7) ≤ 500 := i55c.1 63 7
              have g61 : 0 ≤ (h55c.1 63 8) ∧ (h55c.1 63 8) ≤ 500 := i55c.1 63 8
              have g62 : -2147483648 ≤ (h55c.1 63 6) ∧ (h55c.1 63 6) ≤ 2147483647 := i55c.1 63 6
              have zs := mm_st7_of w12_0.1.2.1 y55_1 y55_2 g55c (by decide)
              have zl := mm_st7_lt zs (by omega)
              refine mm_aload_n C (mm_dec dk_X7_readSum 29 rfl) rfl ?_
              refine mm_iload_n C (mm_dec dk_X7_readSum 30 rfl) rfl ?_
              refine mm_cVi (rest := []) C1 ev_X7_116 (mm_dec dk_X7_readSum 31 rfl) (c_X7_readProduct_q1 x.2.1 hl (d - 1) (by omega) h55c i55c p1 ⟨by omega, by omega⟩ (by exact y55_1)) rfl rfl (Nat.le_of_ble_eq_true rfl) ⟨by decide, by decide⟩ rfl (fun r60 h60c hp60 => ?_) (fun _ _ q => q.elim)
              obtain ⟨b60, i60c, g60c, y60_0, y60_1⟩ := hp60
              have f60c : mm_fr [(63, 4), (63, 5), (63, 6), (63, 7), (63, 8), (63, 9), (63, 10)] [64] h h60c := mm_fr_tr f55c g60c (by decide +kernel)
              have q60c_64 : h60c.1 63 3 = h55c.1 63 3 := g60c.1 63 3 (by decide)
              have g65 : -2147483648 ≤ (h60c.1 63 5) ∧ (h60c.1 63 5) ≤ 2147483647 := i60c.1 63 5
              have g66 : 0 ≤ (h60c.1 63 7) ∧ (h60c.1 63 7) ≤ 500 := i60c.1 63 7
              have g67 : 0 ≤ (h60c.1 63 8) ∧ (h60c.1 63 8) ≤ 500 := i60c.1 63 8
              have g68 : -2147483648 ≤ (h60c.1 63 6) ∧ (h60c.1 63 6) ≤ 2147483647 := i60c.1 63 6
              have g69 : -2147483648 ≤ (h60c.1 63 9) ∧ (h60c.1 63 9) ≤ 2147483647 := i60c.1 63 9
              have g70 : -2147483648 ≤ (h60c.1 63 10) ∧ (h60c.1 63 10) ≤ 2147483647 := i60c.1 63 10
              refine mm_if_ne (tgt := 68) C (mm_dec dk_X7_readSum 32 rfl) (by decide) (fun c63 => ?_) (fun c63 => ?_)
              · skip
                refine mm_aload_n C (mm_dec dk_X7_readSum 35 rfl) rfl ?_
                refine mm_iload_n C (mm_dec dk_X7_readSum 36 rfl) rfl ?_
                refine mm_cVv (rest := []) C1 ev_X7_79 (mm_dec dk_X7_readSum 37 rfl) (c_X7_emit_q x.2.1 hl (d - 1) (by omega) h60c i60c s53_0) rfl rfl (Nat.le_of_ble_eq_true rfl) ⟨by decide, by decide⟩ rfl (fun h70c hp70 => ?_) (fun _ _ q => q.elim)
                obtain ⟨i70c, g70c, y70_0⟩ := hp70
                have f70c : mm_fr [(63, 4), (63, 5), (63, 6), (63, 7), (63, 8), (63, 9), (63, 10)] [64] h h70c := mm_fr_tr f60c g70c (by decide +kernel)
                have q70c_72 : h70c.1 63 3 = h60c.1 63 3 := g70c.1 63 3 (by decide)
                have q70c_73 : h70c.1 63 5 = h60c.1 63 5 := g70c.1 63 5 (by decide)
                have q70c_74 : h70c.1 63 6 = h60c.1 63 6 := g70c.1 63 6 (by decide)
                have q70c_75 : h70c.1 63 7 = h60c.1 63 7 := g70c.1 63 7 (by decide)
                have q70c_76 : h70c.1 63 8 = h60c.1 63 8 := g70c.1 63 8 (by decide)
                have q70c_77 : h70c.1 63 9 = h60c.1 63 9 := g70c.1 63 9 (by decide)
                have q70c_78 : h70c.1 63 10 = h60c.1 63 10 := g70c.1 63 10 (by decide)
                have zt := g70c.1 63 7 (by decide)
                have zu := (mm_or1 y60_0 (by omega)).1.2.1
                refine mm_iincL (ls2 := [mR 63, mI p1, mI (x12_2 + 1), mI s53_0]) C (mm_dec dk_X7_readSum 38 rfl) rfl (by decide) ⟨by omega, by omega⟩ rfl ?_
                refine mm_goto (tgt := 12) C (mm_dec dk_X7_readSum 39 rfl) (by decide) ?_
                refine mm_fgt 3 ?_
                exact ih12 (x12_2 + 1) ⟨by omega, by omega⟩ h70c i70c f70c (by first | exact (mm_or1 y2_0 (by omega)).1 | exact mm_p7_em (mm_p7_op w12_0 (by omega) zs (mm_or1 y60_0 (by omega)).1) (mm_em_fr g70c (by decide))) (by omega) (by first | exact (mm_or1 y2_0 (by omega)).2 | exact mm_nA_em (mm_or1 y60_0 (by omega)).2 (mm_em_fr g70c (by decide))) (by first | exact mm_pJ_le (by decide) (by decide) (y2_1 (by omega)) | exact mm_pJ_op w12_0 w12_3 (mm_opS w53_0) (by decide) zs (mm_ey_fr g55c (by decide)) (y60_1 (by omega)) y70_0 (show 0 ≤ h60c.1 63 7 ∧ h60c.1 63 7 ≤ 500 from i60c.1 63 7).2) (by omega)
              · skip
                refine mm_iconst C (mm_dec dk_X7_readSum 33 rfl) ⟨by decide, by decide⟩ ?_
                exact mm_zret C T (mm_dec dk_X7_readSum 34 rfl) (by decide : 0 ≤ 0) (by decide : 0 ≤ 0) (by omega) ⟨_, rfl, ⟨⟨by omega, by omega⟩, i60c, f60c, by first | exact Or.inl ⟨rfl, w12_0, w79_0⟩ | exact Or.inr ⟨rfl, mm_or0 y2_0 (by omega)⟩ | exact Or.inr ⟨rfl, mm_g7_op w12_0 (by omega) zs (mm_or0 y60_0 (by omega))⟩, by first | exact fun q => absurd q (by omega) | exact fun _ => w12_3⟩⟩
            refine mm_if_eq (tgt := 51) C (mm_dec dk_X7_readSum 22 rfl) (by decide) (fun c43 => ?_) (fun c43 => ?_)
            · skip
              refine mm_ldc (z := 100016) C (mm_dec dk_X7_readSum 25 rfl) kc_X7_120 (by decide) ?_
              exact J53 100016 ⟨by omega, by omega⟩ (by have zz := mm_hdx tf12; omega) (Or.inr (⟨by omega, rfl⟩))
            · skip
              refine mm_ldc (z := 100015) C (mm_dec dk_X7_readSum 23 rfl) kc_X7_119 (by decide) ?_
              refine mm_goto (tgt := 53) C (mm_dec dk_X7_readSum 24 rfl) (by decide) ?_
              exact J53 100015 ⟨by omega, by omega⟩ (by have zz := mm_hdx tf12; omega) (Or.inl ⟨by omega, rfl⟩)
          refine mm_if_ne (tgt := 37) C (mm_dec dk_X7_readSum 14 rfl) (by decide) (fun c25 => ?_) (fun c25 => ?_)
          · skip
            exact J37 (by have zz := mm_hdx tf12; omega)
          · skip
            refine mm_aload_n C (mm_dec dk_X7_readSum 15 rfl) rfl ?_
            refine mm_bipush C (mm_dec dk_X7_readSum 16 rfl) ⟨by decide, by decide⟩ ?_
            refine mm_cVi (rest := []) C1 ev_X7_96 (mm_dec dk_X7_readSum 17 rfl) (c_X7_isSign x.2.1 hl (d - 1) (by omega) h12_ i12_ 45 (by omega)) rfl rfl (Nat.le_of_ble_eq_true rfl) ⟨by decide, by decide⟩ rfl (fun r31 h31c hp31 => ?_) (fun _ _ q => q.elim)
            obtain ⟨z31, y31⟩ := hp31
            rw [z31]
            refine mm_if_eq (tgt := 79) C (mm_dec dk_X7_readSum 18 rfl) (by decide) (fun c34 => ?_) (fun c34 => ?_)
            · skip
              refine mm_fgt 0 ?_
              refine mm_fgt 1 ?_
              refine mm_fgt 2 ?_
              exact J79 (by (unfold mm_nB; have zz := mm_hdx tf12; have z := w12_2; unfold mm_nA at z; omega))
            · skip
              exact J37 (by have zz := mm_hdx tf12; omega)
    refine mm_istore_nL (ls2 := [mR 63, mI p1, mI 0, mU]) C (mm_dec dk_X7_readSum 7 rfl) (by decide) rfl ?_
    exact J12 (((500 - 0) : Int) + 1).toNat 0 ⟨by omega, by omega⟩ h2c i2c f2c (by first | exact (mm_or1 y2_0 (by omega)).1 | exact mm_p7_em (mm_p7_op w12_0 (by omega) zs (mm_or1 y60_0 (by omega)).1) (mm_em_fr g70c (by decide))) (by omega) (by first | exact (mm_or1 y2_0 (by omega)).2 | exact mm_nA_em (mm_or1 y60_0 (by omega)).2 (mm_em_fr g70c (by decide))) (by first | exact mm_pJ_le (by decide) (by decide) (y2_1 (by omega)) | exact mm_pJ_op w12_0 w12_3 (mm_opS w53_0) (by decide) zs (mm_ey_fr g55c (by decide)) (y60_1 (by omega)) y70_0 (show 0 ≤ h60c.1 63 7 ∧ h60c.1 63 7 ≤ 500 from i60c.1 63 7).2) (by omega)
  · skip
    refine mm_iconst C (mm_dec dk_X7_readSum 4 rfl) ⟨by decide, by decide⟩ ?_
    exact mm_zret C T (mm_dec dk_X7_readSum 5 rfl) (by decide : 0 ≤ 0) (by decide : 0 ≤ 0) (by omega) ⟨_, rfl, ⟨⟨by omega, by omega⟩, i2c, f2c, by first | exact Or.inl ⟨rfl, w12_0, w79_0⟩ | exact Or.inr ⟨rfl, mm_or0 y2_0 (by omega)⟩ | exact Or.inr ⟨rfl, mm_g7_op w12_0 (by omega) zs (mm_or0 y60_0 (by omega))⟩, by first | exact fun q => absurd q (by omega) | exact fun _ => w12_3⟩⟩
set_option maxRecDepth 100000 in
set_option maxHeartbeats 4000000 in
theorem c_X7_readTest_q1 (l : Launch) (hl : l.stackTraces = false) (d : Nat) (hd : 37 ≤ d) (h : mH) (i0 : mm_inv h) (p1 : Int) (bp1 : 1 ≤ p1 ∧ p1 ≤ 1) (t0 : mm_aX h) : mm_Met l d yX7_readTest cX7_readTest 3 (some .boolean) [mR 63, mI p1] h (mm_pi fun r h2 => (0 ≤ r ∧ r ≤ 1) ∧ mm_inv h2 ∧ mm_fr [(63, 4), (63, 5), (63, 6), (63, 7), (63, 8), (63, 9), (63, 10)] [64] h h2 ∧ ((r = 1 ∧ mm_q7 1 1 h h2 ∧ mm_nB h2) ∨ (r = 0 ∧ mm_f7 1 1 h h2)) ∧ (r = 1 → mm_qJ 1 4 24 1 h h2)) mm_nx 0 0 := by
  refine mm_ofW (ls := [mR 63, mI p1, mU]) hl (by decide) rfl (Nat.le_of_ble_eq_true rfl) ?_
  intro x hxl C T hnm htb
  subst hxl
  have C1 := mm_OK_le (d' := d - 1 + 1) (by omega) C
  have C8 := mm_OK_le (d' := d - 8 + 8) (by omega) C
  refine mm_rng (fun hr _ => ?_)
  have ap1 : -2147483648 ≤ p1 ∧ p1 < 2147483648 := mm_ok_at hr (i := 1) rfl
  have f0 : mm_fr [(63, 4), (63, 5), (63, 6), (63, 7), (63, 8), (63, 9), (63, 10)] [64] h h := mm_fr_rf
  have g1 : -2147483648 ≤ h.1 63 5 ∧ h.1 63 5 ≤ 2147483647 := i0.1 63 5
  have g2 : 0 ≤ h.1 63 7 ∧ h.1 63 7 ≤ 500 := i0.1 63 7
  have g3 : 0 ≤ h.1 63 8 ∧ h.1 63 8 ≤ 500 := i0.1 63 8
  have g4 : 0 ≤ h.1 63 3 ∧ h.1 63 3 ≤ 500 := i0.1 63 3
  have g5 : -2147483648 ≤ h.1 63 6 ∧ h.1 63 6 ≤ 2147483647 := i0.1 63 6
  have g6 : -2147483648 ≤ h.1 63 9 ∧ h.1 63 9 ≤ 2147483647 := i0.1 63 9
  have g7 : -2147483648 ≤ h.1 63 10 ∧ h.1 63 10 ≤ 2147483647 := i0.1 63 10
  have tf := mm_cX_h i0 t0
  have tr := mm_cX_r i0 t0
  refine mm_aload_n C (mm_dec dk_X7_readTest 0 rfl) rfl ?_
  refine mm_iload_n C (mm_dec dk_X7_readTest 1 rfl) rfl ?_
  refine mm_cVi (rest := []) C1 ev_X7_111 (mm_dec dk_X7_readTest 2 rfl) (c_X7_readSum_q1 x.2.1 hl (d - 1) (by omega) h i0 p1 ⟨by omega, by omega⟩ (by exact t0)) rfl rfl (Nat.le_of_ble_eq_true rfl) ⟨by decide, by decide⟩ rfl (fun r2 h2c hp2 => ?_) (fun _ _ q => q.elim)
  obtain ⟨b2, i2c, g2c, y2_0, y2_1⟩ := hp2
  have f2c : mm_fr [(63, 4), (63, 5), (63, 6), (63, 7), (63, 8), (63, 9), (63, 10)] [64] h h2c := mm_fr_tr f0 g2c (by decide +kernel)
  have q2c_9 : h2c.1 63 3 = h.1 63 3 := g2c.1 63 3 (by decide)
  have g10 : -2147483648 ≤ (h2c.1 63 5) ∧ (h2c.1 63 5) ≤ 2147483647 := i2c.1 63 5
  have g11 : 0 ≤ (h2c.1 63 7) ∧ (h2c.1 63 7) ≤ 500 := i2c.1 63 7
  have g12 : 0 ≤ (h2c.1 63 8) ∧ (h2c.1 63 8) ≤ 500 := i2c.1 63 8
  have g13 : -2147483648 ≤ (h2c.1 63 6) ∧ (h2c.1 63 6) ≤ 2147483647 := i2c.1 63 6
  have g14 : -2147483648 ≤ (h2c.1 63 9) ∧ (h2c.1 63 9) ≤ 2147483647 := i2c.1 63 9
  have g15 : -2147483648 ≤ (h2c.1 63 10) ∧ (h2c.1 63 10) ≤ 2147483647 := i2c.1 63 10
  refine mm_if_ne (tgt := 10) C (mm_dec dk_X7_readTest 3 rfl) (by decide) (fun c5 => ?_) (fun c5 => ?_)
  · skip
    have zp := mm_or1 y2_0 (by omega)
    have tg := mm_cX_h i2c zp.1.1.2.1
    have th := mm_cX_r i2c zp.1.1.2.1
    refine mm_aload_n C (mm_dec dk_X7_readTest 6 rfl) rfl ?_
    refine mm_bipush C (mm_dec dk_X7_readTest 7 rfl) ⟨by decide, by decide⟩ ?_
    refine mm_cVi (rest := []) C1 ev_X7_96 (mm_dec dk_X7_readTest 8 rfl) (c_X7_isSign x.2.1 hl (d - 1) (by omega) h2c i2c 60 (by omega)) rfl rfl (Nat.le_of_ble_eq_true rfl) ⟨by decide, by decide⟩ rfl (fun r13 h13c hp13 => ?_) (fun _ _ q => q.elim)
    obtain ⟨z13, y13⟩ := hp13
    rw [z13]
    have g17 : -2147483648 ≤ (h2c.2.1 62 (h2c.1 63 7)) ∧ (h2c.2.1 62 (h2c.1 63 7)) ≤ 2147483647 := i2c.2.1 62 (h2c.1 63 7)
    have J39 : ∀ (s39_0 : Int) (bs39_0 : -1 ≤ s39_0 ∧ s39_0 ≤ 100014) (w39_0 : ((s39_0 ≠ -1 ∧ (mm_cX h2c = 160 ∨ mm_cX h2c = 161)) ∨ (s39_0 = -1 ∧ mm_cX h2c ≠ 160 ∧ mm_cX h2c ≠ 161))) (w39_1 : ((mm_cX h2c = 160 ∧ s39_0 = 100013) ∨ (mm_cX h2c = 161 ∧ s39_0 = 100014) ∨ s39_0 = -1)) (vs39_0 : (r13 = 0 ∧ s39_0 = -1) ∨ (r13 ≠ 0 ∧ s39_0 = 100013) ∨ (r13 = 0 ∧ s39_0 = 100014)), mm_W x 0 0 39 [mR 63, mI p1, mU] [mI s39_0] h2c := by
      intro s39_0 bs39_0 w39_0 w39_1 vs39_0
      refine mm_istore_nL (ls2 := [mR 63, mI p1, mI s39_0]) C (mm_dec dk_X7_readTest 19 rfl) (by decide) rfl ?_
      refine mm_iload_n C (mm_dec dk_X7_readTest 20 rfl) rfl ?_
      refine mm_iconst C (mm_dec dk_X7_readTest 21 rfl) ⟨by decide, by decide⟩ ?_
      have J64 : ∀ (h64_ : mH) (i64_ : mm_inv h64_) (f64_ : mm_fr [(63, 4), (63, 5), (63, 6), (63, 7), (63, 8), (63, 9), (63, 10)] [64] h h64_) (w64_0 : mm_q7 1 1 h h64_) (w64_1 : mm_nB h64_) (w64_2 : mm_qJ 1 4 24 1 h h64_), mm_W x 0 0 64 [mU, mU, mU] [] h64_ := by
        intro h64_ i64_ f64_ w64_0 w64_1 w64_2
        have g18 : -2147483648 ≤ h64_.1 63 5 ∧ h64_.1 63 5 ≤ 2147483647 := i64_.1 63 5
        have g19 : 0 ≤ h64_.1 63 7 ∧ h64_.1 63 7 ≤ 500 := i64_.1 63 7
        have g20 : 0 ≤ h64_.1 63 8 ∧ h64_.1 63 8 ≤ 500 := i64_.1 63 8
        have g21 : 0 ≤ h64_.1 63 3 ∧ h64_.1 63 3 ≤ 500 := i64_.1 63 3
        have g22 : -2147483648 ≤ h64_.1 63 6 ∧ h64_.1 63 6 ≤ 2147483647 := i64_.1 63 6
        have g23 : -2147483648 ≤ h64_.1 63 9 ∧ h64_.1 63 9 ≤ 2147483647 := i64_.1 63 9
        have g24 : -2147483648 ≤ h64_.1 63 10 ∧ h64_.1 63 10 ≤ 2147483647 := i64_.1 63 10
        have g25 : h64_.1 63 3 = h.1 63 3 := f64_.1 63 3 (by decide)
        refine mm_iconst C (mm_dec dk_X7_readTest 34 rfl) ⟨by decide, by decide⟩ ?_
        exact mm_zret C T (mm_dec dk_X7_readTest 35 rfl) (by decide : 0 ≤ 0) (by decide : 0 ≤ 0) (by omega) ⟨_, rfl, ⟨⟨by omega, by omega⟩, i64_, f64_, by first | exact Or.inl ⟨rfl, w64_0, w64_1⟩ | exact Or.inr ⟨rfl, mm_f7_sum (mm_or0 y2_0 (by omega))⟩ | exact Or.inr ⟨rfl, mm_f7_lt zp.1 (by omega) zs (mm_or0 y51_0 (by omega))⟩, by first | exact fun q => absurd q (by omega) | exact fun _ => w64_2⟩⟩
      refine mm_icmp_eq (tgt := 64) C (mm_dec dk_X7_readTest 22 rfl) (by decide) (fun c42 => ?_) (fun c42 => ?_)
      · skip
        refine mm_fgt 0 ?_
        refine mm_fgt 1 ?_
        refine mm_fgt 2 ?_
        exact J64 h2c i2c f2c (by first | exact mm_q7_sum zp.1 (by omega) | exact mm_q7_em (mm_q7_lt zp.1 (by omega) zs (mm_or1 y51_0 (by omega)).1) (mm_em_fr g61c (by decide))) (by first | exact zp.2 | exact mm_nB_em (mm_or1 y51_0 (by omega)).2 (mm_em_fr g61c (by decide))) (by first | exact mm_qJ_sum (y2_1 (by omega)) (by omega) | exact mm_qJ_lt zp.1 (y2_1 (by omega)) (mm_opT w39_1 (by omega)) zs (mm_ey_fr g46c (by decide)) (y51_1 (by omega)) y61_0 (show 0 ≤ h51c.1 63 7 ∧ h51c.1 63 7 ≤ 500 from i51c.1 63 7).2)
      · skip
        refine mm_aload_n C (mm_dec dk_X7_readTest 23 rfl) rfl ?_
        refine mm_cVv (rest := []) C1 ev_X7_52 (mm_dec dk_X7_readTest 24 rfl) (c_X7_step_q x.2.1 hl (d - 1) (by omega) h2c i2c ) rfl rfl (Nat.le_of_ble_eq_true rfl) ⟨by decide, by decide⟩ rfl (fun h46c hp46 => ?_) (fun _ _ q => q.elim)
        obtain ⟨i46c, g46c, y46_0, y46_1, y46_2⟩ := hp46
        have f46c : mm_fr [(63, 4), (63, 5), (63, 6), (63, 7), (63, 8), (63, 9), (63, 10)] [64] h h46c := mm_fr_tr f2c g46c (by decide +kernel)
        have q46c_27 : h46c.1 63 3 = h2c.1 63 3 := g46c.1 63 3 (by decide)
        have q46c_28 : h46c.1 63 9 = h2c.1 63 9 := g46c.1 63 9 (by decide)
        have q46c_29 : h46c.1 63 10 = h2c.1 63 10 := g46c.1 63 10 (by decide)
        have g30 : -2147483648 ≤ (h46c.1 63 5) ∧ (h46c.1 63 5) ≤ 2147483647 := i46c.1 63 5
        have g31 : 0 ≤ (h46c.1 63 7) ∧ (h46c.1 63 7) ≤ 500 := i46c.1 63 7
        have g32 : 0 ≤ (h46c.1 63 8) ∧ (h46c.1 63 8) ≤ 500 := i46c.1 63 8
        have g33 : -2147483648 ≤ (h46c.1 63 6) ∧ (h46c.1 63 6) ≤ 2147483647 := i46c.1 63 6
        have zs := mm_st7_of zp.1.1.2.1 y46_1 y46_2 g46c (by decide)
        refine mm_aload_n C (mm_dec dk_X7_readTest 25 rfl) rfl ?_
        refine mm_iload_n C (mm_dec dk_X7_readTest 26 rfl) rfl ?_
        refine mm_cVi (rest := []) C1 ev_X7_111 (mm_dec dk_X7_readTest 27 rfl) (c_X7_readSum_q1 x.2.1 hl (d - 1) (by omega) h46c i46c p1 ⟨by omega, by omega⟩ (by exact y46_1)) rfl rfl (Nat.le_of_ble_eq_true rfl) ⟨by decide, by decide⟩ rfl (fun r51 h51c hp51 => ?_) (fun _ _ q => q.elim)
        obtain ⟨b51, i51c, g51c, y51_0, y51_1⟩ := hp51
        have f51c : mm_fr [(63, 4), (63, 5), (63, 6), (63, 7), (63, 8), (63, 9), (63, 10)] [64] h h51c := mm_fr_tr f46c g51c (by decide +kernel)
        have q51c_35 : h51c.1 63 3 = h46c.1 63 3 := g51c.1 63 3 (by decide)
        have g36 : -2147483648 ≤ (h51c.1 63 5) ∧ (h51c.1 63 5) ≤ 2147483647 := i51c.1 63 5
        have g37 : 0 ≤ (h51c.1 63 7) ∧ (h51c.1 63 7) ≤ 500 := i51c.1 63 7
        have g38 : 0 ≤ (h51c.1 63 8) ∧ (h51c.1 63 8) ≤ 500 := i51c.1 63 8
        have g39 : -2147483648 ≤ (h51c.1 63 6) ∧ (h51c.1 63 6) ≤ 2147483647 := i51c.1 63 6
        have g40 : -2147483648 ≤ (h51c.1 63 9) ∧ (h51c.1 63 9) ≤ 2147483647 := i51c.1 63 9
        have g41 : -2147483648 ≤ (h51c.1 63 10) ∧ (h51c.1 63 10) ≤ 2147483647 := i51c.1 63 10
        refine mm_if_ne (tgt := 59) C (mm_dec dk_X7_readTest 28 rfl) (by decide) (fun c54 => ?_) (fun c54 => ?_)
        · skip
          refine mm_aload_n C (mm_dec dk_X7_readTest 31 rfl) rfl ?_
          refine mm_iload_n C (mm_dec dk_X7_readTest 32 rfl) rfl ?_
          refine mm_cVv (rest := []) C1 ev_X7_79 (mm_dec dk_X7_readTest 33 rfl) (c_X7_emit_q x.2.1 hl (d - 1) (by omega) h51c i51c s39_0) rfl rfl (Nat.le_of_ble_eq_true rfl) ⟨by decide, by decide⟩ rfl (fun h61c hp61 => ?_) (fun _ _ q => q.elim)
          obtain ⟨i61c, g61c, y61_0⟩ := hp61
          have f61c : mm_fr [(63, 4), (63, 5), (63, 6), (63, 7), (63, 8), (63, 9), (63, 10)] [64] h h61c := mm_fr_tr f51c g61c (by decide +kernel)
          have q61c_43 : h61c.1 63 3 = h51c.1 63 3 := g61c.1 63 3 (by decide)
          have q61c_44 : h61c.1 63 5 = h51c.1 63 5 := g61c.1 63 5 (by decide)
          have q61c_45 : h61c.1 63 6 = h51c.1 63 6 := g61c.1 63 6 (by decide)
          have q61c_46 : h61c.1 63 7 = h51c.1 63 7 := g61c.1 63 7 (by decide)
          have q61c_47 : h61c.1 63 8 = h51c.1 63 8 := g61c.1 63 8 (by decide)
          have q61c_48 : h61c.1 63 9 = h51c.1 63 9 := g61c.1 63 9 (by decide)
          have q61c_49 : h61c.1 63 10 = h51c.1 63 10 := g61c.1 63 10 (by decide)
          refine mm_fgt 0 ?_
          refine mm_fgt 1 ?_
          refine mm_fgt 2 ?_
          exact J64 h61c i61c f61c (by first | exact mm_q7_sum zp.1 (by omega) | exact mm_q7_em (mm_q7_lt zp.1 (by omega) zs (mm_or1 y51_0 (by omega)).1) (mm_em_fr g61c (by decide))) (by first | exact zp.2 | exact mm_nB_em (mm_or1 y51_0 (by omega)).2 (mm_em_fr g61c (by decide))) (by first | exact mm_qJ_sum (y2_1 (by omega)) (by omega) | exact mm_qJ_lt zp.1 (y2_1 (by omega)) (mm_opT w39_1 (by omega)) zs (mm_ey_fr g46c (by decide)) (y51_1 (by omega)) y61_0 (show 0 ≤ h51c.1 63 7 ∧ h51c.1 63 7 ≤ 500 from i51c.1 63 7).2)
        · skip
          refine mm_iconst C (mm_dec dk_X7_readTest 29 rfl) ⟨by decide, by decide⟩ ?_
          exact mm_zret C T (mm_dec dk_X7_readTest 30 rfl) (by decide : 0 ≤ 0) (by decide : 0 ≤ 0) (by omega) ⟨_, rfl, ⟨⟨by omega, by omega⟩, i51c, f51c, by first | exact Or.inl ⟨rfl, w64_0, w64_1⟩ | exact Or.inr ⟨rfl, mm_f7_sum (mm_or0 y2_0 (by omega))⟩ | exact Or.inr ⟨rfl, mm_f7_lt zp.1 (by omega) zs (mm_or0 y51_0 (by omega))⟩, by first | exact fun q => absurd q (by omega) | exact fun _ => w64_2⟩⟩
    refine mm_if_eq (tgt := 24) C (mm_dec dk_X7_readTest 9 rfl) (by decide) (fun c16 => ?_) (fun c16 => ?_)
    · skip
      refine mm_aload_n C (mm_dec dk_X7_readTest 12 rfl) rfl ?_
      refine mm_bipush C (mm_dec dk_X7_readTest 13 rfl) ⟨by decide, by decide⟩ ?_
      refine mm_cVi (rest := []) C1 ev_X7_96 (mm_dec dk_X7_readTest 14 rfl) (c_X7_isSign x.2.1 hl (d - 1) (by omega) h2c i2c 61 (by omega)) rfl rfl (Nat.le_of_ble_eq_true rfl) ⟨by decide, by decide⟩ rfl (fun r27 h27c hp27 => ?_) (fun _ _ q => q.elim)
      obtain ⟨z27, y27⟩ := hp27
      rw [z27]
      refine mm_if_eq (tgt := 38) C (mm_dec dk_X7_readTest 15 rfl) (by decide) (fun c30 => ?_) (fun c30 => ?_)
      · skip
        refine mm_iconst C (mm_dec dk_X7_readTest 18 rfl) ⟨by decide, by decide⟩ ?_
        exact J39 (-1) ⟨by omega, by omega⟩ (by have zz := mm_hdx tg; omega) (by have zz := mm_hdx tg; omega) (Or.inl ⟨by omega, rfl⟩)
      · skip
        refine mm_ldc (z := 100014) C (mm_dec dk_X7_readTest 16 rfl) kc_X7_115 (by decide) ?_
        refine mm_goto (tgt := 39) C (mm_dec dk_X7_readTest 17 rfl) (by decide) ?_
        exact J39 100014 ⟨by omega, by omega⟩ (by have zz := mm_hdx tg; omega) (by have zz := mm_hdx tg; omega) (Or.inr (Or.inr (⟨by omega, rfl⟩)))
    · skip
      refine mm_ldc (z := 100013) C (mm_dec dk_X7_readTest 10 rfl) kc_X7_114 (by decide) ?_
      refine mm_goto (tgt := 39) C (mm_dec dk_X7_readTest 11 rfl) (by decide) ?_
      exact J39 100013 ⟨by omega, by omega⟩ (by have zz := mm_hdx tg; omega) (by have zz := mm_hdx tg; omega) (Or.inr (Or.inl ⟨by omega, rfl⟩))
  · skip
    refine mm_iconst C (mm_dec dk_X7_readTest 4 rfl) ⟨by decide, by decide⟩ ?_
    exact mm_zret C T (mm_dec dk_X7_readTest 5 rfl) (by decide : 0 ≤ 0) (by decide : 0 ≤ 0) (by omega) ⟨_, rfl, ⟨⟨by omega, by omega⟩, i2c, f2c, by first | exact Or.inl ⟨rfl, w64_0, w64_1⟩ | exact Or.inr ⟨rfl, mm_f7_sum (mm_or0 y2_0 (by omega))⟩ | exact Or.inr ⟨rfl, mm_f7_lt zp.1 (by omega) zs (mm_or0 y51_0 (by omega))⟩, by first | exact fun q => absurd q (by omega) | exact fun _ => w64_2⟩⟩
set_option maxRecDepth 100000 in
set_option maxHeartbeats 4000000 in
theorem c_X7_readNot_q1 (l : Launch) (hl : l.stackTraces = false) (d : Nat) (hd : 38 ≤ d) (h : mH) (i0 : mm_inv h) (p1 : Int) (bp1 : 1 ≤ p1 ∧ p1 ≤ 1) (t0 : mm_aX h) : mm_Met l d yX7_readNot cX7_readNot 4 (some .boolean) [mR 63, mI p1] h (mm_pi fun r h2 => (0 ≤ r ∧ r ≤ 1) ∧ mm_inv h2 ∧ mm_fr [(63, 4), (63, 5), (63, 6), (63, 7), (63, 8), (63, 9), (63, 10)] [64] h h2 ∧ ((r = 1 ∧ mm_q7 0 1 h h2 ∧ mm_nB h2) ∨ (r = 0 ∧ mm_f7 0 1 h h2)) ∧ (r = 1 → mm_qJ 0 3 24 1 h h2)) mm_nx 0 0 := by
  refine mm_ofW (ls := [mR 63, mI p1, mU, mU]) hl (by decide) rfl (Nat.le_of_ble_eq_true rfl) ?_
  intro x hxl C T hnm htb
  subst hxl
  have C1 := mm_OK_le (d' := d - 1 + 1) (by omega) C
  have C8 := mm_OK_le (d' := d - 8 + 8) (by omega) C
  refine mm_rng (fun hr _ => ?_)
  have ap1 : -2147483648 ≤ p1 ∧ p1 < 2147483648 := mm_ok_at hr (i := 1) rfl
  have f0 : mm_fr [(63, 4), (63, 5), (63, 6), (63, 7), (63, 8), (63, 9), (63, 10)] [64] h h := mm_fr_rf
  have g1 : -2147483648 ≤ h.1 63 5 ∧ h.1 63 5 ≤ 2147483647 := i0.1 63 5
  have g2 : 0 ≤ h.1 63 7 ∧ h.1 63 7 ≤ 500 := i0.1 63 7
  have g3 : 0 ≤ h.1 63 8 ∧ h.1 63 8 ≤ 500 := i0.1 63 8
  have g4 : 0 ≤ h.1 63 3 ∧ h.1 63 3 ≤ 500 := i0.1 63 3
  have g5 : -2147483648 ≤ h.1 63 6 ∧ h.1 63 6 ≤ 2147483647 := i0.1 63 6
  have g6 : -2147483648 ≤ h.1 63 9 ∧ h.1 63 9 ≤ 2147483647 := i0.1 63 9
  have g7 : -2147483648 ≤ h.1 63 10 ∧ h.1 63 10 ≤ 2147483647 := i0.1 63 10
  refine mm_iconst C (mm_dec dk_X7_readNot 0 rfl) ⟨by decide, by decide⟩ ?_
  have J2 : ∀ (n : Nat) (x2_2 : Int) (bx2_2 : 0 ≤ x2_2 ∧ x2_2 ≤ 6) (h2_ : mH) (i2_ : mm_inv h2_) (f2_ : mm_fr [(63, 4), (63, 5), (63, 6), (63, 7), (63, 8), (63, 9), (63, 10)] [64] h h2_) (w2_0 : mm_n7 1 x2_2 h h2_) (w2_1 : mm_nJ 1 x2_2 h h2_), (6 - x2_2 : Int) < n → mm_W x 0 0 2 [mR 63, mI p1, mI x2_2, mU] [] h2_ := by
    intro n
    induction n with
    | zero =>
      intro x2_2 bx2_2 h2_ i2_ f2_ w2_0 w2_1 hm
      have g8 : -2147483648 ≤ h2_.1 63 5 ∧ h2_.1 63 5 ≤ 2147483647 := i2_.1 63 5
      have g9 : 0 ≤ h2_.1 63 7 ∧ h2_.1 63 7 ≤ 500 := i2_.1 63 7
      have g10 : 0 ≤ h2_.1 63 8 ∧ h2_.1 63 8 ≤ 500 := i2_.1 63 8
      have g11 : 0 ≤ h2_.1 63 3 ∧ h2_.1 63 3 ≤ 500 := i2_.1 63 3
      have g12 : -2147483648 ≤ h2_.1 63 6 ∧ h2_.1 63 6 ≤ 2147483647 := i2_.1 63 6
      have g13 : -2147483648 ≤ h2_.1 63 9 ∧ h2_.1 63 9 ≤ 2147483647 := i2_.1 63 9
      have g14 : -2147483648 ≤ h2_.1 63 10 ∧ h2_.1 63 10 ≤ 2147483647 := i2_.1 63 10
      exfalso; omega
    | succ n ih2 =>
      intro x2_2 bx2_2 h2_ i2_ f2_ w2_0 w2_1 hm2
      have g15 : -2147483648 ≤ h2_.1 63 5 ∧ h2_.1 63 5 ≤ 2147483647 := i2_.1 63 5
      have g16 : 0 ≤ h2_.1 63 7 ∧ h2_.1 63 7 ≤ 500 := i2_.1 63 7
      have g17 : 0 ≤ h2_.1 63 8 ∧ h2_.1 63 8 ≤ 500 := i2_.1 63 8
      have g18 : 0 ≤ h2_.1 63 3 ∧ h2_.1 63 3 ≤ 500 := i2_.1 63 3
      have g19 : -2147483648 ≤ h2_.1 63 6 ∧ h2_.1 63 6 ≤ 2147483647 := i2_.1 63 6
      have g20 : -2147483648 ≤ h2_.1 63 9 ∧ h2_.1 63 9 ≤ 2147483647 := i2_.1 63 9
      have g21 : -2147483648 ≤ h2_.1 63 10 ∧ h2_.1 63 10 ≤ 2147483647 := i2_.1 63 10
      have g22 : h2_.1 63 3 = h.1 63 3 := f2_.1 63 3 (by decide)
      have tf2 := mm_cX_h i2_ w2_0.1.2.1
      have tr2 := mm_cX_r i2_ w2_0.1.2.1
      refine mm_iload_n C (mm_dec dk_X7_readNot 2 rfl) rfl ?_
      refine mm_bipush C (mm_dec dk_X7_readNot 3 rfl) ⟨by decide, by decide⟩ ?_
      have J27 : ∀ (w27_0 : (6 ≤ x2_2 ∨ mm_cX h2_ ≠ 6)), mm_W x 0 0 27 [mR 63, mI p1, mI x2_2, mU] [] h2_ := by
        intro w27_0
        have g23 : -2147483648 ≤ h2_.1 63 5 ∧ h2_.1 63 5 ≤ 2147483647 := i2_.1 63 5
        have g24 : 0 ≤ h2_.1 63 7 ∧ h2_.1 63 7 ≤ 500 := i2_.1 63 7
        have g25 : 0 ≤ h2_.1 63 8 ∧ h2_.1 63 8 ≤ 500 := i2_.1 63 8
        have g26 : 0 ≤ h2_.1 63 3 ∧ h2_.1 63 3 ≤ 500 := i2_.1 63 3
        have g27 : -2147483648 ≤ h2_.1 63 6 ∧ h2_.1 63 6 ≤ 2147483647 := i2_.1 63 6
        have g28 : -2147483648 ≤ h2_.1 63 9 ∧ h2_.1 63 9 ≤ 2147483647 := i2_.1 63 9
        have g29 : -2147483648 ≤ h2_.1 63 10 ∧ h2_.1 63 10 ≤ 2147483647 := i2_.1 63 10
        refine mm_iload_n C (mm_dec dk_X7_readNot 13 rfl) rfl ?_
        refine mm_bipush C (mm_dec dk_X7_readNot 14 rfl) ⟨by decide, by decide⟩ ?_
        have J48 : ∀ (w48_0 : mm_cX h2_ ≠ 6), mm_W x 0 0 48 [mR 63, mI p1, mI x2_2, mU] [] h2_ := by
          intro w48_0
          have g30 : -2147483648 ≤ h2_.1 63 5 ∧ h2_.1 63 5 ≤ 2147483647 := i2_.1 63 5
          have g31 : 0 ≤ h2_.1 63 7 ∧ h2_.1 63 7 ≤ 500 := i2_.1 63 7
          have g32 : 0 ≤ h2_.1 63 8 ∧ h2_.1 63 8 ≤ 500 := i2_.1 63 8
          have g33 : 0 ≤ h2_.1 63 3 ∧ h2_.1 63 3 ≤ 500 := i2_.1 63 3
          have g34 : -2147483648 ≤ h2_.1 63 6 ∧ h2_.1 63 6 ≤ 2147483647 := i2_.1 63 6
          have g35 : -2147483648 ≤ h2_.1 63 9 ∧ h2_.1 63 9 ≤ 2147483647 := i2_.1 63 9
          have g36 : -2147483648 ≤ h2_.1 63 10 ∧ h2_.1 63 10 ≤ 2147483647 := i2_.1 63 10
          refine mm_aload_n C (mm_dec dk_X7_readNot 24 rfl) rfl ?_
          refine mm_iload_n C (mm_dec dk_X7_readNot 25 rfl) rfl ?_
          refine mm_cVi (rest := []) C1 ev_X7_107 (mm_dec dk_X7_readNot 26 rfl) (c_X7_readTest_q1 x.2.1 hl (d - 1) (by omega) h2_ i2_ p1 ⟨by omega, by omega⟩ (by exact w2_0.1.2.1)) rfl rfl (Nat.le_of_ble_eq_true rfl) ⟨by decide, by decide⟩ rfl (fun r50 h50c hp50 => ?_) (fun _ _ q => q.elim)
          obtain ⟨b50, i50c, g50c, y50_0, y50_1⟩ := hp50
          have f50c : mm_fr [(63, 4), (63, 5), (63, 6), (63, 7), (63, 8), (63, 9), (63, 10)] [64] h h50c := mm_fr_tr f2_ g50c (by decide +kernel)
          have q50c_38 : h50c.1 63 3 = h2_.1 63 3 := g50c.1 63 3 (by decide)
          have g39 : -2147483648 ≤ (h50c.1 63 5) ∧ (h50c.1 63 5) ≤ 2147483647 := i50c.1 63 5
          have g40 : 0 ≤ (h50c.1 63 7) ∧ (h50c.1 63 7) ≤ 500 := i50c.1 63 7
          have g41 : 0 ≤ (h50c.1 63 8) ∧ (h50c.1 63 8) ≤ 500 := i50c.1 63 8
          have g42 : -2147483648 ≤ (h50c.1 63 6) ∧ (h50c.1 63 6) ≤ 2147483647 := i50c.1 63 6
          have g43 : -2147483648 ≤ (h50c.1 63 9) ∧ (h50c.1 63 9) ≤ 2147483647 := i50c.1 63 9
          have g44 : -2147483648 ≤ (h50c.1 63 10) ∧ (h50c.1 63 10) ≤ 2147483647 := i50c.1 63 10
          refine mm_if_ne (tgt := 58) C (mm_dec dk_X7_readNot 27 rfl) (by decide) (fun c53 => ?_) (fun c53 => ?_)
          · skip
            refine mm_iconst C (mm_dec dk_X7_readNot 30 rfl) ⟨by decide, by decide⟩ ?_
            have J60 : ∀ (n : Nat) (x60_3 : Int) (bx60_3 : 0 ≤ x60_3 ∧ x60_3 ≤ 7) (h60_ : mH) (i60_ : mm_inv h60_) (f60_ : mm_fr [(63, 4), (63, 5), (63, 6), (63, 7), (63, 8), (63, 9), (63, 10)] [64] h h60_) (w60_0 : mm_q7 0 1 h h60_) (w60_1 : mm_nB h60_) (w60_2 : mm_rJ x2_2 x60_3 24 1 h h60_), (7 - x60_3 : Int) < n → mm_W x 0 0 60 [mR 63, mU, mI x2_2, mI x60_3] [] h60_ := by
              intro n
              induction n with
              | zero =>
                intro x60_3 bx60_3 h60_ i60_ f60_ w60_0 w60_1 w60_2 hm
                have g45 : -2147483648 ≤ h60_.1 63 5 ∧ h60_.1 63 5 ≤ 2147483647 := i60_.1 63 5
                have g46 : 0 ≤ h60_.1 63 7 ∧ h60_.1 63 7 ≤ 500 := i60_.1 63 7
                have g47 : 0 ≤ h60_.1 63 8 ∧ h60_.1 63 8 ≤ 500 := i60_.1 63 8
                have g48 : 0 ≤ h60_.1 63 3 ∧ h60_.1 63 3 ≤ 500 := i60_.1 63 3
                have g49 : -2147483648 ≤ h60_.1 63 6 ∧ h60_.1 63 6 ≤ 2147483647 := i60_.1 63 6
                have g50 : -2147483648 ≤ h60_.1 63 9 ∧ h60_.1 63 9 ≤ 2147483647 := i60_.1 63 9
                have g51 : -2147483648 ≤ h60_.1 63 10 ∧ h60_.1 63 10 ≤ 2147483647 := i60_.1 63 10
                exfalso; omega
              | succ n ih60 =>
                intro x60_3 bx60_3 h60_ i60_ f60_ w60_0 w60_1 w60_2 hm60
                have g52 : -2147483648 ≤ h60_.1 63 5 ∧ h60_.1 63 5 ≤ 2147483647 := i60_.1 63 5
                have g53 : 0 ≤ h60_.1 63 7 ∧ h60_.1 63 7 ≤ 500 := i60_.1 63 7
                have g54 : 0 ≤ h60_.1 63 8 ∧ h60_.1 63 8 ≤ 500 := i60_.1 63 8
                have g55 : 0 ≤ h60_.1 63 3 ∧ h60_.1 63 3 ≤ 500 := i60_.1 63 3
                have g56 : -2147483648 ≤ h60_.1 63 6 ∧ h60_.1 63 6 ≤ 2147483647 := i60_.1 63 6
                have g57 : -2147483648 ≤ h60_.1 63 9 ∧ h60_.1 63 9 ≤ 2147483647 := i60_.1 63 9
                have g58 : -2147483648 ≤ h60_.1 63 10 ∧ h60_.1 63 10 ≤ 2147483647 := i60_.1 63 10
                have g59 : h60_.1 63 3 = h.1 63 3 := f60_.1 63 3 (by decide)
                refine mm_iload_n C (mm_dec dk_X7_readNot 32 rfl) rfl ?_
                refine mm_iload_n C (mm_dec dk_X7_readNot 33 rfl) rfl ?_
                refine mm_icmp_ge (tgt := 77) C (mm_dec dk_X7_readNot 34 rfl) (by decide) (fun c62 => ?_) (fun c62 => ?_)
                · skip
                  refine mm_iconst C (mm_dec dk_X7_readNot 40 rfl) ⟨by decide, by decide⟩ ?_
                  exact mm_zret C T (mm_dec dk_X7_readNot 41 rfl) (by decide : 0 ≤ 0) (by decide : 0 ≤ 0) (by omega) ⟨_, rfl, ⟨⟨by omega, by omega⟩, i60_, f60_, by first | exact Or.inl ⟨rfl, w60_0, w60_1⟩ | exact Or.inr ⟨rfl, mm_f7_not w2_0 w48_0 (mm_or0 y50_0 (by omega))⟩ | exact Or.inr ⟨by omega, mm_f7_nots (by rw [show (6 : Int) = x2_2 by omega]; exact w2_0) (by have zz := mm_hdx tf2; omega) y44_0 y44_1⟩, by first | exact fun q => absurd q (by omega) | exact fun _ => (by have z := w60_2; rw [show x60_3 = x2_2 by have z9 := w60_2.2.1; omega] at z; exact mm_qJ_not z)⟩⟩
                · skip
                  refine mm_aload_n C (mm_dec dk_X7_readNot 35 rfl) rfl ?_
                  refine mm_ldc (z := 100010) C (mm_dec dk_X7_readNot 36 rfl) kc_X7_110 (by decide) ?_
                  refine mm_cVv (rest := []) C1 ev_X7_79 (mm_dec dk_X7_readNot 37 rfl) (c_X7_emit_q x.2.1 hl (d - 1) (by omega) h60_ i60_ 100010) rfl rfl (Nat.le_of_ble_eq_true rfl) ⟨by decide, by decide⟩ rfl (fun h68c hp68 => ?_) (fun _ _ q => q.elim)
                  obtain ⟨i68c, g68c, y68_0⟩ := hp68
                  have f68c : mm_fr [(63, 4), (63, 5), (63, 6), (63, 7), (63, 8), (63, 9), (63, 10)] [64] h h68c := mm_fr_tr f60_ g68c (by decide +kernel)
                  have q68c_61 : h68c.1 63 3 = h60_.1 63 3 := g68c.1 63 3 (by decide)
                  have q68c_62 : h68c.1 63 5 = h60_.1 63 5 := g68c.1 63 5 (by decide)
                  have q68c_63 : h68c.1 63 6 = h60_.1 63 6 := g68c.1 63 6 (by decide)
                  have q68c_64 : h68c.1 63 7 = h60_.1 63 7 := g68c.1 63 7 (by decide)
                  have q68c_65 : h68c.1 63 8 = h60_.1 63 8 := g68c.1 63 8 (by decide)
                  have q68c_66 : h68c.1 63 9 = h60_.1 63 9 := g68c.1 63 9 (by decide)
                  have q68c_67 : h68c.1 63 10 = h60_.1 63 10 := g68c.1 63 10 (by decide)
                  refine mm_iincL (ls2 := [mR 63, mU, mI x2_2, mI (x60_3 + 1)]) C (mm_dec dk_X7_readNot 38 rfl) rfl (by decide) ⟨by omega, by omega⟩ rfl ?_
                  refine mm_goto (tgt := 60) C (mm_dec dk_X7_readNot 39 rfl) (by decide) ?_
                  exact ih60 (x60_3 + 1) ⟨by omega, by omega⟩ h68c i68c f68c (by first | exact mm_q7_not w2_0 w48_0 (mm_or1 y50_0 (by omega)).1 | exact mm_q7_em w60_0 (mm_em_fr g68c (by decide))) (by first | exact (mm_or1 y50_0 (by omega)).2 | exact mm_nB_em w60_1 (mm_em_fr g68c (by decide))) (by first | exact mm_rJ_0 w2_0 w2_1 w48_0 (y50_1 (by omega)) | exact mm_rJ_s w60_2 (by omega) y68_0 (mm_em_c (mm_em_fr g68c (by decide))) (show 0 ≤ h60_.1 63 7 ∧ h60_.1 63 7 ≤ 500 from i60_.1 63 7).2) (by omega)
            refine mm_istore_nL (ls2 := [mR 63, mI p1, mI x2_2, mI 0]) C (mm_dec dk_X7_readNot 31 rfl) (by decide) rfl ?_
            refine mm_fgt 1 ?_
            exact J60 (((7 - 0) : Int) + 1).toNat 0 ⟨by omega, by omega⟩ h50c i50c f50c (by first | exact mm_q7_not w2_0 w48_0 (mm_or1 y50_0 (by omega)).1 | exact mm_q7_em w60_0 (mm_em_fr g68c (by decide))) (by first | exact (mm_or1 y50_0 (by omega)).2 | exact mm_nB_em w60_1 (mm_em_fr g68c (by decide))) (by first | exact mm_rJ_0 w2_0 w2_1 w48_0 (y50_1 (by omega)) | exact mm_rJ_s w60_2 (by omega) y68_0 (mm_em_c (mm_em_fr g68c (by decide))) (show 0 ≤ h60_.1 63 7 ∧ h60_.1 63 7 ≤ 500 from i60_.1 63 7).2) (by omega)
          · skip
            refine mm_iconst C (mm_dec dk_X7_readNot 28 rfl) ⟨by decide, by decide⟩ ?_
            exact mm_zret C T (mm_dec dk_X7_readNot 29 rfl) (by decide : 0 ≤ 0) (by decide : 0 ≤ 0) (by omega) ⟨_, rfl, ⟨⟨by omega, by omega⟩, i50c, f50c, by first | exact Or.inl ⟨rfl, w60_0, w60_1⟩ | exact Or.inr ⟨rfl, mm_f7_not w2_0 w48_0 (mm_or0 y50_0 (by omega))⟩ | exact Or.inr ⟨by omega, mm_f7_nots (by rw [show (6 : Int) = x2_2 by omega]; exact w2_0) (by have zz := mm_hdx tf2; omega) y44_0 y44_1⟩, by first | exact fun q => absurd q (by omega) | exact fun _ => (by have z := w60_2; rw [show x60_3 = x2_2 by have z9 := w60_2.2.1; omega] at z; exact mm_qJ_not z)⟩⟩
        refine mm_icmp_ne (tgt := 48) C (mm_dec dk_X7_readNot 15 rfl) (by decide) (fun c30 => ?_) (fun c30 => ?_)
        · skip
          exact J48 (by have zz := mm_hdx tf2; omega)
        · skip
          refine mm_aload_n C (mm_dec dk_X7_readNot 16 rfl) rfl ?_
          refine mm_geti C fl_X7_28 (mm_dec dk_X7_readNot 17 rfl) rfl rfl (Or.inl rfl) ?_
          refine mm_bipush C (mm_dec dk_X7_readNot 18 rfl) ⟨by decide, by decide⟩ ?_
          refine mm_icmp_ne (tgt := 48) C (mm_dec dk_X7_readNot 19 rfl) (by decide) (fun c39 => ?_) (fun c39 => ?_)
          · skip
            exact J48 (by have zz := mm_hdx tf2; omega)
          · skip
            refine mm_aload_n C (mm_dec dk_X7_readNot 20 rfl) rfl ?_
            refine mm_iconst C (mm_dec dk_X7_readNot 21 rfl) ⟨by decide, by decide⟩ ?_
            refine mm_cVi (rest := []) C1 ev_X7_65 (mm_dec dk_X7_readNot 22 rfl) (c_X7_refuse_q x.2.1 hl (d - 1) (by omega) h2_ i2_ 2) rfl rfl (Nat.le_of_ble_eq_true rfl) ⟨by decide, by decide⟩ rfl (fun r44 h44c hp44 => ?_) (fun _ _ q => q.elim)
            obtain ⟨b44, i44c, g44c, y44_0, y44_1⟩ := hp44
            have f44c : mm_fr [(63, 4), (63, 5), (63, 6), (63, 7), (63, 8), (63, 9), (63, 10)] [64] h h44c := mm_fr_tr f2_ g44c (by decide +kernel)
            have q44c_69 : h44c.1 63 3 = h2_.1 63 3 := g44c.1 63 3 (by decide)
            have q44c_70 : h44c.1 63 5 = h2_.1 63 5 := g44c.1 63 5 (by decide)
            have q44c_71 : h44c.1 63 6 = h2_.1 63 6 := g44c.1 63 6 (by decide)
            have q44c_72 : h44c.1 63 7 = h2_.1 63 7 := g44c.1 63 7 (by decide)
            have q44c_73 : h44c.1 63 8 = h2_.1 63 8 := g44c.1 63 8 (by decide)
            have g74 : -2147483648 ≤ (h44c.1 63 9) ∧ (h44c.1 63 9) ≤ 2147483647 := i44c.1 63 9
            have g75 : -2147483648 ≤ (h44c.1 63 10) ∧ (h44c.1 63 10) ≤ 2147483647 := i44c.1 63 10
            exact mm_zret C T (mm_dec dk_X7_readNot 23 rfl) (by decide : 0 ≤ 0) (by decide : 0 ≤ 0) (by omega) ⟨_, rfl, ⟨⟨by omega, by omega⟩, i44c, f44c, by first | exact Or.inl ⟨rfl, w60_0, w60_1⟩ | exact Or.inr ⟨rfl, mm_f7_not w2_0 w48_0 (mm_or0 y50_0 (by omega))⟩ | exact Or.inr ⟨by omega, mm_f7_nots (by rw [show (6 : Int) = x2_2 by omega]; exact w2_0) (by have zz := mm_hdx tf2; omega) y44_0 y44_1⟩, by first | exact fun q => absurd q (by omega) | exact fun _ => (by have z := w60_2; rw [show x60_3 = x2_2 by have z9 := w60_2.2.1; omega] at z; exact mm_qJ_not z)⟩⟩
      refine mm_icmp_ge (tgt := 27) C (mm_dec dk_X7_readNot 4 rfl) (by decide) (fun c5 => ?_) (fun c5 => ?_)
      · skip
        exact J27 (by have zz := mm_hdx tf2; omega)
      · skip
        refine mm_aload_n C (mm_dec dk_X7_readNot 5 rfl) rfl ?_
        refine mm_geti C fl_X7_28 (mm_dec dk_X7_readNot 6 rfl) rfl rfl (Or.inl rfl) ?_
        refine mm_bipush C (mm_dec dk_X7_readNot 7 rfl) ⟨by decide, by decide⟩ ?_
        refine mm_icmp_ne (tgt := 27) C (mm_dec dk_X7_readNot 8 rfl) (by decide) (fun c14 => ?_) (fun c14 => ?_)
        · skip
          exact J27 (by have zz := mm_hdx tf2; omega)
        · skip
          refine mm_iincL (ls2 := [mR 63, mI p1, mI (x2_2 + 1), mU]) C (mm_dec dk_X7_readNot 9 rfl) rfl (by decide) ⟨by omega, by omega⟩ rfl ?_
          refine mm_aload_n C (mm_dec dk_X7_readNot 10 rfl) rfl ?_
          refine mm_cVv (rest := []) C1 ev_X7_52 (mm_dec dk_X7_readNot 11 rfl) (c_X7_step_q x.2.1 hl (d - 1) (by omega) h2_ i2_ ) rfl rfl (Nat.le_of_ble_eq_true rfl) ⟨by decide, by decide⟩ rfl (fun h21c hp21 => ?_) (fun _ _ q => q.elim)
          obtain ⟨i21c, g21c, y21_0, y21_1, y21_2⟩ := hp21
          have f21c : mm_fr [(63, 4), (63, 5), (63, 6), (63, 7), (63, 8), (63, 9), (63, 10)] [64] h h21c := mm_fr_tr f2_ g21c (by decide +kernel)
          have q21c_77 : h21c.1 63 3 = h2_.1 63 3 := g21c.1 63 3 (by decide)
          have q21c_78 : h21c.1 63 9 = h2_.1 63 9 := g21c.1 63 9 (by decide)
          have q21c_79 : h21c.1 63 10 = h2_.1 63 10 := g21c.1 63 10 (by decide)
          have g80 : -2147483648 ≤ (h21c.1 63 5) ∧ (h21c.1 63 5) ≤ 2147483647 := i21c.1 63 5
          have g81 : 0 ≤ (h21c.1 63 7) ∧ (h21c.1 63 7) ≤ 500 := i21c.1 63 7
          have g82 : 0 ≤ (h21c.1 63 8) ∧ (h21c.1 63 8) ≤ 500 := i21c.1 63 8
          have g83 : -2147483648 ≤ (h21c.1 63 6) ∧ (h21c.1 63 6) ≤ 2147483647 := i21c.1 63 6
          refine mm_goto (tgt := 2) C (mm_dec dk_X7_readNot 12 rfl) (by decide) ?_
          exact ih2 (x2_2 + 1) ⟨by omega, by omega⟩ h21c i21c f21c (by first | exact mm_n7_0 t0 | exact mm_n7_s w2_0 (by have zz := mm_hdx tf2; omega) (by omega) (mm_st7_of w2_0.1.2.1 y21_1 y21_2 g21c (by decide))) (by first | exact mm_nJ_0 | exact mm_nJ_s w2_0 w2_1 (by have zz := mm_hdx tf2; omega) (by omega) (mm_st7_of w2_0.1.2.1 y21_1 y21_2 g21c (by decide)) (mm_ey_fr g21c (by decide))) (by omega)
  refine mm_istore_nL (ls2 := [mR 63, mI p1, mI 0, mU]) C (mm_dec dk_X7_readNot 1 rfl) (by decide) rfl ?_
  exact J2 (((6 - 0) : Int) + 1).toNat 0 ⟨by omega, by omega⟩ h i0 f0 (by first | exact mm_n7_0 t0 | exact mm_n7_s w2_0 (by have zz := mm_hdx tf2; omega) (by omega) (mm_st7_of w2_0.1.2.1 y21_1 y21_2 g21c (by decide))) (by first | exact mm_nJ_0 | exact mm_nJ_s w2_0 w2_1 (by have zz := mm_hdx tf2; omega) (by omega) (mm_st7_of w2_0.1.2.1 y21_1 y21_2 g21c (by decide)) (mm_ey_fr g21c (by decide))) (by omega)
set_option maxRecDepth 100000 in
set_option maxHeartbeats 4000000 in
theorem c_X7_readAnd_q1 (l : Launch) (hl : l.stackTraces = false) (d : Nat) (hd : 39 ≤ d) (h : mH) (i0 : mm_inv h) (p1 : Int) (bp1 : 1 ≤ p1 ∧ p1 ≤ 1) (t0 : mm_aX h) : mm_Met l d yX7_readAnd cX7_readAnd 3 (some .boolean) [mR 63, mI p1] h (mm_pi fun r h2 => (0 ≤ r ∧ r ≤ 1) ∧ mm_inv h2 ∧ mm_fr [(63, 4), (63, 5), (63, 6), (63, 7), (63, 8), (63, 9), (63, 10)] [64] h h2 ∧ ((r = 1 ∧ mm_q7 0 1 h h2 ∧ mm_nC h2) ∨ (r = 0 ∧ mm_f7 0 1 h h2)) ∧ (r = 1 → mm_qJ 0 2 25 1 h h2)) mm_nx 0 0 := by
  refine mm_ofW (ls := [mR 63, mI p1, mU]) hl (by decide) rfl (Nat.le_of_ble_eq_true rfl) ?_
  intro x hxl C T hnm htb
  subst hxl
  have C1 := mm_OK_le (d' := d - 1 + 1) (by omega) C
  have C8 := mm_OK_le (d' := d - 8 + 8) (by omega) C
  refine mm_rng (fun hr _ => ?_)
  have ap1 : -2147483648 ≤ p1 ∧ p1 < 2147483648 := mm_ok_at hr (i := 1) rfl
  have f0 : mm_fr [(63, 4), (63, 5), (63, 6), (63, 7), (63, 8), (63, 9), (63, 10)] [64] h h := mm_fr_rf
  have g1 : -2147483648 ≤ h.1 63 5 ∧ h.1 63 5 ≤ 2147483647 := i0.1 63 5
  have g2 : 0 ≤ h.1 63 7 ∧ h.1 63 7 ≤ 500 := i0.1 63 7
  have g3 : 0 ≤ h.1 63 8 ∧ h.1 63 8 ≤ 500 := i0.1 63 8
  have g4 : 0 ≤ h.1 63 3 ∧ h.1 63 3 ≤ 500 := i0.1 63 3
  have g5 : -2147483648 ≤ h.1 63 6 ∧ h.1 63 6 ≤ 2147483647 := i0.1 63 6
  have g6 : -2147483648 ≤ h.1 63 9 ∧ h.1 63 9 ≤ 2147483647 := i0.1 63 9
  have g7 : -2147483648 ≤ h.1 63 10 ∧ h.1 63 10 ≤ 2147483647 := i0.1 63 10
  refine mm_aload_n C (mm_dec dk_X7_readAnd 0 rfl) rfl ?_
  refine mm_iload_n C (mm_dec dk_X7_readAnd 1 rfl) rfl ?_
  refine mm_cVi (rest := []) C1 ev_X7_103 (mm_dec dk_X7_readAnd 2 rfl) (c_X7_readNot_q1 x.2.1 hl (d - 1) (by omega) h i0 p1 ⟨by omega, by omega⟩ (by exact t0)) rfl rfl (Nat.le_of_ble_eq_true rfl) ⟨by decide, by decide⟩ rfl (fun r2 h2c hp2 => ?_) (fun _ _ q => q.elim)
  obtain ⟨b2, i2c, g2c, y2_0, y2_1⟩ := hp2
  have f2c : mm_fr [(63, 4), (63, 5), (63, 6), (63, 7), (63, 8), (63, 9), (63, 10)] [64] h h2c := mm_fr_tr f0 g2c (by decide +kernel)
  have q2c_9 : h2c.1 63 3 = h.1 63 3 := g2c.1 63 3 (by decide)
  have g10 : -2147483648 ≤ (h2c.1 63 5) ∧ (h2c.1 63 5) ≤ 2147483647 := i2c.1 63 5
  have g11 : 0 ≤ (h2c.1 63 7) ∧ (h2c.1 63 7) ≤ 500 := i2c.1 63 7
  have g12 : 0 ≤ (h2c.1 63 8) ∧ (h2c.1 63 8) ≤ 500 := i2c.1 63 8
  have g13 : -2147483648 ≤ (h2c.1 63 6) ∧ (h2c.1 63 6) ≤ 2147483647 := i2c.1 63 6
  have g14 : -2147483648 ≤ (h2c.1 63 9) ∧ (h2c.1 63 9) ≤ 2147483647 := i2c.1 63 9
  have g15 : -2147483648 ≤ (h2c.1 63 10) ∧ (h2c.1 63 10) ≤ 2147483647 := i2c.1 63 10
  refine mm_if_ne (tgt := 10) C (mm_dec dk_X7_readAnd 3 rfl) (by decide) (fun c5 => ?_) (fun c5 => ?_)
  · skip
    refine mm_iconst C (mm_dec dk_X7_readAnd 6 rfl) ⟨by decide, by decide⟩ ?_
    have J12 : ∀ (n : Nat) (x12_2 : Int) (bx12_2 : 0 ≤ x12_2 ∧ x12_2 ≤ 500) (h12_ : mH) (i12_ : mm_inv h12_) (f12_ : mm_fr [(63, 4), (63, 5), (63, 6), (63, 7), (63, 8), (63, 9), (63, 10)] [64] h h12_) (w12_0 : mm_q7 0 1 h h12_) (w12_1 : x12_2 ≤ h12_.1 63 7) (w12_2 : mm_nB h12_) (w12_3 : mm_qJ 0 2 25 1 h h12_), (500 - x12_2 : Int) < n → mm_W x 0 0 12 [mR 63, mI p1, mI x12_2] [] h12_ := by
      intro n
      induction n with
      | zero =>
        intro x12_2 bx12_2 h12_ i12_ f12_ w12_0 w12_1 w12_2 w12_3 hm
        have g16 : -2147483648 ≤ h12_.1 63 5 ∧ h12_.1 63 5 ≤ 2147483647 := i12_.1 63 5
        have g17 : 0 ≤ h12_.1 63 7 ∧ h12_.1 63 7 ≤ 500 := i12_.1 63 7
        have g18 : 0 ≤ h12_.1 63 8 ∧ h12_.1 63 8 ≤ 500 := i12_.1 63 8
        have g19 : 0 ≤ h12_.1 63 3 ∧ h12_.1 63 3 ≤ 500 := i12_.1 63 3
        have g20 : -2147483648 ≤ h12_.1 63 6 ∧ h12_.1 63 6 ≤ 2147483647 := i12_.1 63 6
        have g21 : -2147483648 ≤ h12_.1 63 9 ∧ h12_.1 63 9 ≤ 2147483647 := i12_.1 63 9
        have g22 : -2147483648 ≤ h12_.1 63 10 ∧ h12_.1 63 10 ≤ 2147483647 := i12_.1 63 10
        exfalso; omega
      | succ n ih12 =>
        intro x12_2 bx12_2 h12_ i12_ f12_ w12_0 w12_1 w12_2 w12_3 hm12
        have g23 : -2147483648 ≤ h12_.1 63 5 ∧ h12_.1 63 5 ≤ 2147483647 := i12_.1 63 5
        have g24 : 0 ≤ h12_.1 63 7 ∧ h12_.1 63 7 ≤ 500 := i12_.1 63 7
        have g25 : 0 ≤ h12_.1 63 8 ∧ h12_.1 63 8 ≤ 500 := i12_.1 63 8
        have g26 : 0 ≤ h12_.1 63 3 ∧ h12_.1 63 3 ≤ 500 := i12_.1 63 3
        have g27 : -2147483648 ≤ h12_.1 63 6 ∧ h12_.1 63 6 ≤ 2147483647 := i12_.1 63 6
        have g28 : -2147483648 ≤ h12_.1 63 9 ∧ h12_.1 63 9 ≤ 2147483647 := i12_.1 63 9
        have g29 : -2147483648 ≤ h12_.1 63 10 ∧ h12_.1 63 10 ≤ 2147483647 := i12_.1 63 10
        have g30 : h12_.1 63 3 = h.1 63 3 := f12_.1 63 3 (by decide)
        have tf12 := mm_cX_h i12_ w12_0.1.2.1
        have tr12 := mm_cX_r i12_ w12_0.1.2.1
        refine mm_iload_n C (mm_dec dk_X7_readAnd 8 rfl) rfl ?_
        refine mm_sipush C (mm_dec dk_X7_readAnd 9 rfl) ⟨by decide, by decide⟩ ?_
        have J53 : ∀ (w53_0 : mm_nC h12_), mm_W x 0 0 53 [mU, mU, mU] [] h12_ := by
          intro w53_0
          have g31 : -2147483648 ≤ h12_.1 63 5 ∧ h12_.1 63 5 ≤ 2147483647 := i12_.1 63 5
          have g32 : 0 ≤ h12_.1 63 7 ∧ h12_.1 63 7 ≤ 500 := i12_.1 63 7
          have g33 : 0 ≤ h12_.1 63 8 ∧ h12_.1 63 8 ≤ 500 := i12_.1 63 8
          have g34 : 0 ≤ h12_.1 63 3 ∧ h12_.1 63 3 ≤ 500 := i12_.1 63 3
          have g35 : -2147483648 ≤ h12_.1 63 6 ∧ h12_.1 63 6 ≤ 2147483647 := i12_.1 63 6
          have g36 : -2147483648 ≤ h12_.1 63 9 ∧ h12_.1 63 9 ≤ 2147483647 := i12_.1 63 9
          have g37 : -2147483648 ≤ h12_.1 63 10 ∧ h12_.1 63 10 ≤ 2147483647 := i12_.1 63 10
          refine mm_iconst C (mm_dec dk_X7_readAnd 28 rfl) ⟨by decide, by decide⟩ ?_
          exact mm_zret C T (mm_dec dk_X7_readAnd 29 rfl) (by decide : 0 ≤ 0) (by decide : 0 ≤ 0) (by omega) ⟨_, rfl, ⟨⟨by omega, by omega⟩, i12_, f12_, by first | exact Or.inl ⟨rfl, w12_0, w53_0⟩ | exact Or.inr ⟨rfl, mm_or0 y2_0 (by omega)⟩ | exact Or.inr ⟨rfl, mm_f7_and w12_0 zc zs (mm_or0 y33_0 (by omega))⟩, by first | exact fun q => absurd q (by omega) | exact fun _ => w12_3⟩⟩
        refine mm_icmp_ge (tgt := 53) C (mm_dec dk_X7_readAnd 10 rfl) (by decide) (fun c16 => ?_) (fun c16 => ?_)
        · skip
          refine mm_fgt 0 ?_
          refine mm_fgt 1 ?_
          refine mm_fgt 2 ?_
          exact J53 (by (have z := w12_2; unfold mm_nB at z; unfold mm_nC; have zz := mm_hdx tf12; omega))
        · skip
          refine mm_aload_n C (mm_dec dk_X7_readAnd 11 rfl) rfl ?_
          refine mm_geti C fl_X7_28 (mm_dec dk_X7_readAnd 12 rfl) rfl rfl (Or.inl rfl) ?_
          refine mm_iconst C (mm_dec dk_X7_readAnd 13 rfl) ⟨by decide, by decide⟩ ?_
          refine mm_icmp_ne (tgt := 53) C (mm_dec dk_X7_readAnd 14 rfl) (by decide) (fun c24 => ?_) (fun c24 => ?_)
          · skip
            refine mm_fgt 0 ?_
            refine mm_fgt 1 ?_
            refine mm_fgt 2 ?_
            exact J53 (by (have z := w12_2; unfold mm_nB at z; unfold mm_nC; have zz := mm_hdx tf12; omega))
          · skip
            refine mm_aload_n C (mm_dec dk_X7_readAnd 15 rfl) rfl ?_
            refine mm_cVv (rest := []) C1 ev_X7_52 (mm_dec dk_X7_readAnd 16 rfl) (c_X7_step_q x.2.1 hl (d - 1) (by omega) h12_ i12_ ) rfl rfl (Nat.le_of_ble_eq_true rfl) ⟨by decide, by decide⟩ rfl (fun h28c hp28 => ?_) (fun _ _ q => q.elim)
            obtain ⟨i28c, g28c, y28_0, y28_1, y28_2⟩ := hp28
            have f28c : mm_fr [(63, 4), (63, 5), (63, 6), (63, 7), (63, 8), (63, 9), (63, 10)] [64] h h28c := mm_fr_tr f12_ g28c (by decide +kernel)
            have q28c_39 : h28c.1 63 3 = h12_.1 63 3 := g28c.1 63 3 (by decide)
            have q28c_40 : h28c.1 63 9 = h12_.1 63 9 := g28c.1 63 9 (by decide)
            have q28c_41 : h28c.1 63 10 = h12_.1 63 10 := g28c.1 63 10 (by decide)
            have g42 : -2147483648 ≤ (h28c.1 63 5) ∧ (h28c.1 63 5) ≤ 2147483647 := i28c.1 63 5
            have g43 : 0 ≤ (h28c.1 63 7) ∧ (h28c.1 63 7) ≤ 500 := i28c.1 63 7
            have g44 : 0 ≤ (h28c.1 63 8) ∧ (h28c.1 63 8) ≤ 500 := i28c.1 63 8
            have g45 : -2147483648 ≤ (h28c.1 63 6) ∧ (h28c.1 63 6) ≤ 2147483647 := i28c.1 63 6
            have zs := mm_st7_of w12_0.1.2.1 y28_1 y28_2 g28c (by decide)
            have zc : mm_cX h12_ = 4 ∨ mm_cX h12_ = 5 := by have zz := mm_hdx tf12; omega
            have zl := mm_st7_lt zs (by omega)
            refine mm_aload_n C (mm_dec dk_X7_readAnd 17 rfl) rfl ?_
            refine mm_iload_n C (mm_dec dk_X7_readAnd 18 rfl) rfl ?_
            refine mm_cVi (rest := []) C1 ev_X7_103 (mm_dec dk_X7_readAnd 19 rfl) (c_X7_readNot_q1 x.2.1 hl (d - 1) (by omega) h28c i28c p1 ⟨by omega, by omega⟩ (by exact y28_1)) rfl rfl (Nat.le_of_ble_eq_true rfl) ⟨by decide, by decide⟩ rfl (fun r33 h33c hp33 => ?_) (fun _ _ q => q.elim)
            obtain ⟨b33, i33c, g33c, y33_0, y33_1⟩ := hp33
            have f33c : mm_fr [(63, 4), (63, 5), (63, 6), (63, 7), (63, 8), (63, 9), (63, 10)] [64] h h33c := mm_fr_tr f28c g33c (by decide +kernel)
            have q33c_47 : h33c.1 63 3 = h28c.1 63 3 := g33c.1 63 3 (by decide)
            have g48 : -2147483648 ≤ (h33c.1 63 5) ∧ (h33c.1 63 5) ≤ 2147483647 := i33c.1 63 5
            have g49 : 0 ≤ (h33c.1 63 7) ∧ (h33c.1 63 7) ≤ 500 := i33c.1 63 7
            have g50 : 0 ≤ (h33c.1 63 8) ∧ (h33c.1 63 8) ≤ 500 := i33c.1 63 8
            have g51 : -2147483648 ≤ (h33c.1 63 6) ∧ (h33c.1 63 6) ≤ 2147483647 := i33c.1 63 6
            have g52 : -2147483648 ≤ (h33c.1 63 9) ∧ (h33c.1 63 9) ≤ 2147483647 := i33c.1 63 9
            have g53 : -2147483648 ≤ (h33c.1 63 10) ∧ (h33c.1 63 10) ≤ 2147483647 := i33c.1 63 10
            refine mm_if_ne (tgt := 41) C (mm_dec dk_X7_readAnd 20 rfl) (by decide) (fun c36 => ?_) (fun c36 => ?_)
            · skip
              refine mm_aload_n C (mm_dec dk_X7_readAnd 23 rfl) rfl ?_
              refine mm_ldc (z := 100012) C (mm_dec dk_X7_readAnd 24 rfl) kc_X7_106 (by decide) ?_
              refine mm_cVv (rest := []) C1 ev_X7_79 (mm_dec dk_X7_readAnd 25 rfl) (c_X7_emit_q x.2.1 hl (d - 1) (by omega) h33c i33c 100012) rfl rfl (Nat.le_of_ble_eq_true rfl) ⟨by decide, by decide⟩ rfl (fun h44c hp44 => ?_) (fun _ _ q => q.elim)
              obtain ⟨i44c, g44c, y44_0⟩ := hp44
              have f44c : mm_fr [(63, 4), (63, 5), (63, 6), (63, 7), (63, 8), (63, 9), (63, 10)] [64] h h44c := mm_fr_tr f33c g44c (by decide +kernel)
              have q44c_55 : h44c.1 63 3 = h33c.1 63 3 := g44c.1 63 3 (by decide)
              have q44c_56 : h44c.1 63 5 = h33c.1 63 5 := g44c.1 63 5 (by decide)
              have q44c_57 : h44c.1 63 6 = h33c.1 63 6 := g44c.1 63 6 (by decide)
              have q44c_58 : h44c.1 63 7 = h33c.1 63 7 := g44c.1 63 7 (by decide)
              have q44c_59 : h44c.1 63 8 = h33c.1 63 8 := g44c.1 63 8 (by decide)
              have q44c_60 : h44c.1 63 9 = h33c.1 63 9 := g44c.1 63 9 (by decide)
              have q44c_61 : h44c.1 63 10 = h33c.1 63 10 := g44c.1 63 10 (by decide)
              have zt := g44c.1 63 7 (by decide)
              have zu := (mm_or1 y33_0 (by omega)).1.2.1
              refine mm_iincL (ls2 := [mR 63, mI p1, mI (x12_2 + 1)]) C (mm_dec dk_X7_readAnd 26 rfl) rfl (by decide) ⟨by omega, by omega⟩ rfl ?_
              refine mm_goto (tgt := 12) C (mm_dec dk_X7_readAnd 27 rfl) (by decide) ?_
              exact ih12 (x12_2 + 1) ⟨by omega, by omega⟩ h44c i44c f44c (by first | exact (mm_or1 y2_0 (by omega)).1 | exact mm_q7_em (mm_q7_and w12_0 zc zs (mm_or1 y33_0 (by omega)).1) (mm_em_fr g44c (by decide))) (by omega) (by first | exact (mm_or1 y2_0 (by omega)).2 | exact mm_nB_em (mm_or1 y33_0 (by omega)).2 (mm_em_fr g44c (by decide))) (by first | exact mm_qJ_le (by decide) (by decide) (y2_1 (by omega)) | exact mm_qJ_and w12_0.1.1 w12_3 (mm_opA (by have zz := mm_hdx tf12; omega)) (by decide) zs (mm_ey_fr g28c (by decide)) (y33_1 (by omega)) y44_0 (mm_em_c (mm_em_fr g44c (by decide))) (show 0 ≤ h33c.1 63 7 ∧ h33c.1 63 7 ≤ 500 from i33c.1 63 7).2) (by omega)
            · skip
              refine mm_iconst C (mm_dec dk_X7_readAnd 21 rfl) ⟨by decide, by decide⟩ ?_
              exact mm_zret C T (mm_dec dk_X7_readAnd 22 rfl) (by decide : 0 ≤ 0) (by decide : 0 ≤ 0) (by omega) ⟨_, rfl, ⟨⟨by omega, by omega⟩, i33c, f33c, by first | exact Or.inl ⟨rfl, w12_0, w53_0⟩ | exact Or.inr ⟨rfl, mm_or0 y2_0 (by omega)⟩ | exact Or.inr ⟨rfl, mm_f7_and w12_0 zc zs (mm_or0 y33_0 (by omega))⟩, by first | exact fun q => absurd q (by omega) | exact fun _ => w12_3⟩⟩
    refine mm_istore_nL (ls2 := [mR 63, mI p1, mI 0]) C (mm_dec dk_X7_readAnd 7 rfl) (by decide) rfl ?_
    exact J12 (((500 - 0) : Int) + 1).toNat 0 ⟨by omega, by omega⟩ h2c i2c f2c (by first | exact (mm_or1 y2_0 (by omega)).1 | exact mm_q7_em (mm_q7_and w12_0 zc zs (mm_or1 y33_0 (by omega)).1) (mm_em_fr g44c (by decide))) (by omega) (by first | exact (mm_or1 y2_0 (by omega)).2 | exact mm_nB_em (mm_or1 y33_0 (by omega)).2 (mm_em_fr g44c (by decide))) (by first | exact mm_qJ_le (by decide) (by decide) (y2_1 (by omega)) | exact mm_qJ_and w12_0.1.1 w12_3 (mm_opA (by have zz := mm_hdx tf12; omega)) (by decide) zs (mm_ey_fr g28c (by decide)) (y33_1 (by omega)) y44_0 (mm_em_c (mm_em_fr g44c (by decide))) (show 0 ≤ h33c.1 63 7 ∧ h33c.1 63 7 ≤ 500 from i33c.1 63 7).2) (by omega)
  · skip
    refine mm_iconst C (mm_dec dk_X7_readAnd 4 rfl) ⟨by decide, by decide⟩ ?_
    exact mm_zret C T (mm_dec dk_X7_readAnd 5 rfl) (by decide : 0 ≤ 0) (by decide : 0 ≤ 0) (by omega) ⟨_, rfl, ⟨⟨by omega, by omega⟩, i2c, f2c, by first | exact Or.inl ⟨rfl, w12_0, w53_0⟩ | exact Or.inr ⟨rfl, mm_or0 y2_0 (by omega)⟩ | exact Or.inr ⟨rfl, mm_f7_and w12_0 zc zs (mm_or0 y33_0 (by omega))⟩, by first | exact fun q => absurd q (by omega) | exact fun _ => w12_3⟩⟩
set_option maxRecDepth 100000 in
set_option maxHeartbeats 4000000 in
theorem c_X7_readOr_q1 (l : Launch) (hl : l.stackTraces = false) (d : Nat) (hd : 40 ≤ d) (h : mH) (i0 : mm_inv h) (p1 : Int) (bp1 : 1 ≤ p1 ∧ p1 ≤ 1) (t0 : mm_aX h) : mm_Met l d yX7_readOr cX7_readOr 3 (some .boolean) [mR 63, mI p1] h (mm_pi fun r h2 => (0 ≤ r ∧ r ≤ 1) ∧ mm_inv h2 ∧ mm_fr [(63, 4), (63, 5), (63, 6), (63, 7), (63, 8), (63, 9), (63, 10)] [64] h h2 ∧ ((r = 1 ∧ mm_q7 0 1 h h2 ∧ mm_nD h2) ∨ (r = 0 ∧ mm_f7 0 1 h h2)) ∧ (r = 1 → mm_qJ 0 1 26 1 h h2)) mm_nx 0 0 := by
  refine mm_ofW (ls := [mR 63, mI p1, mU]) hl (by decide) rfl (Nat.le_of_ble_eq_true rfl) ?_
  intro x hxl C T hnm htb
  subst hxl
  have C1 := mm_OK_le (d' := d - 1 + 1) (by omega) C
  have C8 := mm_OK_le (d' := d - 8 + 8) (by omega) C
  refine mm_rng (fun hr _ => ?_)
  have ap1 : -2147483648 ≤ p1 ∧ p1 < 2147483648 := mm_ok_at hr (i := 1) rfl
  have f0 : mm_fr [(63, 4), (63, 5), (63, 6), (63, 7), (63, 8), (63, 9), (63, 10)] [64] h h := mm_fr_rf
  have g1 : -2147483648 ≤ h.1 63 5 ∧ h.1 63 5 ≤ 2147483647 := i0.1 63 5
  have g2 : 0 ≤ h.1 63 7 ∧ h.1 63 7 ≤ 500 := i0.1 63 7
  have g3 : 0 ≤ h.1 63 8 ∧ h.1 63 8 ≤ 500 := i0.1 63 8
  have g4 : 0 ≤ h.1 63 3 ∧ h.1 63 3 ≤ 500 := i0.1 63 3
  have g5 : -2147483648 ≤ h.1 63 6 ∧ h.1 63 6 ≤ 2147483647 := i0.1 63 6
  have g6 : -2147483648 ≤ h.1 63 9 ∧ h.1 63 9 ≤ 2147483647 := i0.1 63 9
  have g7 : -2147483648 ≤ h.1 63 10 ∧ h.1 63 10 ≤ 2147483647 := i0.1 63 10
  refine mm_iload_n C (mm_dec dk_X7_readOr 0 rfl) rfl ?_
  refine mm_bipush C (mm_dec dk_X7_readOr 1 rfl) ⟨by decide, by decide⟩ ?_
  refine mm_icmp_lt (tgt := 41) C (mm_dec dk_X7_readOr 2 rfl) (by decide) (fun c3 => ?_) (fun c3 => ?_)
  · skip
    refine mm_aload_n C (mm_dec dk_X7_readOr 21 rfl) rfl ?_
    refine mm_iload_n C (mm_dec dk_X7_readOr 22 rfl) rfl ?_
    refine mm_cVi (rest := []) C1 ev_X7_99 (mm_dec dk_X7_readOr 23 rfl) (c_X7_readAnd_q1 x.2.1 hl (d - 1) (by omega) h i0 p1 ⟨by omega, by omega⟩ (by exact t0)) rfl rfl (Nat.le_of_ble_eq_true rfl) ⟨by decide, by decide⟩ rfl (fun r43 h43c hp43 => ?_) (fun _ _ q => q.elim)
    obtain ⟨b43, i43c, g43c, y43_0, y43_1⟩ := hp43
    have f43c : mm_fr [(63, 4), (63, 5), (63, 6), (63, 7), (63, 8), (63, 9), (63, 10)] [64] h h43c := mm_fr_tr f0 g43c (by decide +kernel)
    have q43c_9 : h43c.1 63 3 = h.1 63 3 := g43c.1 63 3 (by decide)
    have g10 : -2147483648 ≤ (h43c.1 63 5) ∧ (h43c.1 63 5) ≤ 2147483647 := i43c.1 63 5
    have g11 : 0 ≤ (h43c.1 63 7) ∧ (h43c.1 63 7) ≤ 500 := i43c.1 63 7
    have g12 : 0 ≤ (h43c.1 63 8) ∧ (h43c.1 63 8) ≤ 500 := i43c.1 63 8
    have g13 : -2147483648 ≤ (h43c.1 63 6) ∧ (h43c.1 63 6) ≤ 2147483647 := i43c.1 63 6
    have g14 : -2147483648 ≤ (h43c.1 63 9) ∧ (h43c.1 63 9) ≤ 2147483647 := i43c.1 63 9
    have g15 : -2147483648 ≤ (h43c.1 63 10) ∧ (h43c.1 63 10) ≤ 2147483647 := i43c.1 63 10
    refine mm_if_ne (tgt := 51) C (mm_dec dk_X7_readOr 24 rfl) (by decide) (fun c46 => ?_) (fun c46 => ?_)
    · skip
      refine mm_iconst C (mm_dec dk_X7_readOr 27 rfl) ⟨by decide, by decide⟩ ?_
      have J53 : ∀ (n : Nat) (x53_2 : Int) (bx53_2 : 0 ≤ x53_2 ∧ x53_2 ≤ 500) (h53_ : mH) (i53_ : mm_inv h53_) (f53_ : mm_fr [(63, 4), (63, 5), (63, 6), (63, 7), (63, 8), (63, 9), (63, 10)] [64] h h53_) (w53_0 : mm_q7 0 1 h h53_) (w53_1 : x53_2 ≤ h53_.1 63 7) (w53_2 : mm_nC h53_) (w53_3 : mm_qJ 0 1 26 1 h h53_), (500 - x53_2 : Int) < n → mm_W x 0 0 53 [mR 63, mI p1, mI x53_2] [] h53_ := by
        intro n
        induction n with
        | zero =>
          intro x53_2 bx53_2 h53_ i53_ f53_ w53_0 w53_1 w53_2 w53_3 hm
          have g16 : -2147483648 ≤ h53_.1 63 5 ∧ h53_.1 63 5 ≤ 2147483647 := i53_.1 63 5
          have g17 : 0 ≤ h53_.1 63 7 ∧ h53_.1 63 7 ≤ 500 := i53_.1 63 7
          have g18 : 0 ≤ h53_.1 63 8 ∧ h53_.1 63 8 ≤ 500 := i53_.1 63 8
          have g19 : 0 ≤ h53_.1 63 3 ∧ h53_.1 63 3 ≤ 500 := i53_.1 63 3
          have g20 : -2147483648 ≤ h53_.1 63 6 ∧ h53_.1 63 6 ≤ 2147483647 := i53_.1 63 6
          have g21 : -2147483648 ≤ h53_.1 63 9 ∧ h53_.1 63 9 ≤ 2147483647 := i53_.1 63 9
          have g22 : -2147483648 ≤ h53_.1 63 10 ∧ h53_.1 63 10 ≤ 2147483647 := i53_.1 63 10
          exfalso; omega
        | succ n ih53 =>
          intro x53_2 bx53_2 h53_ i53_ f53_ w53_0 w53_1 w53_2 w53_3 hm53
          have g23 : -2147483648 ≤ h53_.1 63 5 ∧ h53_.1 63 5 ≤ 2147483647 := i53_.1 63 5
          have g24 : 0 ≤ h53_.1 63 7 ∧ h53_.1 63 7 ≤ 500 := i53_.1 63 7
          have g25 : 0 ≤ h53_.1 63 8 ∧ h53_.1 63 8 ≤ 500 := i53_.1 63 8
          have g26 : 0 ≤ h53_.1 63 3 ∧ h53_.1 63 3 ≤ 500 := i53_.1 63 3
          have g27 : -2147483648 ≤ h53_.1 63 6 ∧ h53_.1 63 6 ≤ 2147483647 := i53_.1 63 6
          have g28 : -2147483648 ≤ h53_.1 63 9 ∧ h53_.1 63 9 ≤ 2147483647 := i53_.1 63 9
          have g29 : -2147483648 ≤ h53_.1 63 10 ∧ h53_.1 63 10 ≤ 2147483647 := i53_.1 63 10
          have g30 : h53_.1 63 3 = h.1 63 3 := f53_.1 63 3 (by decide)
          have tf12 := mm_cX_h i53_ w53_0.1.2.1
          have tr12 := mm_cX_r i53_ w53_0.1.2.1
          refine mm_iload_n C (mm_dec dk_X7_readOr 29 rfl) rfl ?_
          refine mm_sipush C (mm_dec dk_X7_readOr 30 rfl) ⟨by decide, by decide⟩ ?_
          have J94 : ∀ (w94_0 : mm_nD h53_), mm_W x 0 0 94 [mU, mU, mU] [] h53_ := by
            intro w94_0
            have g31 : -2147483648 ≤ h53_.1 63 5 ∧ h53_.1 63 5 ≤ 2147483647 := i53_.1 63 5
            have g32 : 0 ≤ h53_.1 63 7 ∧ h53_.1 63 7 ≤ 500 := i53_.1 63 7
            have g33 : 0 ≤ h53_.1 63 8 ∧ h53_.1 63 8 ≤ 500 := i53_.1 63 8
            have g34 : 0 ≤ h53_.1 63 3 ∧ h53_.1 63 3 ≤ 500 := i53_.1 63 3
            have g35 : -2147483648 ≤ h53_.1 63 6 ∧ h53_.1 63 6 ≤ 2147483647 := i53_.1 63 6
            have g36 : -2147483648 ≤ h53_.1 63 9 ∧ h53_.1 63 9 ≤ 2147483647 := i53_.1 63 9
            have g37 : -2147483648 ≤ h53_.1 63 10 ∧ h53_.1 63 10 ≤ 2147483647 := i53_.1 63 10
            refine mm_iconst C (mm_dec dk_X7_readOr 49 rfl) ⟨by decide, by decide⟩ ?_
            exact mm_zret C T (mm_dec dk_X7_readOr 50 rfl) (by decide : 0 ≤ 0) (by decide : 0 ≤ 0) (by omega) ⟨_, rfl, ⟨⟨by omega, by omega⟩, i53_, f53_, by first | exact Or.inl ⟨rfl, w53_0, w94_0⟩ | exact Or.inr ⟨rfl, mm_or0 y43_0 (by omega)⟩ | exact Or.inr ⟨rfl, mm_f7_and w53_0 zc zs (mm_or0 y74_0 (by omega))⟩, by first | exact fun q => absurd q (by omega) | exact fun _ => w53_3⟩⟩
          refine mm_icmp_ge (tgt := 94) C (mm_dec dk_X7_readOr 31 rfl) (by decide) (fun c57 => ?_) (fun c57 => ?_)
          · skip
            refine mm_fgt 0 ?_
            refine mm_fgt 1 ?_
            refine mm_fgt 2 ?_
            exact J94 (by (have z := w53_2; unfold mm_nC at z; unfold mm_nD; have zz := mm_hdx tf12; omega))
          · skip
            refine mm_aload_n C (mm_dec dk_X7_readOr 32 rfl) rfl ?_
            refine mm_geti C fl_X7_28 (mm_dec dk_X7_readOr 33 rfl) rfl rfl (Or.inl rfl) ?_
            refine mm_iconst C (mm_dec dk_X7_readOr 34 rfl) ⟨by decide, by decide⟩ ?_
            refine mm_icmp_ne (tgt := 94) C (mm_dec dk_X7_readOr 35 rfl) (by decide) (fun c65 => ?_) (fun c65 => ?_)
            · skip
              refine mm_fgt 0 ?_
              refine mm_fgt 1 ?_
              refine mm_fgt 2 ?_
              exact J94 (by (have z := w53_2; unfold mm_nC at z; unfold mm_nD; have zz := mm_hdx tf12; omega))
            · skip
              refine mm_aload_n C (mm_dec dk_X7_readOr 36 rfl) rfl ?_
              refine mm_cVv (rest := []) C1 ev_X7_52 (mm_dec dk_X7_readOr 37 rfl) (c_X7_step_q x.2.1 hl (d - 1) (by omega) h53_ i53_ ) rfl rfl (Nat.le_of_ble_eq_true rfl) ⟨by decide, by decide⟩ rfl (fun h69c hp69 => ?_) (fun _ _ q => q.elim)
              obtain ⟨i69c, g69c, y69_0, y69_1, y69_2⟩ := hp69
              have f69c : mm_fr [(63, 4), (63, 5), (63, 6), (63, 7), (63, 8), (63, 9), (63, 10)] [64] h h69c := mm_fr_tr f53_ g69c (by decide +kernel)
              have q69c_39 : h69c.1 63 3 = h53_.1 63 3 := g69c.1 63 3 (by decide)
              have q69c_40 : h69c.1 63 9 = h53_.1 63 9 := g69c.1 63 9 (by decide)
              have q69c_41 : h69c.1 63 10 = h53_.1 63 10 := g69c.1 63 10 (by decide)
              have g42 : -2147483648 ≤ (h69c.1 63 5) ∧ (h69c.1 63 5) ≤ 2147483647 := i69c.1 63 5
              have g43 : 0 ≤ (h69c.1 63 7) ∧ (h69c.1 63 7) ≤ 500 := i69c.1 63 7
              have g44 : 0 ≤ (h69c.1 63 8) ∧ (h69c.1 63 8) ≤ 500 := i69c.1 63 8
              have g45 : -2147483648 ≤ (h69c.1 63 6) ∧ (h69c.1 63 6) ≤ 2147483647 := i69c.1 63 6
              have zs := mm_st7_of w53_0.1.2.1 y69_1 y69_2 g69c (by decide)
              have zc : mm_cX h53_ = 4 ∨ mm_cX h53_ = 5 := by have zz := mm_hdx tf12; omega
              have zl := mm_st7_lt zs (by omega)
              refine mm_aload_n C (mm_dec dk_X7_readOr 38 rfl) rfl ?_
              refine mm_iload_n C (mm_dec dk_X7_readOr 39 rfl) rfl ?_
              refine mm_cVi (rest := []) C1 ev_X7_99 (mm_dec dk_X7_readOr 40 rfl) (c_X7_readAnd_q1 x.2.1 hl (d - 1) (by omega) h69c i69c p1 ⟨by omega, by omega⟩ (by exact y69_1)) rfl rfl (Nat.le_of_ble_eq_true rfl) ⟨by decide, by decide⟩ rfl (fun r74 h74c hp74 => ?_) (fun _ _ q => q.elim)
              obtain ⟨b74, i74c, g74c, y74_0, y74_1⟩ := hp74
              have f74c : mm_fr [(63, 4), (63, 5), (63, 6), (63, 7), (63, 8), (63, 9), (63, 10)] [64] h h74c := mm_fr_tr f69c g74c (by decide +kernel)
              have q74c_47 : h74c.1 63 3 = h69c.1 63 3 := g74c.1 63 3 (by decide)
              have g48 : -2147483648 ≤ (h74c.1 63 5) ∧ (h74c.1 63 5) ≤ 2147483647 := i74c.1 63 5
              have g49 : 0 ≤ (h74c.1 63 7) ∧ (h74c.1 63 7) ≤ 500 := i74c.1 63 7
              have g50 : 0 ≤ (h74c.1 63 8) ∧ (h74c.1 63 8) ≤ 500 := i74c.1 63 8
              have g51 : -2147483648 ≤ (h74c.1 63 6) ∧ (h74c.1 63 6) ≤ 2147483647 := i74c.1 63 6
              have g52 : -2147483648 ≤ (h74c.1 63 9) ∧ (h74c.1 63 9) ≤ 2147483647 := i74c.1 63 9
              have g53 : -2147483648 ≤ (h74c.1 63 10) ∧ (h74c.1 63 10) ≤ 2147483647 := i74c.1 63 10
              refine mm_if_ne (tgt := 82) C (mm_dec dk_X7_readOr 41 rfl) (by decide) (fun c77 => ?_) (fun c77 => ?_)
              · skip
                refine mm_aload_n C (mm_dec dk_X7_readOr 44 rfl) rfl ?_
                refine mm_ldc (z := 100011) C (mm_dec dk_X7_readOr 45 rfl) kc_X7_102 (by decide) ?_
                refine mm_cVv (rest := []) C1 ev_X7_79 (mm_dec dk_X7_readOr 46 rfl) (c_X7_emit_q x.2.1 hl (d - 1) (by omega) h74c i74c 100011) rfl rfl (Nat.le_of_ble_eq_true rfl) ⟨by decide, by decide⟩ rfl (fun h85c hp85 => ?_) (fun _ _ q => q.elim)
                obtain ⟨i85c, g85c, y85_0⟩ := hp85
                have f85c : mm_fr [(63, 4), (63, 5), (63, 6), (63, 7), (63, 8), (63, 9), (63, 10)] [64] h h85c := mm_fr_tr f74c g85c (by decide +kernel)
                have q85c_55 : h85c.1 63 3 = h74c.1 63 3 := g85c.1 63 3 (by decide)
                have q85c_56 : h85c.1 63 5 = h74c.1 63 5 := g85c.1 63 5 (by decide)
                have q85c_57 : h85c.1 63 6 = h74c.1 63 6 := g85c.1 63 6 (by decide)
                have q85c_58 : h85c.1 63 7 = h74c.1 63 7 := g85c.1 63 7 (by decide)
                have q85c_59 : h85c.1 63 8 = h74c.1 63 8 := g85c.1 63 8 (by decide)
                have q85c_60 : h85c.1 63 9 = h74c.1 63 9 := g85c.1 63 9 (by decide)
                have q85c_61 : h85c.1 63 10 = h74c.1 63 10 := g85c.1 63 10 (by decide)
                have zt := g85c.1 63 7 (by decide)
                have zu := (mm_or1 y74_0 (by omega)).1.2.1
                refine mm_iincL (ls2 := [mR 63, mI p1, mI (x53_2 + 1)]) C (mm_dec dk_X7_readOr 47 rfl) rfl (by decide) ⟨by omega, by omega⟩ rfl ?_
                refine mm_goto (tgt := 53) C (mm_dec dk_X7_readOr 48 rfl) (by decide) ?_
                exact ih53 (x53_2 + 1) ⟨by omega, by omega⟩ h85c i85c f85c (by first | exact (mm_or1 y43_0 (by omega)).1 | exact mm_q7_em (mm_q7_and w53_0 zc zs (mm_or1 y74_0 (by omega)).1) (mm_em_fr g85c (by decide))) (by omega) (by first | exact (mm_or1 y43_0 (by omega)).2 | exact mm_nC_em (mm_or1 y74_0 (by omega)).2 (mm_em_fr g85c (by decide))) (by first | exact mm_qJ_le (by decide) (by decide) (y43_1 (by omega)) | exact mm_qJ_and w53_0.1.1 w53_3 (mm_opO (by have zz := mm_hdx tf12; omega)) (by decide) zs (mm_ey_fr g69c (by decide)) (y74_1 (by omega)) y85_0 (mm_em_c (mm_em_fr g85c (by decide))) (show 0 ≤ h74c.1 63 7 ∧ h74c.1 63 7 ≤ 500 from i74c.1 63 7).2) (by omega)
              · skip
                refine mm_iconst C (mm_dec dk_X7_readOr 42 rfl) ⟨by decide, by decide⟩ ?_
                exact mm_zret C T (mm_dec dk_X7_readOr 43 rfl) (by decide : 0 ≤ 0) (by decide : 0 ≤ 0) (by omega) ⟨_, rfl, ⟨⟨by omega, by omega⟩, i74c, f74c, by first | exact Or.inl ⟨rfl, w53_0, w94_0⟩ | exact Or.inr ⟨rfl, mm_or0 y43_0 (by omega)⟩ | exact Or.inr ⟨rfl, mm_f7_and w53_0 zc zs (mm_or0 y74_0 (by omega))⟩, by first | exact fun q => absurd q (by omega) | exact fun _ => w53_3⟩⟩
      refine mm_istore_nL (ls2 := [mR 63, mI p1, mI 0]) C (mm_dec dk_X7_readOr 28 rfl) (by decide) rfl ?_
      exact J53 (((500 - 0) : Int) + 1).toNat 0 ⟨by omega, by omega⟩ h43c i43c f43c (by first | exact (mm_or1 y43_0 (by omega)).1 | exact mm_q7_em (mm_q7_and w53_0 zc zs (mm_or1 y74_0 (by omega)).1) (mm_em_fr g85c (by decide))) (by omega) (by first | exact (mm_or1 y43_0 (by omega)).2 | exact mm_nC_em (mm_or1 y74_0 (by omega)).2 (mm_em_fr g85c (by decide))) (by first | exact mm_qJ_le (by decide) (by decide) (y43_1 (by omega)) | exact mm_qJ_and w53_0.1.1 w53_3 (mm_opO (by have zz := mm_hdx tf12; omega)) (by decide) zs (mm_ey_fr g69c (by decide)) (y74_1 (by omega)) y85_0 (mm_em_c (mm_em_fr g85c (by decide))) (show 0 ≤ h74c.1 63 7 ∧ h74c.1 63 7 ≤ 500 from i74c.1 63 7).2) (by omega)
    · skip
      refine mm_iconst C (mm_dec dk_X7_readOr 25 rfl) ⟨by decide, by decide⟩ ?_
      exact mm_zret C T (mm_dec dk_X7_readOr 26 rfl) (by decide : 0 ≤ 0) (by decide : 0 ≤ 0) (by omega) ⟨_, rfl, ⟨⟨by omega, by omega⟩, i43c, f43c, by first | exact Or.inl ⟨rfl, w53_0, w94_0⟩ | exact Or.inr ⟨rfl, mm_or0 y43_0 (by omega)⟩ | exact Or.inr ⟨rfl, mm_f7_and w53_0 zc zs (mm_or0 y74_0 (by omega))⟩, by first | exact fun q => absurd q (by omega) | exact fun _ => w53_3⟩⟩
  · skip
    exfalso; omega
