set_option maxRecDepth 100000 in
set_option maxHeartbeats 4000000 in
theorem c_X7_readOr_k6 (l : Launch) (hl : l.stackTraces = false) (d : Nat) (hd : 1 ≤ d) (h : mH) (i0 : mm_inv h) (p1 : Int) (bp1 : 6 ≤ p1 ∧ p1 ≤ 6) (t0 : (h.1 63 5 = 0 ∨ h.1 63 7 ≤ 499)) : mm_Met l d yX7_readOr cX7_readOr 3 (some .boolean) [mR 63, mI p1] h (mm_pi fun r h2 => (0 ≤ r ∧ r ≤ 0) ∧ mm_inv h2 ∧ mm_fr [(63, 9), (63, 10)] [] h h2 ∧ (h2.1 63 5 = 0 ∨ h2.1 63 7 ≤ 499)) mm_nx 0 0 := by
  refine mm_ofW (ls := [mR 63, mI p1, mU]) hl (by decide) rfl (Nat.le_of_ble_eq_true rfl) ?_
  intro x hxl C T hnm htb
  subst hxl
  have C1 := mm_OK_le (d' := d - 1 + 1) (by omega) C
  refine mm_rng (fun hr _ => ?_)
  have ap1 : -2147483648 ≤ p1 ∧ p1 < 2147483648 := mm_ok_at hr (i := 1) rfl
  have f0 : mm_fr [(63, 9), (63, 10)] [] h h := mm_fr_rf
  have g1 : -2147483648 ≤ h.1 63 5 ∧ h.1 63 5 ≤ 2147483647 := i0.1 63 5
  have g2 : 0 ≤ h.1 63 7 ∧ h.1 63 7 ≤ 500 := i0.1 63 7
  refine mm_iload_n C (mm_dec dk_X7_readOr 0 rfl) rfl ?_
  refine mm_bipush C (mm_dec dk_X7_readOr 1 rfl) ⟨by decide, by decide⟩ ?_
  refine mm_icmp_lt (tgt := 41) C (mm_dec dk_X7_readOr 2 rfl) (by decide) (fun c3 => ?_) (fun c3 => ?_)
  · skip
    exfalso; omega
  · skip
    refine mm_aload_n C (mm_dec dk_X7_readOr 3 rfl) rfl ?_
    refine mm_aload_n C (mm_dec dk_X7_readOr 4 rfl) rfl ?_
    refine mm_geti C fl_X7_25 (mm_dec dk_X7_readOr 5 rfl) rfl rfl (Or.inl rfl) ?_
    refine mm_iconst C (mm_dec dk_X7_readOr 6 rfl) ⟨by decide, by decide⟩ ?_
    have J37 : ∀ (s37_1 : Int) (bs37_1 : 1 ≤ s37_1 ∧ s37_1 ≤ 2) (vs37_1 : ((h.1 63 5) ≠ 2 ∧ (h.1 63 5) ≠ 3 ∧ s37_1 = 1) ∨ (s37_1 = 2)), mm_W x 0 0 37 [mU, mU, mU] [mI s37_1, mR 63] h := by
      intro s37_1 bs37_1 vs37_1
      have g3 : -2147483648 ≤ h.1 63 5 ∧ h.1 63 5 ≤ 2147483647 := i0.1 63 5
      have g4 : 0 ≤ h.1 63 7 ∧ h.1 63 7 ≤ 500 := i0.1 63 7
      refine mm_cVi (rest := []) C1 ev_X7_65 (mm_dec dk_X7_readOr 19 rfl) (c_X7_refuse x.2.1 hl (d - 1) (by omega) h i0 s37_1) rfl rfl (Nat.le_of_ble_eq_true rfl) ⟨by decide, by decide⟩ rfl (fun r37 h37c hp37 => ?_) (fun _ _ q => q.elim)
      obtain ⟨b37, i37c, g37c⟩ := hp37
      have f37c : mm_fr [(63, 9), (63, 10)] [] h h37c := mm_fr_tr f0 g37c (by decide +kernel)
      have q37c_6 : h37c.1 63 5 = h.1 63 5 := g37c.1 63 5 (by decide)
      have q37c_7 : h37c.1 63 7 = h.1 63 7 := g37c.1 63 7 (by decide)
      exact mm_zret C T (mm_dec dk_X7_readOr 20 rfl) (by decide : 0 ≤ 0) (by decide : 0 ≤ 0) (by omega) ⟨_, rfl, ⟨⟨by omega, by omega⟩, i37c, f37c, by omega⟩⟩
    have J32 : mm_W x 0 0 32 [mU, mU, mU] [mR 63] h := by
      have g8 : -2147483648 ≤ h.1 63 5 ∧ h.1 63 5 ≤ 2147483647 := i0.1 63 5
      have g9 : 0 ≤ h.1 63 7 ∧ h.1 63 7 ≤ 500 := i0.1 63 7
      refine mm_iconst C (mm_dec dk_X7_readOr 16 rfl) ⟨by decide, by decide⟩ ?_
      refine mm_goto (tgt := 37) C (mm_dec dk_X7_readOr 17 rfl) (by decide) ?_
      exact J37 2 ⟨by omega, by omega⟩ (Or.inr (rfl))
    refine mm_icmp_eq (tgt := 32) C (mm_dec dk_X7_readOr 7 rfl) (by decide) (fun c12 => ?_) (fun c12 => ?_)
    · skip
      refine mm_fgt 0 ?_
      refine mm_fgt 1 ?_
      exact J32
    · skip
      refine mm_aload_n C (mm_dec dk_X7_readOr 8 rfl) rfl ?_
      refine mm_geti C fl_X7_25 (mm_dec dk_X7_readOr 9 rfl) rfl rfl (Or.inl rfl) ?_
      refine mm_iconst C (mm_dec dk_X7_readOr 10 rfl) ⟨by decide, by decide⟩ ?_
      refine mm_icmp_eq (tgt := 32) C (mm_dec dk_X7_readOr 11 rfl) (by decide) (fun c20 => ?_) (fun c20 => ?_)
      · skip
        refine mm_fgt 0 ?_
        refine mm_fgt 1 ?_
        exact J32
      · skip
        refine mm_aload_n C (mm_dec dk_X7_readOr 12 rfl) rfl ?_
        refine mm_bipush C (mm_dec dk_X7_readOr 13 rfl) ⟨by decide, by decide⟩ ?_
        refine mm_cVi (rest := [mR 63]) C1 ev_X7_96 (mm_dec dk_X7_readOr 14 rfl) (c_X7_isSign x.2.1 hl (d - 1) (by omega) h i0 40 (by omega)) rfl rfl (Nat.le_of_ble_eq_true rfl) ⟨by decide, by decide⟩ rfl (fun r26 h26c hp26 => ?_) (fun _ _ q => q.elim)
        obtain ⟨z26, y26⟩ := hp26
        rw [z26]
        have g11 : -2147483648 ≤ (h.2.1 62 (h.1 63 7)) ∧ (h.2.1 62 (h.1 63 7)) ≤ 2147483647 := i0.2.1 62 (h.1 63 7)
        refine mm_if_eq (tgt := 36) C (mm_dec dk_X7_readOr 15 rfl) (by decide) (fun c29 => ?_) (fun c29 => ?_)
        · skip
          refine mm_iconst C (mm_dec dk_X7_readOr 18 rfl) ⟨by decide, by decide⟩ ?_
          refine mm_fgt 0 ?_
          refine mm_fgt 1 ?_
          exact J37 1 ⟨by omega, by omega⟩ (Or.inl ⟨by omega, by omega, rfl⟩)
        · skip
          refine mm_fgt 0 ?_
          refine mm_fgt 1 ?_
          exact J32
set_option maxRecDepth 100000 in
set_option maxHeartbeats 4000000 in
theorem c_X7_readPart_k5 (l : Launch) (hl : l.stackTraces = false) (d : Nat) (hd : 6 ≤ d) (h : mH) (i0 : mm_inv h) (p1 : Int) (bp1 : 5 ≤ p1 ∧ p1 ≤ 5) (t0 : (h.1 63 5 = 0 ∨ h.1 63 7 ≤ 499)) : mm_Met l d yX7_readPart cX7_readPart 2 (some .boolean) [mR 63, mI p1] h (mm_pi fun r h2 => (0 ≤ r ∧ r ≤ 1) ∧ mm_inv h2 ∧ mm_fr [(63, 4), (63, 5), (63, 6), (63, 7), (63, 8), (63, 9), (63, 10)] [64] h h2 ∧ (h2.1 63 5 = 0 ∨ h2.1 63 7 ≤ 499)) mm_nx 0 0 := by
  refine mm_ofW (ls := [mR 63, mI p1]) hl (by decide) rfl (Nat.le_of_ble_eq_true rfl) ?_
  intro x hxl C T hnm htb
  subst hxl
  have C1 := mm_OK_le (d' := d - 1 + 1) (by omega) C
  refine mm_rng (fun hr _ => ?_)
  have ap1 : -2147483648 ≤ p1 ∧ p1 < 2147483648 := mm_ok_at hr (i := 1) rfl
  have f0 : mm_fr [(63, 4), (63, 5), (63, 6), (63, 7), (63, 8), (63, 9), (63, 10)] [64] h h := mm_fr_rf
  have g1 : -2147483648 ≤ h.1 63 5 ∧ h.1 63 5 ≤ 2147483647 := i0.1 63 5
  have g2 : 0 ≤ h.1 63 7 ∧ h.1 63 7 ≤ 500 := i0.1 63 7
  refine mm_aload_n C (mm_dec dk_X7_readPart 0 rfl) rfl ?_
  refine mm_bipush C (mm_dec dk_X7_readPart 1 rfl) ⟨by decide, by decide⟩ ?_
  refine mm_cVi (rest := []) C1 ev_X7_96 (mm_dec dk_X7_readPart 2 rfl) (c_X7_isSign x.2.1 hl (d - 1) (by omega) h i0 40 (by omega)) rfl rfl (Nat.le_of_ble_eq_true rfl) ⟨by decide, by decide⟩ rfl (fun r3 h3c hp3 => ?_) (fun _ _ q => q.elim)
  obtain ⟨z3, y3⟩ := hp3
  rw [z3]
  have g4 : -2147483648 ≤ (h.2.1 62 (h.1 63 7)) ∧ (h.2.1 62 (h.1 63 7)) ≤ 2147483647 := i0.2.1 62 (h.1 63 7)
  refine mm_if_eq (tgt := 38) C (mm_dec dk_X7_readPart 3 rfl) (by decide) (fun c6 => ?_) (fun c6 => ?_)
  · skip
    refine mm_aload_n C (mm_dec dk_X7_readPart 20 rfl) rfl ?_
    refine mm_geti C fl_X7_25 (mm_dec dk_X7_readPart 21 rfl) rfl rfl (Or.inl rfl) ?_
    refine mm_iconst C (mm_dec dk_X7_readPart 22 rfl) ⟨by decide, by decide⟩ ?_
    have J117 : ∀ (h117_ : mH) (i117_ : mm_inv h117_) (f117_ : mm_fr [(63, 4), (63, 5), (63, 6), (63, 7), (63, 8), (63, 9), (63, 10)] [64] h h117_) (w117_0 : (h117_.1 63 5 = 0 ∨ h117_.1 63 7 ≤ 499)), mm_W x 0 0 117 [mR 63, mU] [] h117_ := by
      intro h117_ i117_ f117_ w117_0
      have g5 : -2147483648 ≤ h117_.1 63 5 ∧ h117_.1 63 5 ≤ 2147483647 := i117_.1 63 5
      have g6 : 0 ≤ h117_.1 63 7 ∧ h117_.1 63 7 ≤ 500 := i117_.1 63 7
      refine mm_aload_n C (mm_dec dk_X7_readPart 61 rfl) rfl ?_
      refine mm_cVv (rest := []) C1 ev_X7_52 (mm_dec dk_X7_readPart 62 rfl) (c_X7_step x.2.1 hl (d - 1) (by omega) h117_ i117_ ) rfl rfl (Nat.le_of_ble_eq_true rfl) ⟨by decide, by decide⟩ rfl (fun h118c hp118 => ?_) (fun _ _ q => q.elim)
      obtain ⟨i118c, g118c, y118_0⟩ := hp118
      have f118c : mm_fr [(63, 4), (63, 5), (63, 6), (63, 7), (63, 8), (63, 9), (63, 10)] [64] h h118c := mm_fr_tr f117_ g118c (by decide +kernel)
      have g8 : -2147483648 ≤ (h118c.1 63 5) ∧ (h118c.1 63 5) ≤ 2147483647 := i118c.1 63 5
      have g9 : 0 ≤ (h118c.1 63 7) ∧ (h118c.1 63 7) ≤ 500 := i118c.1 63 7
      refine mm_iconst C (mm_dec dk_X7_readPart 63 rfl) ⟨by decide, by decide⟩ ?_
      exact mm_zret C T (mm_dec dk_X7_readPart 64 rfl) (by decide : 0 ≤ 0) (by decide : 0 ≤ 0) (by omega) ⟨_, rfl, ⟨⟨by omega, by omega⟩, i118c, f118c, by omega⟩⟩
    refine mm_icmp_ne (tgt := 100) C (mm_dec dk_X7_readPart 23 rfl) (by decide) (fun c43 => ?_) (fun c43 => ?_)
    · skip
      refine mm_aload_n C (mm_dec dk_X7_readPart 52 rfl) rfl ?_
      refine mm_cVi (rest := []) C1 ev_X7_89 (mm_dec dk_X7_readPart 53 rfl) (c_X7_isNumber x.2.1 hl (d - 1) (by omega) h i0 ) rfl rfl (Nat.le_of_ble_eq_true rfl) ⟨by decide, by decide⟩ rfl (fun r101 h101c hp101 => ?_) (fun _ _ q => q.elim)
      obtain ⟨b101, i101c, g101c⟩ := hp101
      have f101c : mm_fr [(63, 4), (63, 5), (63, 6), (63, 7), (63, 8), (63, 9), (63, 10)] [64] h h101c := mm_fr_tr f0 g101c (by decide +kernel)
      have q101c_11 : h101c.1 63 5 = h.1 63 5 := g101c.1 63 5 (by decide)
      have q101c_12 : h101c.1 63 7 = h.1 63 7 := g101c.1 63 7 (by decide)
      refine mm_if_ne (tgt := 109) C (mm_dec dk_X7_readPart 54 rfl) (by decide) (fun c104 => ?_) (fun c104 => ?_)
      · skip
        refine mm_aload_n C (mm_dec dk_X7_readPart 57 rfl) rfl ?_
        refine mm_aload_n C (mm_dec dk_X7_readPart 58 rfl) rfl ?_
        refine mm_cVi (rest := [mR 63]) C1 ev_X7_92 (mm_dec dk_X7_readPart 59 rfl) (c_X7_numberOfToken x.2.1 hl (d - 1) (by omega) h101c i101c ) rfl rfl (Nat.le_of_ble_eq_true rfl) ⟨by decide, by decide⟩ rfl (fun r111 h111c hp111 => ?_) (fun _ _ q => q.elim)
        obtain ⟨b111, z111⟩ := hp111
        rw [z111]
        refine mm_cVv (rest := []) C1 ev_X7_79 (mm_dec dk_X7_readPart 60 rfl) (c_X7_emit x.2.1 hl (d - 1) (by omega) h101c i101c r111) rfl rfl (Nat.le_of_ble_eq_true rfl) ⟨by decide, by decide⟩ rfl (fun h114c hp114 => ?_) (fun _ _ q => q.elim)
        obtain ⟨i114c, g114c⟩ := hp114
        have f114c : mm_fr [(63, 4), (63, 5), (63, 6), (63, 7), (63, 8), (63, 9), (63, 10)] [64] h h114c := mm_fr_tr f101c g114c (by decide +kernel)
        have q114c_15 : h114c.1 63 5 = h101c.1 63 5 := g114c.1 63 5 (by decide)
        have q114c_16 : h114c.1 63 7 = h101c.1 63 7 := g114c.1 63 7 (by decide)
        refine mm_fgt 1 ?_
        exact J117 h114c i114c f114c (by omega)
      · skip
        refine mm_iconst C (mm_dec dk_X7_readPart 55 rfl) ⟨by decide, by decide⟩ ?_
        exact mm_zret C T (mm_dec dk_X7_readPart 56 rfl) (by decide : 0 ≤ 0) (by decide : 0 ≤ 0) (by omega) ⟨_, rfl, ⟨⟨by omega, by omega⟩, i101c, f101c, by omega⟩⟩
    · skip
      refine mm_aload_n C (mm_dec dk_X7_readPart 24 rfl) rfl ?_
      refine mm_geti C fl_X7_28 (mm_dec dk_X7_readPart 25 rfl) rfl rfl (Or.inl rfl) ?_
      have g17 : -2147483648 ≤ (h.1 63 6) ∧ (h.1 63 6) ≤ 2147483647 := i0.1 63 6
      refine mm_bipush C (mm_dec dk_X7_readPart 26 rfl) ⟨by decide, by decide⟩ ?_
      refine mm_icmp_ge (tgt := 61) C (mm_dec dk_X7_readPart 27 rfl) (by decide) (fun c52 => ?_) (fun c52 => ?_)
      · skip
        refine mm_aload_n C (mm_dec dk_X7_readPart 32 rfl) rfl ?_
        refine mm_aload_n C (mm_dec dk_X7_readPart 33 rfl) rfl ?_
        refine mm_geti C fl_X7_28 (mm_dec dk_X7_readPart 34 rfl) rfl rfl (Or.inl rfl) ?_
        refine mm_bipush C (mm_dec dk_X7_readPart 35 rfl) ⟨by decide, by decide⟩ ?_
        have J94 : ∀ (s94_1 : Int) (bs94_1 : -2147483648 ≤ s94_1 ∧ s94_1 ≤ 2147483647), mm_W x 0 0 94 [mR 63, mU] [mI s94_1, mR 63] h := by
          intro s94_1 bs94_1
          have g18 : -2147483648 ≤ h.1 63 5 ∧ h.1 63 5 ≤ 2147483647 := i0.1 63 5
          have g19 : 0 ≤ h.1 63 7 ∧ h.1 63 7 ≤ 500 := i0.1 63 7
          refine mm_cVv (rest := []) C1 ev_X7_79 (mm_dec dk_X7_readPart 50 rfl) (c_X7_emit x.2.1 hl (d - 1) (by omega) h i0 s94_1) rfl rfl (Nat.le_of_ble_eq_true rfl) ⟨by decide, by decide⟩ rfl (fun h94c hp94 => ?_) (fun _ _ q => q.elim)
          obtain ⟨i94c, g94c⟩ := hp94
          have f94c : mm_fr [(63, 4), (63, 5), (63, 6), (63, 7), (63, 8), (63, 9), (63, 10)] [64] h h94c := mm_fr_tr f0 g94c (by decide +kernel)
          have q94c_21 : h94c.1 63 5 = h.1 63 5 := g94c.1 63 5 (by decide)
          have q94c_22 : h94c.1 63 6 = h.1 63 6 := g94c.1 63 6 (by decide)
          have q94c_23 : h94c.1 63 7 = h.1 63 7 := g94c.1 63 7 (by decide)
          refine mm_goto (tgt := 117) C (mm_dec dk_X7_readPart 51 rfl) (by decide) ?_
          exact J117 h94c i94c f94c (by omega)
        refine mm_icmp_ge (tgt := 84) C (mm_dec dk_X7_readPart 36 rfl) (by decide) (fun c68 => ?_) (fun c68 => ?_)
        · skip
          refine mm_ldc (z := 100000) C (mm_dec dk_X7_readPart 44 rfl) kc_X7_127 (by decide) ?_
          refine mm_aload_n C (mm_dec dk_X7_readPart 45 rfl) rfl ?_
          refine mm_geti C fl_X7_28 (mm_dec dk_X7_readPart 46 rfl) rfl rfl (Or.inl rfl) ?_
          refine mm_iaddw C (mm_dec dk_X7_readPart 47 rfl) ?_
          have g24 : -2147483648 ≤ (mm_w (100000 + (h.1 63 6))) ∧ (mm_w (100000 + (h.1 63 6))) < 2147483648 := mm_w_rg _
          refine mm_bipush C (mm_dec dk_X7_readPart 48 rfl) ⟨by decide, by decide⟩ ?_
          refine mm_isubw C (mm_dec dk_X7_readPart 49 rfl) ?_
          have g25 : -2147483648 ≤ (mm_w ((mm_w (100000 + (h.1 63 6))) - 10)) ∧ (mm_w ((mm_w (100000 + (h.1 63 6))) - 10)) < 2147483648 := mm_w_rg _
          refine mm_fgt 1 ?_
          exact J94 (mm_w ((mm_w (100000 + (h.1 63 6))) - 10)) ⟨by omega, by omega⟩
        · skip
          refine mm_ldc (z := 100007) C (mm_dec dk_X7_readPart 37 rfl) kc_X7_126 (by decide) ?_
          refine mm_aload_n C (mm_dec dk_X7_readPart 38 rfl) rfl ?_
          refine mm_geti C fl_X7_28 (mm_dec dk_X7_readPart 39 rfl) rfl rfl (Or.inl rfl) ?_
          refine mm_iadd C (mm_dec dk_X7_readPart 40 rfl) ⟨by omega, by omega⟩ ?_
          refine mm_bipush C (mm_dec dk_X7_readPart 41 rfl) ⟨by decide, by decide⟩ ?_
          refine mm_isub C (mm_dec dk_X7_readPart 42 rfl) ⟨by omega, by omega⟩ ?_
          refine mm_goto (tgt := 94) C (mm_dec dk_X7_readPart 43 rfl) (by decide) ?_
          refine mm_fgt 1 ?_
          exact J94 ((100007 + (h.1 63 6)) - 7) ⟨by omega, by omega⟩
      · skip
        refine mm_aload_n C (mm_dec dk_X7_readPart 28 rfl) rfl ?_
        refine mm_iconst C (mm_dec dk_X7_readPart 29 rfl) ⟨by decide, by decide⟩ ?_
        refine mm_cVi (rest := []) C1 ev_X7_65 (mm_dec dk_X7_readPart 30 rfl) (c_X7_refuse x.2.1 hl (d - 1) (by omega) h i0 3) rfl rfl (Nat.le_of_ble_eq_true rfl) ⟨by decide, by decide⟩ rfl (fun r57 h57c hp57 => ?_) (fun _ _ q => q.elim)
        obtain ⟨b57, i57c, g57c⟩ := hp57
        have f57c : mm_fr [(63, 4), (63, 5), (63, 6), (63, 7), (63, 8), (63, 9), (63, 10)] [64] h h57c := mm_fr_tr f0 g57c (by decide +kernel)
        have q57c_27 : h57c.1 63 5 = h.1 63 5 := g57c.1 63 5 (by decide)
        have q57c_28 : h57c.1 63 6 = h.1 63 6 := g57c.1 63 6 (by decide)
        have q57c_29 : h57c.1 63 7 = h.1 63 7 := g57c.1 63 7 (by decide)
        exact mm_zret C T (mm_dec dk_X7_readPart 31 rfl) (by decide : 0 ≤ 0) (by decide : 0 ≤ 0) (by omega) ⟨_, rfl, ⟨⟨by omega, by omega⟩, i57c, f57c, by omega⟩⟩
  · skip
    refine mm_aload_n C (mm_dec dk_X7_readPart 4 rfl) rfl ?_
    refine mm_cVv (rest := []) C1 ev_X7_52 (mm_dec dk_X7_readPart 5 rfl) (c_X7_step x.2.1 hl (d - 1) (by omega) h i0 ) rfl rfl (Nat.le_of_ble_eq_true rfl) ⟨by decide, by decide⟩ rfl (fun h10c hp10 => ?_) (fun _ _ q => q.elim)
    obtain ⟨i10c, g10c, y10_0⟩ := hp10
    have f10c : mm_fr [(63, 4), (63, 5), (63, 6), (63, 7), (63, 8), (63, 9), (63, 10)] [64] h h10c := mm_fr_tr f0 g10c (by decide +kernel)
    have g31 : -2147483648 ≤ (h10c.1 63 5) ∧ (h10c.1 63 5) ≤ 2147483647 := i10c.1 63 5
    have g32 : 0 ≤ (h10c.1 63 7) ∧ (h10c.1 63 7) ≤ 500 := i10c.1 63 7
    refine mm_aload_n C (mm_dec dk_X7_readPart 6 rfl) rfl ?_
    refine mm_iload_n C (mm_dec dk_X7_readPart 7 rfl) rfl ?_
    refine mm_iconst C (mm_dec dk_X7_readPart 8 rfl) ⟨by decide, by decide⟩ ?_
    refine mm_iadd C (mm_dec dk_X7_readPart 9 rfl) ⟨by omega, by omega⟩ ?_
    refine mm_cVi (rest := []) C1 ev_X7_75 (mm_dec dk_X7_readPart 10 rfl) (c_X7_readOr_k6 x.2.1 hl (d - 1) (by omega) h10c i10c (p1 + 1) ⟨by omega, by omega⟩ (by omega)) rfl rfl (Nat.le_of_ble_eq_true rfl) ⟨by decide, by decide⟩ rfl (fun r17 h17c hp17 => ?_) (fun _ _ q => q.elim)
    obtain ⟨b17, i17c, g17c, y17_0⟩ := hp17
    have f17c : mm_fr [(63, 4), (63, 5), (63, 6), (63, 7), (63, 8), (63, 9), (63, 10)] [64] h h17c := mm_fr_tr f10c g17c (by decide +kernel)
    have q17c_34 : h17c.1 63 5 = h10c.1 63 5 := g17c.1 63 5 (by decide)
    have q17c_35 : h17c.1 63 7 = h10c.1 63 7 := g17c.1 63 7 (by decide)
    have J37 : ∀ (s37_0 : Int) (bs37_0 : 0 ≤ s37_0 ∧ s37_0 ≤ 0), mm_W x 0 0 37 [mU, mU] [mI s37_0] h17c := by
      intro s37_0 bs37_0
      exact mm_zret C T (mm_dec dk_X7_readPart 19 rfl) (by decide : 0 ≤ 0) (by decide : 0 ≤ 0) (by omega) ⟨_, rfl, ⟨⟨by omega, by omega⟩, i17c, f17c, by omega⟩⟩
    have J36 : mm_W x 0 0 36 [mU, mU] [] h17c := by
      refine mm_iconst C (mm_dec dk_X7_readPart 18 rfl) ⟨by decide, by decide⟩ ?_
      exact J37 0 ⟨by omega, by omega⟩
    refine mm_if_eq (tgt := 36) C (mm_dec dk_X7_readPart 11 rfl) (by decide) (fun c20 => ?_) (fun c20 => ?_)
    · skip
      refine mm_fgt 0 ?_
      refine mm_fgt 1 ?_
      exact J36
    · skip
      exfalso; omega
set_option maxRecDepth 100000 in
set_option maxHeartbeats 4000000 in
theorem c_X7_readProduct_k5 (l : Launch) (hl : l.stackTraces = false) (d : Nat) (hd : 7 ≤ d) (h : mH) (i0 : mm_inv h) (p1 : Int) (bp1 : 5 ≤ p1 ∧ p1 ≤ 5) (t0 : (h.1 63 5 = 0 ∨ h.1 63 7 ≤ 499)) : mm_Met l d yX7_readProduct cX7_readProduct 4 (some .boolean) [mR 63, mI p1] h (mm_pi fun r h2 => (0 ≤ r ∧ r ≤ 1) ∧ mm_inv h2 ∧ mm_fr [(63, 4), (63, 5), (63, 6), (63, 7), (63, 8), (63, 9), (63, 10)] [64] h h2 ∧ (h2.1 63 5 = 0 ∨ h2.1 63 7 ≤ 499)) mm_nx 0 0 := by
  refine mm_ofW (ls := [mR 63, mI p1, mU, mU]) hl (by decide) rfl (Nat.le_of_ble_eq_true rfl) ?_
  intro x hxl C T hnm htb
  subst hxl
  have C1 := mm_OK_le (d' := d - 1 + 1) (by omega) C
  refine mm_rng (fun hr _ => ?_)
  have ap1 : -2147483648 ≤ p1 ∧ p1 < 2147483648 := mm_ok_at hr (i := 1) rfl
  have f0 : mm_fr [(63, 4), (63, 5), (63, 6), (63, 7), (63, 8), (63, 9), (63, 10)] [64] h h := mm_fr_rf
  have g1 : -2147483648 ≤ h.1 63 5 ∧ h.1 63 5 ≤ 2147483647 := i0.1 63 5
  have g2 : 0 ≤ h.1 63 7 ∧ h.1 63 7 ≤ 500 := i0.1 63 7
  refine mm_aload_n C (mm_dec dk_X7_readProduct 0 rfl) rfl ?_
  refine mm_iload_n C (mm_dec dk_X7_readProduct 1 rfl) rfl ?_
  refine mm_cVi (rest := []) C1 ev_X7_121 (mm_dec dk_X7_readProduct 2 rfl) (c_X7_readPart_k5 x.2.1 hl (d - 1) (by omega) h i0 p1 ⟨by omega, by omega⟩ (by omega)) rfl rfl (Nat.le_of_ble_eq_true rfl) ⟨by decide, by decide⟩ rfl (fun r2 h2c hp2 => ?_) (fun _ _ q => q.elim)
  obtain ⟨b2, i2c, g2c, y2_0⟩ := hp2
  have f2c : mm_fr [(63, 4), (63, 5), (63, 6), (63, 7), (63, 8), (63, 9), (63, 10)] [64] h h2c := mm_fr_tr f0 g2c (by decide +kernel)
  have g4 : -2147483648 ≤ (h2c.1 63 5) ∧ (h2c.1 63 5) ≤ 2147483647 := i2c.1 63 5
  have g5 : 0 ≤ (h2c.1 63 7) ∧ (h2c.1 63 7) ≤ 500 := i2c.1 63 7
  refine mm_if_ne (tgt := 10) C (mm_dec dk_X7_readProduct 3 rfl) (by decide) (fun c5 => ?_) (fun c5 => ?_)
  · skip
    refine mm_iconst C (mm_dec dk_X7_readProduct 6 rfl) ⟨by decide, by decide⟩ ?_
    have J12 : ∀ (n : Nat) (x12_2 : Int) (bx12_2 : 0 ≤ x12_2 ∧ x12_2 ≤ 500) (h12_ : mH) (i12_ : mm_inv h12_) (f12_ : mm_fr [(63, 4), (63, 5), (63, 6), (63, 7), (63, 8), (63, 9), (63, 10)] [64] h h12_) (w12_0 : (h12_.1 63 5 = 0 ∨ h12_.1 63 7 ≤ 499)), (500 - x12_2 : Int) < n → mm_W x 0 0 12 [mR 63, mI p1, mI x12_2, mU] [] h12_ := by
      intro n
      induction n with
      | zero =>
        intro x12_2 bx12_2 h12_ i12_ f12_ w12_0 hm
        have g6 : -2147483648 ≤ h12_.1 63 5 ∧ h12_.1 63 5 ≤ 2147483647 := i12_.1 63 5
        have g7 : 0 ≤ h12_.1 63 7 ∧ h12_.1 63 7 ≤ 500 := i12_.1 63 7
        exfalso; omega
      | succ n ih12 =>
        intro x12_2 bx12_2 h12_ i12_ f12_ w12_0 hm12
        have g8 : -2147483648 ≤ h12_.1 63 5 ∧ h12_.1 63 5 ≤ 2147483647 := i12_.1 63 5
        have g9 : 0 ≤ h12_.1 63 7 ∧ h12_.1 63 7 ≤ 500 := i12_.1 63 7
        refine mm_iload_n C (mm_dec dk_X7_readProduct 8 rfl) rfl ?_
        refine mm_sipush C (mm_dec dk_X7_readProduct 9 rfl) ⟨by decide, by decide⟩ ?_
        have J79 : mm_W x 0 0 79 [mU, mU, mU, mU] [] h12_ := by
          have g10 : -2147483648 ≤ h12_.1 63 5 ∧ h12_.1 63 5 ≤ 2147483647 := i12_.1 63 5
          have g11 : 0 ≤ h12_.1 63 7 ∧ h12_.1 63 7 ≤ 500 := i12_.1 63 7
          refine mm_iconst C (mm_dec dk_X7_readProduct 40 rfl) ⟨by decide, by decide⟩ ?_
          exact mm_zret C T (mm_dec dk_X7_readProduct 41 rfl) (by decide : 0 ≤ 0) (by decide : 0 ≤ 0) (by omega) ⟨_, rfl, ⟨⟨by omega, by omega⟩, i12_, f12_, by omega⟩⟩
        refine mm_icmp_ge (tgt := 79) C (mm_dec dk_X7_readProduct 10 rfl) (by decide) (fun c16 => ?_) (fun c16 => ?_)
        · skip
          refine mm_fgt 0 ?_
          refine mm_fgt 1 ?_
          refine mm_fgt 2 ?_
          exact J79
        · skip
          refine mm_aload_n C (mm_dec dk_X7_readProduct 11 rfl) rfl ?_
          refine mm_bipush C (mm_dec dk_X7_readProduct 12 rfl) ⟨by decide, by decide⟩ ?_
          refine mm_cVi (rest := []) C1 ev_X7_96 (mm_dec dk_X7_readProduct 13 rfl) (c_X7_isSign x.2.1 hl (d - 1) (by omega) h12_ i12_ 42 (by omega)) rfl rfl (Nat.le_of_ble_eq_true rfl) ⟨by decide, by decide⟩ rfl (fun r22 h22c hp22 => ?_) (fun _ _ q => q.elim)
          obtain ⟨z22, y22⟩ := hp22
          rw [z22]
          have g13 : -2147483648 ≤ (h12_.2.1 62 (h12_.1 63 7)) ∧ (h12_.2.1 62 (h12_.1 63 7)) ≤ 2147483647 := i12_.2.1 62 (h12_.1 63 7)
          have J37 : mm_W x 0 0 37 [mR 63, mI p1, mI x12_2, mU] [] h12_ := by
            have g14 : -2147483648 ≤ h12_.1 63 5 ∧ h12_.1 63 5 ≤ 2147483647 := i12_.1 63 5
            have g15 : 0 ≤ h12_.1 63 7 ∧ h12_.1 63 7 ≤ 500 := i12_.1 63 7
            refine mm_aload_n C (mm_dec dk_X7_readProduct 19 rfl) rfl ?_
            refine mm_bipush C (mm_dec dk_X7_readProduct 20 rfl) ⟨by decide, by decide⟩ ?_
            refine mm_cVi (rest := []) C1 ev_X7_96 (mm_dec dk_X7_readProduct 21 rfl) (c_X7_isSign x.2.1 hl (d - 1) (by omega) h12_ i12_ 42 (by omega)) rfl rfl (Nat.le_of_ble_eq_true rfl) ⟨by decide, by decide⟩ rfl (fun r40 h40c hp40 => ?_) (fun _ _ q => q.elim)
            obtain ⟨z40, y40⟩ := hp40
            rw [z40]
            have J53 : ∀ (s53_0 : Int) (bs53_0 : 100017 ≤ s53_0 ∧ s53_0 ≤ 100018) (vs53_0 : (r40 ≠ 0 ∧ s53_0 = 100017) ∨ (r40 = 0 ∧ s53_0 = 100018)), mm_W x 0 0 53 [mR 63, mI p1, mI x12_2, mU] [mI s53_0] h12_ := by
              intro s53_0 bs53_0 vs53_0
              have g17 : -2147483648 ≤ h12_.1 63 5 ∧ h12_.1 63 5 ≤ 2147483647 := i12_.1 63 5
              have g18 : 0 ≤ h12_.1 63 7 ∧ h12_.1 63 7 ≤ 500 := i12_.1 63 7
              refine mm_istore_nL (ls2 := [mR 63, mI p1, mI x12_2, mI s53_0]) C (mm_dec dk_X7_readProduct 26 rfl) (by decide) rfl ?_
              refine mm_aload_n C (mm_dec dk_X7_readProduct 27 rfl) rfl ?_
              refine mm_cVv (rest := []) C1 ev_X7_52 (mm_dec dk_X7_readProduct 28 rfl) (c_X7_step x.2.1 hl (d - 1) (by omega) h12_ i12_ ) rfl rfl (Nat.le_of_ble_eq_true rfl) ⟨by decide, by decide⟩ rfl (fun h55c hp55 => ?_) (fun _ _ q => q.elim)
              obtain ⟨i55c, g55c, y55_0⟩ := hp55
              have f55c : mm_fr [(63, 4), (63, 5), (63, 6), (63, 7), (63, 8), (63, 9), (63, 10)] [64] h h55c := mm_fr_tr f12_ g55c (by decide +kernel)
              have g20 : -2147483648 ≤ (h55c.1 63 5) ∧ (h55c.1 63 5) ≤ 2147483647 := i55c.1 63 5
              have g21 : 0 ≤ (h55c.1 63 7) ∧ (h55c.1 63 7) ≤ 500 := i55c.1 63 7
              refine mm_aload_n C (mm_dec dk_X7_readProduct 29 rfl) rfl ?_
              refine mm_iload_n C (mm_dec dk_X7_readProduct 30 rfl) rfl ?_
              refine mm_cVi (rest := []) C1 ev_X7_121 (mm_dec dk_X7_readProduct 31 rfl) (c_X7_readPart_k5 x.2.1 hl (d - 1) (by omega) h55c i55c p1 ⟨by omega, by omega⟩ (by omega)) rfl rfl (Nat.le_of_ble_eq_true rfl) ⟨by decide, by decide⟩ rfl (fun r60 h60c hp60 => ?_) (fun _ _ q => q.elim)
              obtain ⟨b60, i60c, g60c, y60_0⟩ := hp60
              have f60c : mm_fr [(63, 4), (63, 5), (63, 6), (63, 7), (63, 8), (63, 9), (63, 10)] [64] h h60c := mm_fr_tr f55c g60c (by decide +kernel)
              have g23 : -2147483648 ≤ (h60c.1 63 5) ∧ (h60c.1 63 5) ≤ 2147483647 := i60c.1 63 5
              have g24 : 0 ≤ (h60c.1 63 7) ∧ (h60c.1 63 7) ≤ 500 := i60c.1 63 7
              refine mm_if_ne (tgt := 68) C (mm_dec dk_X7_readProduct 32 rfl) (by decide) (fun c63 => ?_) (fun c63 => ?_)
              · skip
                refine mm_aload_n C (mm_dec dk_X7_readProduct 35 rfl) rfl ?_
                refine mm_iload_n C (mm_dec dk_X7_readProduct 36 rfl) rfl ?_
                refine mm_cVv (rest := []) C1 ev_X7_79 (mm_dec dk_X7_readProduct 37 rfl) (c_X7_emit x.2.1 hl (d - 1) (by omega) h60c i60c s53_0) rfl rfl (Nat.le_of_ble_eq_true rfl) ⟨by decide, by decide⟩ rfl (fun h70c hp70 => ?_) (fun _ _ q => q.elim)
                obtain ⟨i70c, g70c⟩ := hp70
                have f70c : mm_fr [(63, 4), (63, 5), (63, 6), (63, 7), (63, 8), (63, 9), (63, 10)] [64] h h70c := mm_fr_tr f60c g70c (by decide +kernel)
                have q70c_26 : h70c.1 63 5 = h60c.1 63 5 := g70c.1 63 5 (by decide)
                have q70c_27 : h70c.1 63 7 = h60c.1 63 7 := g70c.1 63 7 (by decide)
                refine mm_iincL (ls2 := [mR 63, mI p1, mI (x12_2 + 1), mI s53_0]) C (mm_dec dk_X7_readProduct 38 rfl) rfl (by decide) ⟨by omega, by omega⟩ rfl ?_
                refine mm_goto (tgt := 12) C (mm_dec dk_X7_readProduct 39 rfl) (by decide) ?_
                refine mm_fgt 3 ?_
                exact ih12 (x12_2 + 1) ⟨by omega, by omega⟩ h70c i70c f70c (by omega) (by omega)
              · skip
                refine mm_iconst C (mm_dec dk_X7_readProduct 33 rfl) ⟨by decide, by decide⟩ ?_
                exact mm_zret C T (mm_dec dk_X7_readProduct 34 rfl) (by decide : 0 ≤ 0) (by decide : 0 ≤ 0) (by omega) ⟨_, rfl, ⟨⟨by omega, by omega⟩, i60c, f60c, by omega⟩⟩
            refine mm_if_eq (tgt := 51) C (mm_dec dk_X7_readProduct 22 rfl) (by decide) (fun c43 => ?_) (fun c43 => ?_)
            · skip
              refine mm_ldc (z := 100018) C (mm_dec dk_X7_readProduct 25 rfl) kc_X7_125 (by decide) ?_
              exact J53 100018 ⟨by omega, by omega⟩ (Or.inr (⟨by omega, rfl⟩))
            · skip
              refine mm_ldc (z := 100017) C (mm_dec dk_X7_readProduct 23 rfl) kc_X7_124 (by decide) ?_
              refine mm_goto (tgt := 53) C (mm_dec dk_X7_readProduct 24 rfl) (by decide) ?_
              exact J53 100017 ⟨by omega, by omega⟩ (Or.inl ⟨by omega, rfl⟩)
          refine mm_if_ne (tgt := 37) C (mm_dec dk_X7_readProduct 14 rfl) (by decide) (fun c25 => ?_) (fun c25 => ?_)
          · skip
            exact J37
          · skip
            refine mm_aload_n C (mm_dec dk_X7_readProduct 15 rfl) rfl ?_
            refine mm_bipush C (mm_dec dk_X7_readProduct 16 rfl) ⟨by decide, by decide⟩ ?_
            refine mm_cVi (rest := []) C1 ev_X7_96 (mm_dec dk_X7_readProduct 17 rfl) (c_X7_isSign x.2.1 hl (d - 1) (by omega) h12_ i12_ 47 (by omega)) rfl rfl (Nat.le_of_ble_eq_true rfl) ⟨by decide, by decide⟩ rfl (fun r31 h31c hp31 => ?_) (fun _ _ q => q.elim)
            obtain ⟨z31, y31⟩ := hp31
            rw [z31]
            refine mm_if_eq (tgt := 79) C (mm_dec dk_X7_readProduct 18 rfl) (by decide) (fun c34 => ?_) (fun c34 => ?_)
            · skip
              refine mm_fgt 0 ?_
              refine mm_fgt 1 ?_
              refine mm_fgt 2 ?_
              exact J79
            · skip
              exact J37
    refine mm_istore_nL (ls2 := [mR 63, mI p1, mI 0, mU]) C (mm_dec dk_X7_readProduct 7 rfl) (by decide) rfl ?_
    exact J12 (((500 - 0) : Int) + 1).toNat 0 ⟨by omega, by omega⟩ h2c i2c f2c (by omega) (by omega)
  · skip
    refine mm_iconst C (mm_dec dk_X7_readProduct 4 rfl) ⟨by decide, by decide⟩ ?_
    exact mm_zret C T (mm_dec dk_X7_readProduct 5 rfl) (by decide : 0 ≤ 0) (by decide : 0 ≤ 0) (by omega) ⟨_, rfl, ⟨⟨by omega, by omega⟩, i2c, f2c, by omega⟩⟩
set_option maxRecDepth 100000 in
set_option maxHeartbeats 4000000 in
theorem c_X7_readSum_k5 (l : Launch) (hl : l.stackTraces = false) (d : Nat) (hd : 8 ≤ d) (h : mH) (i0 : mm_inv h) (p1 : Int) (bp1 : 5 ≤ p1 ∧ p1 ≤ 5) (t0 : (h.1 63 5 = 0 ∨ h.1 63 7 ≤ 499)) : mm_Met l d yX7_readSum cX7_readSum 4 (some .boolean) [mR 63, mI p1] h (mm_pi fun r h2 => (0 ≤ r ∧ r ≤ 1) ∧ mm_inv h2 ∧ mm_fr [(63, 4), (63, 5), (63, 6), (63, 7), (63, 8), (63, 9), (63, 10)] [64] h h2 ∧ (h2.1 63 5 = 0 ∨ h2.1 63 7 ≤ 499)) mm_nx 0 0 := by
  refine mm_ofW (ls := [mR 63, mI p1, mU, mU]) hl (by decide) rfl (Nat.le_of_ble_eq_true rfl) ?_
  intro x hxl C T hnm htb
  subst hxl
  have C1 := mm_OK_le (d' := d - 1 + 1) (by omega) C
  have C8 := mm_OK_le (d' := d - 8 + 8) (by omega) C
  refine mm_rng (fun hr _ => ?_)
  have ap1 : -2147483648 ≤ p1 ∧ p1 < 2147483648 := mm_ok_at hr (i := 1) rfl
  have f0 : mm_fr [(63, 4), (63, 5), (63, 6), (63, 7), (63, 8), (63, 9), (63, 10)] [64] h h := mm_fr_rf
  have g1 : -2147483648 ≤ h.1 63 5 ∧ h.1 63 5 ≤ 2147483647 := i0.1 63 5
  have g2 : 0 ≤ h.1 63 7 ∧ h.1 63 7 ≤ 500 := i0.1 63 7
  refine mm_aload_n C (mm_dec dk_X7_readSum 0 rfl) rfl ?_
  refine mm_iload_n C (mm_dec dk_X7_readSum 1 rfl) rfl ?_
  refine mm_cVi (rest := []) C1 ev_X7_116 (mm_dec dk_X7_readSum 2 rfl) (c_X7_readProduct_k5 x.2.1 hl (d - 1) (by omega) h i0 p1 ⟨by omega, by omega⟩ (by omega)) rfl rfl (Nat.le_of_ble_eq_true rfl) ⟨by decide, by decide⟩ rfl (fun r2 h2c hp2 => ?_) (fun _ _ q => q.elim)
  obtain ⟨b2, i2c, g2c, y2_0⟩ := hp2
  have f2c : mm_fr [(63, 4), (63, 5), (63, 6), (63, 7), (63, 8), (63, 9), (63, 10)] [64] h h2c := mm_fr_tr f0 g2c (by decide +kernel)
  have g4 : -2147483648 ≤ (h2c.1 63 5) ∧ (h2c.1 63 5) ≤ 2147483647 := i2c.1 63 5
  have g5 : 0 ≤ (h2c.1 63 7) ∧ (h2c.1 63 7) ≤ 500 := i2c.1 63 7
  refine mm_if_ne (tgt := 10) C (mm_dec dk_X7_readSum 3 rfl) (by decide) (fun c5 => ?_) (fun c5 => ?_)
  · skip
    refine mm_iconst C (mm_dec dk_X7_readSum 6 rfl) ⟨by decide, by decide⟩ ?_
    have J12 : ∀ (n : Nat) (x12_2 : Int) (bx12_2 : 0 ≤ x12_2 ∧ x12_2 ≤ 500) (h12_ : mH) (i12_ : mm_inv h12_) (f12_ : mm_fr [(63, 4), (63, 5), (63, 6), (63, 7), (63, 8), (63, 9), (63, 10)] [64] h h12_) (w12_0 : (h12_.1 63 5 = 0 ∨ h12_.1 63 7 ≤ 499)), (500 - x12_2 : Int) < n → mm_W x 0 0 12 [mR 63, mI p1, mI x12_2, mU] [] h12_ := by
      intro n
      induction n with
      | zero =>
        intro x12_2 bx12_2 h12_ i12_ f12_ w12_0 hm
        have g6 : -2147483648 ≤ h12_.1 63 5 ∧ h12_.1 63 5 ≤ 2147483647 := i12_.1 63 5
        have g7 : 0 ≤ h12_.1 63 7 ∧ h12_.1 63 7 ≤ 500 := i12_.1 63 7
        exfalso; omega
      | succ n ih12 =>
        intro x12_2 bx12_2 h12_ i12_ f12_ w12_0 hm12
        have g8 : -2147483648 ≤ h12_.1 63 5 ∧ h12_.1 63 5 ≤ 2147483647 := i12_.1 63 5
        have g9 : 0 ≤ h12_.1 63 7 ∧ h12_.1 63 7 ≤ 500 := i12_.1 63 7
        refine mm_iload_n C (mm_dec dk_X7_readSum 8 rfl) rfl ?_
        refine mm_sipush C (mm_dec dk_X7_readSum 9 rfl) ⟨by decide, by decide⟩ ?_
        have J79 : mm_W x 0 0 79 [mU, mU, mU, mU] [] h12_ := by
          have g10 : -2147483648 ≤ h12_.1 63 5 ∧ h12_.1 63 5 ≤ 2147483647 := i12_.1 63 5
          have g11 : 0 ≤ h12_.1 63 7 ∧ h12_.1 63 7 ≤ 500 := i12_.1 63 7
          refine mm_iconst C (mm_dec dk_X7_readSum 40 rfl) ⟨by decide, by decide⟩ ?_
          exact mm_zret C T (mm_dec dk_X7_readSum 41 rfl) (by decide : 0 ≤ 0) (by decide : 0 ≤ 0) (by omega) ⟨_, rfl, ⟨⟨by omega, by omega⟩, i12_, f12_, by omega⟩⟩
        refine mm_icmp_ge (tgt := 79) C (mm_dec dk_X7_readSum 10 rfl) (by decide) (fun c16 => ?_) (fun c16 => ?_)
        · skip
          refine mm_fgt 0 ?_
          refine mm_fgt 1 ?_
          refine mm_fgt 2 ?_
          exact J79
        · skip
          refine mm_aload_n C (mm_dec dk_X7_readSum 11 rfl) rfl ?_
          refine mm_bipush C (mm_dec dk_X7_readSum 12 rfl) ⟨by decide, by decide⟩ ?_
          refine mm_cVi (rest := []) C1 ev_X7_96 (mm_dec dk_X7_readSum 13 rfl) (c_X7_isSign x.2.1 hl (d - 1) (by omega) h12_ i12_ 43 (by omega)) rfl rfl (Nat.le_of_ble_eq_true rfl) ⟨by decide, by decide⟩ rfl (fun r22 h22c hp22 => ?_) (fun _ _ q => q.elim)
          obtain ⟨z22, y22⟩ := hp22
          rw [z22]
          have g13 : -2147483648 ≤ (h12_.2.1 62 (h12_.1 63 7)) ∧ (h12_.2.1 62 (h12_.1 63 7)) ≤ 2147483647 := i12_.2.1 62 (h12_.1 63 7)
          have J37 : mm_W x 0 0 37 [mR 63, mI p1, mI x12_2, mU] [] h12_ := by
            have g14 : -2147483648 ≤ h12_.1 63 5 ∧ h12_.1 63 5 ≤ 2147483647 := i12_.1 63 5
            have g15 : 0 ≤ h12_.1 63 7 ∧ h12_.1 63 7 ≤ 500 := i12_.1 63 7
            refine mm_aload_n C (mm_dec dk_X7_readSum 19 rfl) rfl ?_
            refine mm_bipush C (mm_dec dk_X7_readSum 20 rfl) ⟨by decide, by decide⟩ ?_
            refine mm_cVi (rest := []) C1 ev_X7_96 (mm_dec dk_X7_readSum 21 rfl) (c_X7_isSign x.2.1 hl (d - 1) (by omega) h12_ i12_ 43 (by omega)) rfl rfl (Nat.le_of_ble_eq_true rfl) ⟨by decide, by decide⟩ rfl (fun r40 h40c hp40 => ?_) (fun _ _ q => q.elim)
            obtain ⟨z40, y40⟩ := hp40
            rw [z40]
            have J53 : ∀ (s53_0 : Int) (bs53_0 : 100015 ≤ s53_0 ∧ s53_0 ≤ 100016) (vs53_0 : (r40 ≠ 0 ∧ s53_0 = 100015) ∨ (r40 = 0 ∧ s53_0 = 100016)), mm_W x 0 0 53 [mR 63, mI p1, mI x12_2, mU] [mI s53_0] h12_ := by
              intro s53_0 bs53_0 vs53_0
              have g17 : -2147483648 ≤ h12_.1 63 5 ∧ h12_.1 63 5 ≤ 2147483647 := i12_.1 63 5
              have g18 : 0 ≤ h12_.1 63 7 ∧ h12_.1 63 7 ≤ 500 := i12_.1 63 7
              refine mm_istore_nL (ls2 := [mR 63, mI p1, mI x12_2, mI s53_0]) C (mm_dec dk_X7_readSum 26 rfl) (by decide) rfl ?_
              refine mm_aload_n C (mm_dec dk_X7_readSum 27 rfl) rfl ?_
              refine mm_cVv (rest := []) C1 ev_X7_52 (mm_dec dk_X7_readSum 28 rfl) (c_X7_step x.2.1 hl (d - 1) (by omega) h12_ i12_ ) rfl rfl (Nat.le_of_ble_eq_true rfl) ⟨by decide, by decide⟩ rfl (fun h55c hp55 => ?_) (fun _ _ q => q.elim)
              obtain ⟨i55c, g55c, y55_0⟩ := hp55
              have f55c : mm_fr [(63, 4), (63, 5), (63, 6), (63, 7), (63, 8), (63, 9), (63, 10)] [64] h h55c := mm_fr_tr f12_ g55c (by decide +kernel)
              have g20 : -2147483648 ≤ (h55c.1 63 5) ∧ (h55c.1 63 5) ≤ 2147483647 := i55c.1 63 5
              have g21 : 0 ≤ (h55c.1 63 7) ∧ (h55c.1 63 7) ≤ 500 := i55c.1 63 7
              refine mm_aload_n C (mm_dec dk_X7_readSum 29 rfl) rfl ?_
              refine mm_iload_n C (mm_dec dk_X7_readSum 30 rfl) rfl ?_
              refine mm_cVi (rest := []) C1 ev_X7_116 (mm_dec dk_X7_readSum 31 rfl) (c_X7_readProduct_k5 x.2.1 hl (d - 1) (by omega) h55c i55c p1 ⟨by omega, by omega⟩ (by omega)) rfl rfl (Nat.le_of_ble_eq_true rfl) ⟨by decide, by decide⟩ rfl (fun r60 h60c hp60 => ?_) (fun _ _ q => q.elim)
              obtain ⟨b60, i60c, g60c, y60_0⟩ := hp60
              have f60c : mm_fr [(63, 4), (63, 5), (63, 6), (63, 7), (63, 8), (63, 9), (63, 10)] [64] h h60c := mm_fr_tr f55c g60c (by decide +kernel)
              have g23 : -2147483648 ≤ (h60c.1 63 5) ∧ (h60c.1 63 5) ≤ 2147483647 := i60c.1 63 5
              have g24 : 0 ≤ (h60c.1 63 7) ∧ (h60c.1 63 7) ≤ 500 := i60c.1 63 7
              refine mm_if_ne (tgt := 68) C (mm_dec dk_X7_readSum 32 rfl) (by decide) (fun c63 => ?_) (fun c63 => ?_)
              · skip
                refine mm_aload_n C (mm_dec dk_X7_readSum 35 rfl) rfl ?_
                refine mm_iload_n C (mm_dec dk_X7_readSum 36 rfl) rfl ?_
                refine mm_cVv (rest := []) C1 ev_X7_79 (mm_dec dk_X7_readSum 37 rfl) (c_X7_emit x.2.1 hl (d - 1) (by omega) h60c i60c s53_0) rfl rfl (Nat.le_of_ble_eq_true rfl) ⟨by decide, by decide⟩ rfl (fun h70c hp70 => ?_) (fun _ _ q => q.elim)
                obtain ⟨i70c, g70c⟩ := hp70
                have f70c : mm_fr [(63, 4), (63, 5), (63, 6), (63, 7), (63, 8), (63, 9), (63, 10)] [64] h h70c := mm_fr_tr f60c g70c (by decide +kernel)
                have q70c_26 : h70c.1 63 5 = h60c.1 63 5 := g70c.1 63 5 (by decide)
                have q70c_27 : h70c.1 63 7 = h60c.1 63 7 := g70c.1 63 7 (by decide)
                refine mm_iincL (ls2 := [mR 63, mI p1, mI (x12_2 + 1), mI s53_0]) C (mm_dec dk_X7_readSum 38 rfl) rfl (by decide) ⟨by omega, by omega⟩ rfl ?_
                refine mm_goto (tgt := 12) C (mm_dec dk_X7_readSum 39 rfl) (by decide) ?_
                refine mm_fgt 3 ?_
                exact ih12 (x12_2 + 1) ⟨by omega, by omega⟩ h70c i70c f70c (by omega) (by omega)
              · skip
                refine mm_iconst C (mm_dec dk_X7_readSum 33 rfl) ⟨by decide, by decide⟩ ?_
                exact mm_zret C T (mm_dec dk_X7_readSum 34 rfl) (by decide : 0 ≤ 0) (by decide : 0 ≤ 0) (by omega) ⟨_, rfl, ⟨⟨by omega, by omega⟩, i60c, f60c, by omega⟩⟩
            refine mm_if_eq (tgt := 51) C (mm_dec dk_X7_readSum 22 rfl) (by decide) (fun c43 => ?_) (fun c43 => ?_)
            · skip
              refine mm_ldc (z := 100016) C (mm_dec dk_X7_readSum 25 rfl) kc_X7_120 (by decide) ?_
              exact J53 100016 ⟨by omega, by omega⟩ (Or.inr (⟨by omega, rfl⟩))
            · skip
              refine mm_ldc (z := 100015) C (mm_dec dk_X7_readSum 23 rfl) kc_X7_119 (by decide) ?_
              refine mm_goto (tgt := 53) C (mm_dec dk_X7_readSum 24 rfl) (by decide) ?_
              exact J53 100015 ⟨by omega, by omega⟩ (Or.inl ⟨by omega, rfl⟩)
          refine mm_if_ne (tgt := 37) C (mm_dec dk_X7_readSum 14 rfl) (by decide) (fun c25 => ?_) (fun c25 => ?_)
          · skip
            exact J37
          · skip
            refine mm_aload_n C (mm_dec dk_X7_readSum 15 rfl) rfl ?_
            refine mm_bipush C (mm_dec dk_X7_readSum 16 rfl) ⟨by decide, by decide⟩ ?_
            refine mm_cVi (rest := []) C1 ev_X7_96 (mm_dec dk_X7_readSum 17 rfl) (c_X7_isSign x.2.1 hl (d - 1) (by omega) h12_ i12_ 45 (by omega)) rfl rfl (Nat.le_of_ble_eq_true rfl) ⟨by decide, by decide⟩ rfl (fun r31 h31c hp31 => ?_) (fun _ _ q => q.elim)
            obtain ⟨z31, y31⟩ := hp31
            rw [z31]
            refine mm_if_eq (tgt := 79) C (mm_dec dk_X7_readSum 18 rfl) (by decide) (fun c34 => ?_) (fun c34 => ?_)
            · skip
              refine mm_fgt 0 ?_
              refine mm_fgt 1 ?_
              refine mm_fgt 2 ?_
              exact J79
            · skip
              exact J37
    refine mm_istore_nL (ls2 := [mR 63, mI p1, mI 0, mU]) C (mm_dec dk_X7_readSum 7 rfl) (by decide) rfl ?_
    exact J12 (((500 - 0) : Int) + 1).toNat 0 ⟨by omega, by omega⟩ h2c i2c f2c (by omega) (by omega)
  · skip
    refine mm_iconst C (mm_dec dk_X7_readSum 4 rfl) ⟨by decide, by decide⟩ ?_
    exact mm_zret C T (mm_dec dk_X7_readSum 5 rfl) (by decide : 0 ≤ 0) (by decide : 0 ≤ 0) (by omega) ⟨_, rfl, ⟨⟨by omega, by omega⟩, i2c, f2c, by omega⟩⟩
set_option maxRecDepth 100000 in
set_option maxHeartbeats 4000000 in
theorem c_X7_readTest_k5 (l : Launch) (hl : l.stackTraces = false) (d : Nat) (hd : 9 ≤ d) (h : mH) (i0 : mm_inv h) (p1 : Int) (bp1 : 5 ≤ p1 ∧ p1 ≤ 5) (t0 : (h.1 63 5 = 0 ∨ h.1 63 7 ≤ 499)) : mm_Met l d yX7_readTest cX7_readTest 3 (some .boolean) [mR 63, mI p1] h (mm_pi fun r h2 => (0 ≤ r ∧ r ≤ 1) ∧ mm_inv h2 ∧ mm_fr [(63, 4), (63, 5), (63, 6), (63, 7), (63, 8), (63, 9), (63, 10)] [64] h h2 ∧ (h2.1 63 5 = 0 ∨ h2.1 63 7 ≤ 499)) mm_nx 0 0 := by
  refine mm_ofW (ls := [mR 63, mI p1, mU]) hl (by decide) rfl (Nat.le_of_ble_eq_true rfl) ?_
  intro x hxl C T hnm htb
  subst hxl
  have C1 := mm_OK_le (d' := d - 1 + 1) (by omega) C
  have C8 := mm_OK_le (d' := d - 8 + 8) (by omega) C
  refine mm_rng (fun hr _ => ?_)
  have ap1 : -2147483648 ≤ p1 ∧ p1 < 2147483648 := mm_ok_at hr (i := 1) rfl
  have f0 : mm_fr [(63, 4), (63, 5), (63, 6), (63, 7), (63, 8), (63, 9), (63, 10)] [64] h h := mm_fr_rf
  have g1 : -2147483648 ≤ h.1 63 5 ∧ h.1 63 5 ≤ 2147483647 := i0.1 63 5
  have g2 : 0 ≤ h.1 63 7 ∧ h.1 63 7 ≤ 500 := i0.1 63 7
  refine mm_aload_n C (mm_dec dk_X7_readTest 0 rfl) rfl ?_
  refine mm_iload_n C (mm_dec dk_X7_readTest 1 rfl) rfl ?_
  refine mm_cVi (rest := []) C1 ev_X7_111 (mm_dec dk_X7_readTest 2 rfl) (c_X7_readSum_k5 x.2.1 hl (d - 1) (by omega) h i0 p1 ⟨by omega, by omega⟩ (by omega)) rfl rfl (Nat.le_of_ble_eq_true rfl) ⟨by decide, by decide⟩ rfl (fun r2 h2c hp2 => ?_) (fun _ _ q => q.elim)
  obtain ⟨b2, i2c, g2c, y2_0⟩ := hp2
  have f2c : mm_fr [(63, 4), (63, 5), (63, 6), (63, 7), (63, 8), (63, 9), (63, 10)] [64] h h2c := mm_fr_tr f0 g2c (by decide +kernel)
  have g4 : -2147483648 ≤ (h2c.1 63 5) ∧ (h2c.1 63 5) ≤ 2147483647 := i2c.1 63 5
  have g5 : 0 ≤ (h2c.1 63 7) ∧ (h2c.1 63 7) ≤ 500 := i2c.1 63 7
  refine mm_if_ne (tgt := 10) C (mm_dec dk_X7_readTest 3 rfl) (by decide) (fun c5 => ?_) (fun c5 => ?_)
  · skip
    refine mm_aload_n C (mm_dec dk_X7_readTest 6 rfl) rfl ?_
    refine mm_bipush C (mm_dec dk_X7_readTest 7 rfl) ⟨by decide, by decide⟩ ?_
    refine mm_cVi (rest := []) C1 ev_X7_96 (mm_dec dk_X7_readTest 8 rfl) (c_X7_isSign x.2.1 hl (d - 1) (by omega) h2c i2c 60 (by omega)) rfl rfl (Nat.le_of_ble_eq_true rfl) ⟨by decide, by decide⟩ rfl (fun r13 h13c hp13 => ?_) (fun _ _ q => q.elim)
    obtain ⟨z13, y13⟩ := hp13
    rw [z13]
    have g7 : -2147483648 ≤ (h2c.2.1 62 (h2c.1 63 7)) ∧ (h2c.2.1 62 (h2c.1 63 7)) ≤ 2147483647 := i2c.2.1 62 (h2c.1 63 7)
    have J39 : ∀ (s39_0 : Int) (bs39_0 : -1 ≤ s39_0 ∧ s39_0 ≤ 100014) (vs39_0 : (r13 = 0 ∧ s39_0 = -1) ∨ (r13 ≠ 0 ∧ s39_0 = 100013) ∨ (r13 = 0 ∧ s39_0 = 100014)), mm_W x 0 0 39 [mR 63, mI p1, mU] [mI s39_0] h2c := by
      intro s39_0 bs39_0 vs39_0
      refine mm_istore_nL (ls2 := [mR 63, mI p1, mI s39_0]) C (mm_dec dk_X7_readTest 19 rfl) (by decide) rfl ?_
      refine mm_iload_n C (mm_dec dk_X7_readTest 20 rfl) rfl ?_
      refine mm_iconst C (mm_dec dk_X7_readTest 21 rfl) ⟨by decide, by decide⟩ ?_
      have J64 : ∀ (h64_ : mH) (i64_ : mm_inv h64_) (f64_ : mm_fr [(63, 4), (63, 5), (63, 6), (63, 7), (63, 8), (63, 9), (63, 10)] [64] h h64_) (w64_0 : (h64_.1 63 5 = 0 ∨ h64_.1 63 7 ≤ 499)), mm_W x 0 0 64 [mU, mU, mU] [] h64_ := by
        intro h64_ i64_ f64_ w64_0
        have g8 : -2147483648 ≤ h64_.1 63 5 ∧ h64_.1 63 5 ≤ 2147483647 := i64_.1 63 5
        have g9 : 0 ≤ h64_.1 63 7 ∧ h64_.1 63 7 ≤ 500 := i64_.1 63 7
        refine mm_iconst C (mm_dec dk_X7_readTest 34 rfl) ⟨by decide, by decide⟩ ?_
        exact mm_zret C T (mm_dec dk_X7_readTest 35 rfl) (by decide : 0 ≤ 0) (by decide : 0 ≤ 0) (by omega) ⟨_, rfl, ⟨⟨by omega, by omega⟩, i64_, f64_, by omega⟩⟩
      refine mm_icmp_eq (tgt := 64) C (mm_dec dk_X7_readTest 22 rfl) (by decide) (fun c42 => ?_) (fun c42 => ?_)
      · skip
        refine mm_fgt 0 ?_
        refine mm_fgt 1 ?_
        refine mm_fgt 2 ?_
        exact J64 h2c i2c f2c (by omega)
      · skip
        refine mm_aload_n C (mm_dec dk_X7_readTest 23 rfl) rfl ?_
        refine mm_cVv (rest := []) C1 ev_X7_52 (mm_dec dk_X7_readTest 24 rfl) (c_X7_step x.2.1 hl (d - 1) (by omega) h2c i2c ) rfl rfl (Nat.le_of_ble_eq_true rfl) ⟨by decide, by decide⟩ rfl (fun h46c hp46 => ?_) (fun _ _ q => q.elim)
        obtain ⟨i46c, g46c, y46_0⟩ := hp46
        have f46c : mm_fr [(63, 4), (63, 5), (63, 6), (63, 7), (63, 8), (63, 9), (63, 10)] [64] h h46c := mm_fr_tr f2c g46c (by decide +kernel)
        have g11 : -2147483648 ≤ (h46c.1 63 5) ∧ (h46c.1 63 5) ≤ 2147483647 := i46c.1 63 5
        have g12 : 0 ≤ (h46c.1 63 7) ∧ (h46c.1 63 7) ≤ 500 := i46c.1 63 7
        refine mm_aload_n C (mm_dec dk_X7_readTest 25 rfl) rfl ?_
        refine mm_iload_n C (mm_dec dk_X7_readTest 26 rfl) rfl ?_
        refine mm_cVi (rest := []) C1 ev_X7_111 (mm_dec dk_X7_readTest 27 rfl) (c_X7_readSum_k5 x.2.1 hl (d - 1) (by omega) h46c i46c p1 ⟨by omega, by omega⟩ (by omega)) rfl rfl (Nat.le_of_ble_eq_true rfl) ⟨by decide, by decide⟩ rfl (fun r51 h51c hp51 => ?_) (fun _ _ q => q.elim)
        obtain ⟨b51, i51c, g51c, y51_0⟩ := hp51
        have f51c : mm_fr [(63, 4), (63, 5), (63, 6), (63, 7), (63, 8), (63, 9), (63, 10)] [64] h h51c := mm_fr_tr f46c g51c (by decide +kernel)
        have g14 : -2147483648 ≤ (h51c.1 63 5) ∧ (h51c.1 63 5) ≤ 2147483647 := i51c.1 63 5
        have g15 : 0 ≤ (h51c.1 63 7) ∧ (h51c.1 63 7) ≤ 500 := i51c.1 63 7
        refine mm_if_ne (tgt := 59) C (mm_dec dk_X7_readTest 28 rfl) (by decide) (fun c54 => ?_) (fun c54 => ?_)
        · skip
          refine mm_aload_n C (mm_dec dk_X7_readTest 31 rfl) rfl ?_
          refine mm_iload_n C (mm_dec dk_X7_readTest 32 rfl) rfl ?_
          refine mm_cVv (rest := []) C1 ev_X7_79 (mm_dec dk_X7_readTest 33 rfl) (c_X7_emit x.2.1 hl (d - 1) (by omega) h51c i51c s39_0) rfl rfl (Nat.le_of_ble_eq_true rfl) ⟨by decide, by decide⟩ rfl (fun h61c hp61 => ?_) (fun _ _ q => q.elim)
          obtain ⟨i61c, g61c⟩ := hp61
          have f61c : mm_fr [(63, 4), (63, 5), (63, 6), (63, 7), (63, 8), (63, 9), (63, 10)] [64] h h61c := mm_fr_tr f51c g61c (by decide +kernel)
          have q61c_17 : h61c.1 63 5 = h51c.1 63 5 := g61c.1 63 5 (by decide)
          have q61c_18 : h61c.1 63 7 = h51c.1 63 7 := g61c.1 63 7 (by decide)
          refine mm_fgt 0 ?_
          refine mm_fgt 1 ?_
          refine mm_fgt 2 ?_
          exact J64 h61c i61c f61c (by omega)
        · skip
          refine mm_iconst C (mm_dec dk_X7_readTest 29 rfl) ⟨by decide, by decide⟩ ?_
          exact mm_zret C T (mm_dec dk_X7_readTest 30 rfl) (by decide : 0 ≤ 0) (by decide : 0 ≤ 0) (by omega) ⟨_, rfl, ⟨⟨by omega, by omega⟩, i51c, f51c, by omega⟩⟩
    refine mm_if_eq (tgt := 24) C (mm_dec dk_X7_readTest 9 rfl) (by decide) (fun c16 => ?_) (fun c16 => ?_)
    · skip
      refine mm_aload_n C (mm_dec dk_X7_readTest 12 rfl) rfl ?_
      refine mm_bipush C (mm_dec dk_X7_readTest 13 rfl) ⟨by decide, by decide⟩ ?_
      refine mm_cVi (rest := []) C1 ev_X7_96 (mm_dec dk_X7_readTest 14 rfl) (c_X7_isSign x.2.1 hl (d - 1) (by omega) h2c i2c 61 (by omega)) rfl rfl (Nat.le_of_ble_eq_true rfl) ⟨by decide, by decide⟩ rfl (fun r27 h27c hp27 => ?_) (fun _ _ q => q.elim)
      obtain ⟨z27, y27⟩ := hp27
      rw [z27]
      refine mm_if_eq (tgt := 38) C (mm_dec dk_X7_readTest 15 rfl) (by decide) (fun c30 => ?_) (fun c30 => ?_)
      · skip
        refine mm_iconst C (mm_dec dk_X7_readTest 18 rfl) ⟨by decide, by decide⟩ ?_
        exact J39 (-1) ⟨by omega, by omega⟩ (Or.inl ⟨by omega, rfl⟩)
      · skip
        refine mm_ldc (z := 100014) C (mm_dec dk_X7_readTest 16 rfl) kc_X7_115 (by decide) ?_
        refine mm_goto (tgt := 39) C (mm_dec dk_X7_readTest 17 rfl) (by decide) ?_
        exact J39 100014 ⟨by omega, by omega⟩ (Or.inr (Or.inr (⟨by omega, rfl⟩)))
    · skip
      refine mm_ldc (z := 100013) C (mm_dec dk_X7_readTest 10 rfl) kc_X7_114 (by decide) ?_
      refine mm_goto (tgt := 39) C (mm_dec dk_X7_readTest 11 rfl) (by decide) ?_
      exact J39 100013 ⟨by omega, by omega⟩ (Or.inr (Or.inl ⟨by omega, rfl⟩))
  · skip
    refine mm_iconst C (mm_dec dk_X7_readTest 4 rfl) ⟨by decide, by decide⟩ ?_
    exact mm_zret C T (mm_dec dk_X7_readTest 5 rfl) (by decide : 0 ≤ 0) (by decide : 0 ≤ 0) (by omega) ⟨_, rfl, ⟨⟨by omega, by omega⟩, i2c, f2c, by omega⟩⟩
set_option maxRecDepth 100000 in
set_option maxHeartbeats 4000000 in
theorem c_X7_readNot_k5 (l : Launch) (hl : l.stackTraces = false) (d : Nat) (hd : 10 ≤ d) (h : mH) (i0 : mm_inv h) (p1 : Int) (bp1 : 5 ≤ p1 ∧ p1 ≤ 5) (t0 : (h.1 63 5 = 0 ∨ h.1 63 7 ≤ 499)) : mm_Met l d yX7_readNot cX7_readNot 4 (some .boolean) [mR 63, mI p1] h (mm_pi fun r h2 => (0 ≤ r ∧ r ≤ 1) ∧ mm_inv h2 ∧ mm_fr [(63, 4), (63, 5), (63, 6), (63, 7), (63, 8), (63, 9), (63, 10)] [64] h h2 ∧ (h2.1 63 5 = 0 ∨ h2.1 63 7 ≤ 499)) mm_nx 0 0 := by
  refine mm_ofW (ls := [mR 63, mI p1, mU, mU]) hl (by decide) rfl (Nat.le_of_ble_eq_true rfl) ?_
  intro x hxl C T hnm htb
  subst hxl
  have C1 := mm_OK_le (d' := d - 1 + 1) (by omega) C
  have C8 := mm_OK_le (d' := d - 8 + 8) (by omega) C
  refine mm_rng (fun hr _ => ?_)
  have ap1 : -2147483648 ≤ p1 ∧ p1 < 2147483648 := mm_ok_at hr (i := 1) rfl
  have f0 : mm_fr [(63, 4), (63, 5), (63, 6), (63, 7), (63, 8), (63, 9), (63, 10)] [64] h h := mm_fr_rf
  have g1 : -2147483648 ≤ h.1 63 5 ∧ h.1 63 5 ≤ 2147483647 := i0.1 63 5
  have g2 : 0 ≤ h.1 63 7 ∧ h.1 63 7 ≤ 500 := i0.1 63 7
  refine mm_iconst C (mm_dec dk_X7_readNot 0 rfl) ⟨by decide, by decide⟩ ?_
  have J2 : ∀ (n : Nat) (x2_2 : Int) (bx2_2 : 0 ≤ x2_2 ∧ x2_2 ≤ 7) (h2_ : mH) (i2_ : mm_inv h2_) (f2_ : mm_fr [(63, 4), (63, 5), (63, 6), (63, 7), (63, 8), (63, 9), (63, 10)] [64] h h2_) (w2_0 : (h2_.1 63 5 = 0 ∨ h2_.1 63 7 ≤ 499)), (7 - x2_2 : Int) < n → mm_W x 0 0 2 [mR 63, mI p1, mI x2_2, mU] [] h2_ := by
    intro n
    induction n with
    | zero =>
      intro x2_2 bx2_2 h2_ i2_ f2_ w2_0 hm
      have g3 : -2147483648 ≤ h2_.1 63 5 ∧ h2_.1 63 5 ≤ 2147483647 := i2_.1 63 5
      have g4 : 0 ≤ h2_.1 63 7 ∧ h2_.1 63 7 ≤ 500 := i2_.1 63 7
      exfalso; omega
    | succ n ih2 =>
      intro x2_2 bx2_2 h2_ i2_ f2_ w2_0 hm2
      have g5 : -2147483648 ≤ h2_.1 63 5 ∧ h2_.1 63 5 ≤ 2147483647 := i2_.1 63 5
      have g6 : 0 ≤ h2_.1 63 7 ∧ h2_.1 63 7 ≤ 500 := i2_.1 63 7
      refine mm_iload_n C (mm_dec dk_X7_readNot 2 rfl) rfl ?_
      refine mm_bipush C (mm_dec dk_X7_readNot 3 rfl) ⟨by decide, by decide⟩ ?_
      have J27 : mm_W x 0 0 27 [mR 63, mI p1, mI x2_2, mU] [] h2_ := by
        have g7 : -2147483648 ≤ h2_.1 63 5 ∧ h2_.1 63 5 ≤ 2147483647 := i2_.1 63 5
        have g8 : 0 ≤ h2_.1 63 7 ∧ h2_.1 63 7 ≤ 500 := i2_.1 63 7
        refine mm_iload_n C (mm_dec dk_X7_readNot 13 rfl) rfl ?_
        refine mm_bipush C (mm_dec dk_X7_readNot 14 rfl) ⟨by decide, by decide⟩ ?_
        have J48 : mm_W x 0 0 48 [mR 63, mI p1, mI x2_2, mU] [] h2_ := by
          have g9 : -2147483648 ≤ h2_.1 63 5 ∧ h2_.1 63 5 ≤ 2147483647 := i2_.1 63 5
          have g10 : 0 ≤ h2_.1 63 7 ∧ h2_.1 63 7 ≤ 500 := i2_.1 63 7
          refine mm_aload_n C (mm_dec dk_X7_readNot 24 rfl) rfl ?_
          refine mm_iload_n C (mm_dec dk_X7_readNot 25 rfl) rfl ?_
          refine mm_cVi (rest := []) C1 ev_X7_107 (mm_dec dk_X7_readNot 26 rfl) (c_X7_readTest_k5 x.2.1 hl (d - 1) (by omega) h2_ i2_ p1 ⟨by omega, by omega⟩ (by omega)) rfl rfl (Nat.le_of_ble_eq_true rfl) ⟨by decide, by decide⟩ rfl (fun r50 h50c hp50 => ?_) (fun _ _ q => q.elim)
          obtain ⟨b50, i50c, g50c, y50_0⟩ := hp50
          have f50c : mm_fr [(63, 4), (63, 5), (63, 6), (63, 7), (63, 8), (63, 9), (63, 10)] [64] h h50c := mm_fr_tr f2_ g50c (by decide +kernel)
          have g12 : -2147483648 ≤ (h50c.1 63 5) ∧ (h50c.1 63 5) ≤ 2147483647 := i50c.1 63 5
          have g13 : 0 ≤ (h50c.1 63 7) ∧ (h50c.1 63 7) ≤ 500 := i50c.1 63 7
          refine mm_if_ne (tgt := 58) C (mm_dec dk_X7_readNot 27 rfl) (by decide) (fun c53 => ?_) (fun c53 => ?_)
          · skip
            refine mm_iconst C (mm_dec dk_X7_readNot 30 rfl) ⟨by decide, by decide⟩ ?_
            have J60 : ∀ (n : Nat) (x60_3 : Int) (bx60_3 : 0 ≤ x60_3 ∧ x60_3 ≤ 7) (h60_ : mH) (i60_ : mm_inv h60_) (f60_ : mm_fr [(63, 4), (63, 5), (63, 6), (63, 7), (63, 8), (63, 9), (63, 10)] [64] h h60_) (w60_0 : (h60_.1 63 5 = 0 ∨ h60_.1 63 7 ≤ 499)), (7 - x60_3 : Int) < n → mm_W x 0 0 60 [mR 63, mU, mI x2_2, mI x60_3] [] h60_ := by
              intro n
              induction n with
              | zero =>
                intro x60_3 bx60_3 h60_ i60_ f60_ w60_0 hm
                have g14 : -2147483648 ≤ h60_.1 63 5 ∧ h60_.1 63 5 ≤ 2147483647 := i60_.1 63 5
                have g15 : 0 ≤ h60_.1 63 7 ∧ h60_.1 63 7 ≤ 500 := i60_.1 63 7
                exfalso; omega
              | succ n ih60 =>
                intro x60_3 bx60_3 h60_ i60_ f60_ w60_0 hm60
                have g16 : -2147483648 ≤ h60_.1 63 5 ∧ h60_.1 63 5 ≤ 2147483647 := i60_.1 63 5
                have g17 : 0 ≤ h60_.1 63 7 ∧ h60_.1 63 7 ≤ 500 := i60_.1 63 7
                refine mm_iload_n C (mm_dec dk_X7_readNot 32 rfl) rfl ?_
                refine mm_iload_n C (mm_dec dk_X7_readNot 33 rfl) rfl ?_
                refine mm_icmp_ge (tgt := 77) C (mm_dec dk_X7_readNot 34 rfl) (by decide) (fun c62 => ?_) (fun c62 => ?_)
                · skip
                  refine mm_iconst C (mm_dec dk_X7_readNot 40 rfl) ⟨by decide, by decide⟩ ?_
                  exact mm_zret C T (mm_dec dk_X7_readNot 41 rfl) (by decide : 0 ≤ 0) (by decide : 0 ≤ 0) (by omega) ⟨_, rfl, ⟨⟨by omega, by omega⟩, i60_, f60_, by omega⟩⟩
                · skip
                  refine mm_aload_n C (mm_dec dk_X7_readNot 35 rfl) rfl ?_
                  refine mm_ldc (z := 100010) C (mm_dec dk_X7_readNot 36 rfl) kc_X7_110 (by decide) ?_
                  refine mm_cVv (rest := []) C1 ev_X7_79 (mm_dec dk_X7_readNot 37 rfl) (c_X7_emit x.2.1 hl (d - 1) (by omega) h60_ i60_ 100010) rfl rfl (Nat.le_of_ble_eq_true rfl) ⟨by decide, by decide⟩ rfl (fun h68c hp68 => ?_) (fun _ _ q => q.elim)
                  obtain ⟨i68c, g68c⟩ := hp68
                  have f68c : mm_fr [(63, 4), (63, 5), (63, 6), (63, 7), (63, 8), (63, 9), (63, 10)] [64] h h68c := mm_fr_tr f60_ g68c (by decide +kernel)
                  have q68c_19 : h68c.1 63 5 = h60_.1 63 5 := g68c.1 63 5 (by decide)
                  have q68c_20 : h68c.1 63 7 = h60_.1 63 7 := g68c.1 63 7 (by decide)
                  refine mm_iincL (ls2 := [mR 63, mU, mI x2_2, mI (x60_3 + 1)]) C (mm_dec dk_X7_readNot 38 rfl) rfl (by decide) ⟨by omega, by omega⟩ rfl ?_
                  refine mm_goto (tgt := 60) C (mm_dec dk_X7_readNot 39 rfl) (by decide) ?_
                  exact ih60 (x60_3 + 1) ⟨by omega, by omega⟩ h68c i68c f68c (by omega) (by omega)
            refine mm_istore_nL (ls2 := [mR 63, mI p1, mI x2_2, mI 0]) C (mm_dec dk_X7_readNot 31 rfl) (by decide) rfl ?_
            refine mm_fgt 1 ?_
            exact J60 (((7 - 0) : Int) + 1).toNat 0 ⟨by omega, by omega⟩ h50c i50c f50c (by omega) (by omega)
          · skip
            refine mm_iconst C (mm_dec dk_X7_readNot 28 rfl) ⟨by decide, by decide⟩ ?_
            exact mm_zret C T (mm_dec dk_X7_readNot 29 rfl) (by decide : 0 ≤ 0) (by decide : 0 ≤ 0) (by omega) ⟨_, rfl, ⟨⟨by omega, by omega⟩, i50c, f50c, by omega⟩⟩
        refine mm_icmp_ne (tgt := 48) C (mm_dec dk_X7_readNot 15 rfl) (by decide) (fun c30 => ?_) (fun c30 => ?_)
        · skip
          exact J48
        · skip
          refine mm_aload_n C (mm_dec dk_X7_readNot 16 rfl) rfl ?_
          refine mm_geti C fl_X7_28 (mm_dec dk_X7_readNot 17 rfl) rfl rfl (Or.inl rfl) ?_
          have g21 : -2147483648 ≤ (h2_.1 63 6) ∧ (h2_.1 63 6) ≤ 2147483647 := i2_.1 63 6
          refine mm_bipush C (mm_dec dk_X7_readNot 18 rfl) ⟨by decide, by decide⟩ ?_
          refine mm_icmp_ne (tgt := 48) C (mm_dec dk_X7_readNot 19 rfl) (by decide) (fun c39 => ?_) (fun c39 => ?_)
          · skip
            exact J48
          · skip
            refine mm_aload_n C (mm_dec dk_X7_readNot 20 rfl) rfl ?_
            refine mm_iconst C (mm_dec dk_X7_readNot 21 rfl) ⟨by decide, by decide⟩ ?_
            refine mm_cVi (rest := []) C1 ev_X7_65 (mm_dec dk_X7_readNot 22 rfl) (c_X7_refuse x.2.1 hl (d - 1) (by omega) h2_ i2_ 2) rfl rfl (Nat.le_of_ble_eq_true rfl) ⟨by decide, by decide⟩ rfl (fun r44 h44c hp44 => ?_) (fun _ _ q => q.elim)
            obtain ⟨b44, i44c, g44c⟩ := hp44
            have f44c : mm_fr [(63, 4), (63, 5), (63, 6), (63, 7), (63, 8), (63, 9), (63, 10)] [64] h h44c := mm_fr_tr f2_ g44c (by decide +kernel)
            have q44c_23 : h44c.1 63 5 = h2_.1 63 5 := g44c.1 63 5 (by decide)
            have q44c_24 : h44c.1 63 6 = h2_.1 63 6 := g44c.1 63 6 (by decide)
            have q44c_25 : h44c.1 63 7 = h2_.1 63 7 := g44c.1 63 7 (by decide)
            exact mm_zret C T (mm_dec dk_X7_readNot 23 rfl) (by decide : 0 ≤ 0) (by decide : 0 ≤ 0) (by omega) ⟨_, rfl, ⟨⟨by omega, by omega⟩, i44c, f44c, by omega⟩⟩
      refine mm_icmp_ge (tgt := 27) C (mm_dec dk_X7_readNot 4 rfl) (by decide) (fun c5 => ?_) (fun c5 => ?_)
      · skip
        exact J27
      · skip
        refine mm_aload_n C (mm_dec dk_X7_readNot 5 rfl) rfl ?_
        refine mm_geti C fl_X7_28 (mm_dec dk_X7_readNot 6 rfl) rfl rfl (Or.inl rfl) ?_
        have g26 : -2147483648 ≤ (h2_.1 63 6) ∧ (h2_.1 63 6) ≤ 2147483647 := i2_.1 63 6
        refine mm_bipush C (mm_dec dk_X7_readNot 7 rfl) ⟨by decide, by decide⟩ ?_
        refine mm_icmp_ne (tgt := 27) C (mm_dec dk_X7_readNot 8 rfl) (by decide) (fun c14 => ?_) (fun c14 => ?_)
        · skip
          exact J27
        · skip
          refine mm_iincL (ls2 := [mR 63, mI p1, mI (x2_2 + 1), mU]) C (mm_dec dk_X7_readNot 9 rfl) rfl (by decide) ⟨by omega, by omega⟩ rfl ?_
          refine mm_aload_n C (mm_dec dk_X7_readNot 10 rfl) rfl ?_
          refine mm_cVv (rest := []) C1 ev_X7_52 (mm_dec dk_X7_readNot 11 rfl) (c_X7_step x.2.1 hl (d - 1) (by omega) h2_ i2_ ) rfl rfl (Nat.le_of_ble_eq_true rfl) ⟨by decide, by decide⟩ rfl (fun h21c hp21 => ?_) (fun _ _ q => q.elim)
          obtain ⟨i21c, g21c, y21_0⟩ := hp21
          have f21c : mm_fr [(63, 4), (63, 5), (63, 6), (63, 7), (63, 8), (63, 9), (63, 10)] [64] h h21c := mm_fr_tr f2_ g21c (by decide +kernel)
          have g28 : -2147483648 ≤ (h21c.1 63 5) ∧ (h21c.1 63 5) ≤ 2147483647 := i21c.1 63 5
          have g29 : 0 ≤ (h21c.1 63 7) ∧ (h21c.1 63 7) ≤ 500 := i21c.1 63 7
          refine mm_goto (tgt := 2) C (mm_dec dk_X7_readNot 12 rfl) (by decide) ?_
          exact ih2 (x2_2 + 1) ⟨by omega, by omega⟩ h21c i21c f21c (by omega) (by omega)
  refine mm_istore_nL (ls2 := [mR 63, mI p1, mI 0, mU]) C (mm_dec dk_X7_readNot 1 rfl) (by decide) rfl ?_
  exact J2 (((7 - 0) : Int) + 1).toNat 0 ⟨by omega, by omega⟩ h i0 f0 (by omega) (by omega)
set_option maxRecDepth 100000 in
set_option maxHeartbeats 4000000 in
theorem c_X7_readAnd_k5 (l : Launch) (hl : l.stackTraces = false) (d : Nat) (hd : 11 ≤ d) (h : mH) (i0 : mm_inv h) (p1 : Int) (bp1 : 5 ≤ p1 ∧ p1 ≤ 5) (t0 : (h.1 63 5 = 0 ∨ h.1 63 7 ≤ 499)) : mm_Met l d yX7_readAnd cX7_readAnd 3 (some .boolean) [mR 63, mI p1] h (mm_pi fun r h2 => (0 ≤ r ∧ r ≤ 1) ∧ mm_inv h2 ∧ mm_fr [(63, 4), (63, 5), (63, 6), (63, 7), (63, 8), (63, 9), (63, 10)] [64] h h2 ∧ (h2.1 63 5 = 0 ∨ h2.1 63 7 ≤ 499)) mm_nx 0 0 := by
  refine mm_ofW (ls := [mR 63, mI p1, mU]) hl (by decide) rfl (Nat.le_of_ble_eq_true rfl) ?_
  intro x hxl C T hnm htb
  subst hxl
  have C1 := mm_OK_le (d' := d - 1 + 1) (by omega) C
  have C8 := mm_OK_le (d' := d - 8 + 8) (by omega) C
  refine mm_rng (fun hr _ => ?_)
  have ap1 : -2147483648 ≤ p1 ∧ p1 < 2147483648 := mm_ok_at hr (i := 1) rfl
  have f0 : mm_fr [(63, 4), (63, 5), (63, 6), (63, 7), (63, 8), (63, 9), (63, 10)] [64] h h := mm_fr_rf
  have g1 : -2147483648 ≤ h.1 63 5 ∧ h.1 63 5 ≤ 2147483647 := i0.1 63 5
  have g2 : 0 ≤ h.1 63 7 ∧ h.1 63 7 ≤ 500 := i0.1 63 7
  refine mm_aload_n C (mm_dec dk_X7_readAnd 0 rfl) rfl ?_
  refine mm_iload_n C (mm_dec dk_X7_readAnd 1 rfl) rfl ?_
  refine mm_cVi (rest := []) C1 ev_X7_103 (mm_dec dk_X7_readAnd 2 rfl) (c_X7_readNot_k5 x.2.1 hl (d - 1) (by omega) h i0 p1 ⟨by omega, by omega⟩ (by omega)) rfl rfl (Nat.le_of_ble_eq_true rfl) ⟨by decide, by decide⟩ rfl (fun r2 h2c hp2 => ?_) (fun _ _ q => q.elim)
  obtain ⟨b2, i2c, g2c, y2_0⟩ := hp2
  have f2c : mm_fr [(63, 4), (63, 5), (63, 6), (63, 7), (63, 8), (63, 9), (63, 10)] [64] h h2c := mm_fr_tr f0 g2c (by decide +kernel)
  have g4 : -2147483648 ≤ (h2c.1 63 5) ∧ (h2c.1 63 5) ≤ 2147483647 := i2c.1 63 5
  have g5 : 0 ≤ (h2c.1 63 7) ∧ (h2c.1 63 7) ≤ 500 := i2c.1 63 7
  refine mm_if_ne (tgt := 10) C (mm_dec dk_X7_readAnd 3 rfl) (by decide) (fun c5 => ?_) (fun c5 => ?_)
  · skip
    refine mm_iconst C (mm_dec dk_X7_readAnd 6 rfl) ⟨by decide, by decide⟩ ?_
    have J12 : ∀ (n : Nat) (x12_2 : Int) (bx12_2 : 0 ≤ x12_2 ∧ x12_2 ≤ 500) (h12_ : mH) (i12_ : mm_inv h12_) (f12_ : mm_fr [(63, 4), (63, 5), (63, 6), (63, 7), (63, 8), (63, 9), (63, 10)] [64] h h12_) (w12_0 : (h12_.1 63 5 = 0 ∨ h12_.1 63 7 ≤ 499)), (500 - x12_2 : Int) < n → mm_W x 0 0 12 [mR 63, mI p1, mI x12_2] [] h12_ := by
      intro n
      induction n with
      | zero =>
        intro x12_2 bx12_2 h12_ i12_ f12_ w12_0 hm
        have g6 : -2147483648 ≤ h12_.1 63 5 ∧ h12_.1 63 5 ≤ 2147483647 := i12_.1 63 5
        have g7 : 0 ≤ h12_.1 63 7 ∧ h12_.1 63 7 ≤ 500 := i12_.1 63 7
        exfalso; omega
      | succ n ih12 =>
        intro x12_2 bx12_2 h12_ i12_ f12_ w12_0 hm12
        have g8 : -2147483648 ≤ h12_.1 63 5 ∧ h12_.1 63 5 ≤ 2147483647 := i12_.1 63 5
        have g9 : 0 ≤ h12_.1 63 7 ∧ h12_.1 63 7 ≤ 500 := i12_.1 63 7
        refine mm_iload_n C (mm_dec dk_X7_readAnd 8 rfl) rfl ?_
        refine mm_sipush C (mm_dec dk_X7_readAnd 9 rfl) ⟨by decide, by decide⟩ ?_
        have J53 : mm_W x 0 0 53 [mU, mU, mU] [] h12_ := by
          have g10 : -2147483648 ≤ h12_.1 63 5 ∧ h12_.1 63 5 ≤ 2147483647 := i12_.1 63 5
          have g11 : 0 ≤ h12_.1 63 7 ∧ h12_.1 63 7 ≤ 500 := i12_.1 63 7
          refine mm_iconst C (mm_dec dk_X7_readAnd 28 rfl) ⟨by decide, by decide⟩ ?_
          exact mm_zret C T (mm_dec dk_X7_readAnd 29 rfl) (by decide : 0 ≤ 0) (by decide : 0 ≤ 0) (by omega) ⟨_, rfl, ⟨⟨by omega, by omega⟩, i12_, f12_, by omega⟩⟩
        refine mm_icmp_ge (tgt := 53) C (mm_dec dk_X7_readAnd 10 rfl) (by decide) (fun c16 => ?_) (fun c16 => ?_)
        · skip
          refine mm_fgt 0 ?_
          refine mm_fgt 1 ?_
          refine mm_fgt 2 ?_
          exact J53
        · skip
          refine mm_aload_n C (mm_dec dk_X7_readAnd 11 rfl) rfl ?_
          refine mm_geti C fl_X7_28 (mm_dec dk_X7_readAnd 12 rfl) rfl rfl (Or.inl rfl) ?_
          have g12 : -2147483648 ≤ (h12_.1 63 6) ∧ (h12_.1 63 6) ≤ 2147483647 := i12_.1 63 6
          refine mm_iconst C (mm_dec dk_X7_readAnd 13 rfl) ⟨by decide, by decide⟩ ?_
          refine mm_icmp_ne (tgt := 53) C (mm_dec dk_X7_readAnd 14 rfl) (by decide) (fun c24 => ?_) (fun c24 => ?_)
          · skip
            refine mm_fgt 0 ?_
            refine mm_fgt 1 ?_
            refine mm_fgt 2 ?_
            exact J53
          · skip
            refine mm_aload_n C (mm_dec dk_X7_readAnd 15 rfl) rfl ?_
            refine mm_cVv (rest := []) C1 ev_X7_52 (mm_dec dk_X7_readAnd 16 rfl) (c_X7_step x.2.1 hl (d - 1) (by omega) h12_ i12_ ) rfl rfl (Nat.le_of_ble_eq_true rfl) ⟨by decide, by decide⟩ rfl (fun h28c hp28 => ?_) (fun _ _ q => q.elim)
            obtain ⟨i28c, g28c, y28_0⟩ := hp28
            have f28c : mm_fr [(63, 4), (63, 5), (63, 6), (63, 7), (63, 8), (63, 9), (63, 10)] [64] h h28c := mm_fr_tr f12_ g28c (by decide +kernel)
            have g14 : -2147483648 ≤ (h28c.1 63 5) ∧ (h28c.1 63 5) ≤ 2147483647 := i28c.1 63 5
            have g15 : 0 ≤ (h28c.1 63 7) ∧ (h28c.1 63 7) ≤ 500 := i28c.1 63 7
            refine mm_aload_n C (mm_dec dk_X7_readAnd 17 rfl) rfl ?_
            refine mm_iload_n C (mm_dec dk_X7_readAnd 18 rfl) rfl ?_
            refine mm_cVi (rest := []) C1 ev_X7_103 (mm_dec dk_X7_readAnd 19 rfl) (c_X7_readNot_k5 x.2.1 hl (d - 1) (by omega) h28c i28c p1 ⟨by omega, by omega⟩ (by omega)) rfl rfl (Nat.le_of_ble_eq_true rfl) ⟨by decide, by decide⟩ rfl (fun r33 h33c hp33 => ?_) (fun _ _ q => q.elim)
            obtain ⟨b33, i33c, g33c, y33_0⟩ := hp33
            have f33c : mm_fr [(63, 4), (63, 5), (63, 6), (63, 7), (63, 8), (63, 9), (63, 10)] [64] h h33c := mm_fr_tr f28c g33c (by decide +kernel)
            have g17 : -2147483648 ≤ (h33c.1 63 5) ∧ (h33c.1 63 5) ≤ 2147483647 := i33c.1 63 5
            have g18 : 0 ≤ (h33c.1 63 7) ∧ (h33c.1 63 7) ≤ 500 := i33c.1 63 7
            refine mm_if_ne (tgt := 41) C (mm_dec dk_X7_readAnd 20 rfl) (by decide) (fun c36 => ?_) (fun c36 => ?_)
            · skip
              refine mm_aload_n C (mm_dec dk_X7_readAnd 23 rfl) rfl ?_
              refine mm_ldc (z := 100012) C (mm_dec dk_X7_readAnd 24 rfl) kc_X7_106 (by decide) ?_
              refine mm_cVv (rest := []) C1 ev_X7_79 (mm_dec dk_X7_readAnd 25 rfl) (c_X7_emit x.2.1 hl (d - 1) (by omega) h33c i33c 100012) rfl rfl (Nat.le_of_ble_eq_true rfl) ⟨by decide, by decide⟩ rfl (fun h44c hp44 => ?_) (fun _ _ q => q.elim)
              obtain ⟨i44c, g44c⟩ := hp44
              have f44c : mm_fr [(63, 4), (63, 5), (63, 6), (63, 7), (63, 8), (63, 9), (63, 10)] [64] h h44c := mm_fr_tr f33c g44c (by decide +kernel)
              have q44c_20 : h44c.1 63 5 = h33c.1 63 5 := g44c.1 63 5 (by decide)
              have q44c_21 : h44c.1 63 7 = h33c.1 63 7 := g44c.1 63 7 (by decide)
              refine mm_iincL (ls2 := [mR 63, mI p1, mI (x12_2 + 1)]) C (mm_dec dk_X7_readAnd 26 rfl) rfl (by decide) ⟨by omega, by omega⟩ rfl ?_
              refine mm_goto (tgt := 12) C (mm_dec dk_X7_readAnd 27 rfl) (by decide) ?_
              exact ih12 (x12_2 + 1) ⟨by omega, by omega⟩ h44c i44c f44c (by omega) (by omega)
            · skip
              refine mm_iconst C (mm_dec dk_X7_readAnd 21 rfl) ⟨by decide, by decide⟩ ?_
              exact mm_zret C T (mm_dec dk_X7_readAnd 22 rfl) (by decide : 0 ≤ 0) (by decide : 0 ≤ 0) (by omega) ⟨_, rfl, ⟨⟨by omega, by omega⟩, i33c, f33c, by omega⟩⟩
    refine mm_istore_nL (ls2 := [mR 63, mI p1, mI 0]) C (mm_dec dk_X7_readAnd 7 rfl) (by decide) rfl ?_
    exact J12 (((500 - 0) : Int) + 1).toNat 0 ⟨by omega, by omega⟩ h2c i2c f2c (by omega) (by omega)
  · skip
    refine mm_iconst C (mm_dec dk_X7_readAnd 4 rfl) ⟨by decide, by decide⟩ ?_
    exact mm_zret C T (mm_dec dk_X7_readAnd 5 rfl) (by decide : 0 ≤ 0) (by decide : 0 ≤ 0) (by omega) ⟨_, rfl, ⟨⟨by omega, by omega⟩, i2c, f2c, by omega⟩⟩
set_option maxRecDepth 100000 in
set_option maxHeartbeats 4000000 in
theorem c_X7_readOr_k5 (l : Launch) (hl : l.stackTraces = false) (d : Nat) (hd : 12 ≤ d) (h : mH) (i0 : mm_inv h) (p1 : Int) (bp1 : 5 ≤ p1 ∧ p1 ≤ 5) (t0 : (h.1 63 5 = 0 ∨ h.1 63 7 ≤ 499)) : mm_Met l d yX7_readOr cX7_readOr 3 (some .boolean) [mR 63, mI p1] h (mm_pi fun r h2 => (0 ≤ r ∧ r ≤ 1) ∧ mm_inv h2 ∧ mm_fr [(63, 4), (63, 5), (63, 6), (63, 7), (63, 8), (63, 9), (63, 10)] [64] h h2 ∧ (h2.1 63 5 = 0 ∨ h2.1 63 7 ≤ 499)) mm_nx 0 0 := by
  refine mm_ofW (ls := [mR 63, mI p1, mU]) hl (by decide) rfl (Nat.le_of_ble_eq_true rfl) ?_
  intro x hxl C T hnm htb
  subst hxl
  have C1 := mm_OK_le (d' := d - 1 + 1) (by omega) C
  have C8 := mm_OK_le (d' := d - 8 + 8) (by omega) C
  refine mm_rng (fun hr _ => ?_)
  have ap1 : -2147483648 ≤ p1 ∧ p1 < 2147483648 := mm_ok_at hr (i := 1) rfl
  have f0 : mm_fr [(63, 4), (63, 5), (63, 6), (63, 7), (63, 8), (63, 9), (63, 10)] [64] h h := mm_fr_rf
  have g1 : -2147483648 ≤ h.1 63 5 ∧ h.1 63 5 ≤ 2147483647 := i0.1 63 5
  have g2 : 0 ≤ h.1 63 7 ∧ h.1 63 7 ≤ 500 := i0.1 63 7
  refine mm_iload_n C (mm_dec dk_X7_readOr 0 rfl) rfl ?_
  refine mm_bipush C (mm_dec dk_X7_readOr 1 rfl) ⟨by decide, by decide⟩ ?_
  refine mm_icmp_lt (tgt := 41) C (mm_dec dk_X7_readOr 2 rfl) (by decide) (fun c3 => ?_) (fun c3 => ?_)
  · skip
    refine mm_aload_n C (mm_dec dk_X7_readOr 21 rfl) rfl ?_
    refine mm_iload_n C (mm_dec dk_X7_readOr 22 rfl) rfl ?_
    refine mm_cVi (rest := []) C1 ev_X7_99 (mm_dec dk_X7_readOr 23 rfl) (c_X7_readAnd_k5 x.2.1 hl (d - 1) (by omega) h i0 p1 ⟨by omega, by omega⟩ (by omega)) rfl rfl (Nat.le_of_ble_eq_true rfl) ⟨by decide, by decide⟩ rfl (fun r43 h43c hp43 => ?_) (fun _ _ q => q.elim)
    obtain ⟨b43, i43c, g43c, y43_0⟩ := hp43
    have f43c : mm_fr [(63, 4), (63, 5), (63, 6), (63, 7), (63, 8), (63, 9), (63, 10)] [64] h h43c := mm_fr_tr f0 g43c (by decide +kernel)
    have g4 : -2147483648 ≤ (h43c.1 63 5) ∧ (h43c.1 63 5) ≤ 2147483647 := i43c.1 63 5
    have g5 : 0 ≤ (h43c.1 63 7) ∧ (h43c.1 63 7) ≤ 500 := i43c.1 63 7
    refine mm_if_ne (tgt := 51) C (mm_dec dk_X7_readOr 24 rfl) (by decide) (fun c46 => ?_) (fun c46 => ?_)
    · skip
      refine mm_iconst C (mm_dec dk_X7_readOr 27 rfl) ⟨by decide, by decide⟩ ?_
      have J53 : ∀ (n : Nat) (x53_2 : Int) (bx53_2 : 0 ≤ x53_2 ∧ x53_2 ≤ 500) (h53_ : mH) (i53_ : mm_inv h53_) (f53_ : mm_fr [(63, 4), (63, 5), (63, 6), (63, 7), (63, 8), (63, 9), (63, 10)] [64] h h53_) (w53_0 : (h53_.1 63 5 = 0 ∨ h53_.1 63 7 ≤ 499)), (500 - x53_2 : Int) < n → mm_W x 0 0 53 [mR 63, mI p1, mI x53_2] [] h53_ := by
        intro n
        induction n with
        | zero =>
          intro x53_2 bx53_2 h53_ i53_ f53_ w53_0 hm
          have g6 : -2147483648 ≤ h53_.1 63 5 ∧ h53_.1 63 5 ≤ 2147483647 := i53_.1 63 5
          have g7 : 0 ≤ h53_.1 63 7 ∧ h53_.1 63 7 ≤ 500 := i53_.1 63 7
          exfalso; omega
        | succ n ih53 =>
          intro x53_2 bx53_2 h53_ i53_ f53_ w53_0 hm53
          have g8 : -2147483648 ≤ h53_.1 63 5 ∧ h53_.1 63 5 ≤ 2147483647 := i53_.1 63 5
          have g9 : 0 ≤ h53_.1 63 7 ∧ h53_.1 63 7 ≤ 500 := i53_.1 63 7
          refine mm_iload_n C (mm_dec dk_X7_readOr 29 rfl) rfl ?_
          refine mm_sipush C (mm_dec dk_X7_readOr 30 rfl) ⟨by decide, by decide⟩ ?_
          have J94 : mm_W x 0 0 94 [mU, mU, mU] [] h53_ := by
            have g10 : -2147483648 ≤ h53_.1 63 5 ∧ h53_.1 63 5 ≤ 2147483647 := i53_.1 63 5
            have g11 : 0 ≤ h53_.1 63 7 ∧ h53_.1 63 7 ≤ 500 := i53_.1 63 7
            refine mm_iconst C (mm_dec dk_X7_readOr 49 rfl) ⟨by decide, by decide⟩ ?_
            exact mm_zret C T (mm_dec dk_X7_readOr 50 rfl) (by decide : 0 ≤ 0) (by decide : 0 ≤ 0) (by omega) ⟨_, rfl, ⟨⟨by omega, by omega⟩, i53_, f53_, by omega⟩⟩
          refine mm_icmp_ge (tgt := 94) C (mm_dec dk_X7_readOr 31 rfl) (by decide) (fun c57 => ?_) (fun c57 => ?_)
          · skip
            refine mm_fgt 0 ?_
            refine mm_fgt 1 ?_
            refine mm_fgt 2 ?_
            exact J94
          · skip
            refine mm_aload_n C (mm_dec dk_X7_readOr 32 rfl) rfl ?_
            refine mm_geti C fl_X7_28 (mm_dec dk_X7_readOr 33 rfl) rfl rfl (Or.inl rfl) ?_
            have g12 : -2147483648 ≤ (h53_.1 63 6) ∧ (h53_.1 63 6) ≤ 2147483647 := i53_.1 63 6
            refine mm_iconst C (mm_dec dk_X7_readOr 34 rfl) ⟨by decide, by decide⟩ ?_
            refine mm_icmp_ne (tgt := 94) C (mm_dec dk_X7_readOr 35 rfl) (by decide) (fun c65 => ?_) (fun c65 => ?_)
            · skip
              refine mm_fgt 0 ?_
              refine mm_fgt 1 ?_
              refine mm_fgt 2 ?_
              exact J94
            · skip
              refine mm_aload_n C (mm_dec dk_X7_readOr 36 rfl) rfl ?_
              refine mm_cVv (rest := []) C1 ev_X7_52 (mm_dec dk_X7_readOr 37 rfl) (c_X7_step x.2.1 hl (d - 1) (by omega) h53_ i53_ ) rfl rfl (Nat.le_of_ble_eq_true rfl) ⟨by decide, by decide⟩ rfl (fun h69c hp69 => ?_) (fun _ _ q => q.elim)
              obtain ⟨i69c, g69c, y69_0⟩ := hp69
              have f69c : mm_fr [(63, 4), (63, 5), (63, 6), (63, 7), (63, 8), (63, 9), (63, 10)] [64] h h69c := mm_fr_tr f53_ g69c (by decide +kernel)
              have g14 : -2147483648 ≤ (h69c.1 63 5) ∧ (h69c.1 63 5) ≤ 2147483647 := i69c.1 63 5
              have g15 : 0 ≤ (h69c.1 63 7) ∧ (h69c.1 63 7) ≤ 500 := i69c.1 63 7
              refine mm_aload_n C (mm_dec dk_X7_readOr 38 rfl) rfl ?_
              refine mm_iload_n C (mm_dec dk_X7_readOr 39 rfl) rfl ?_
              refine mm_cVi (rest := []) C1 ev_X7_99 (mm_dec dk_X7_readOr 40 rfl) (c_X7_readAnd_k5 x.2.1 hl (d - 1) (by omega) h69c i69c p1 ⟨by omega, by omega⟩ (by omega)) rfl rfl (Nat.le_of_ble_eq_true rfl) ⟨by decide, by decide⟩ rfl (fun r74 h74c hp74 => ?_) (fun _ _ q => q.elim)
              obtain ⟨b74, i74c, g74c, y74_0⟩ := hp74
              have f74c : mm_fr [(63, 4), (63, 5), (63, 6), (63, 7), (63, 8), (63, 9), (63, 10)] [64] h h74c := mm_fr_tr f69c g74c (by decide +kernel)
              have g17 : -2147483648 ≤ (h74c.1 63 5) ∧ (h74c.1 63 5) ≤ 2147483647 := i74c.1 63 5
              have g18 : 0 ≤ (h74c.1 63 7) ∧ (h74c.1 63 7) ≤ 500 := i74c.1 63 7
              refine mm_if_ne (tgt := 82) C (mm_dec dk_X7_readOr 41 rfl) (by decide) (fun c77 => ?_) (fun c77 => ?_)
              · skip
                refine mm_aload_n C (mm_dec dk_X7_readOr 44 rfl) rfl ?_
                refine mm_ldc (z := 100011) C (mm_dec dk_X7_readOr 45 rfl) kc_X7_102 (by decide) ?_
                refine mm_cVv (rest := []) C1 ev_X7_79 (mm_dec dk_X7_readOr 46 rfl) (c_X7_emit x.2.1 hl (d - 1) (by omega) h74c i74c 100011) rfl rfl (Nat.le_of_ble_eq_true rfl) ⟨by decide, by decide⟩ rfl (fun h85c hp85 => ?_) (fun _ _ q => q.elim)
                obtain ⟨i85c, g85c⟩ := hp85
                have f85c : mm_fr [(63, 4), (63, 5), (63, 6), (63, 7), (63, 8), (63, 9), (63, 10)] [64] h h85c := mm_fr_tr f74c g85c (by decide +kernel)
                have q85c_20 : h85c.1 63 5 = h74c.1 63 5 := g85c.1 63 5 (by decide)
                have q85c_21 : h85c.1 63 7 = h74c.1 63 7 := g85c.1 63 7 (by decide)
                refine mm_iincL (ls2 := [mR 63, mI p1, mI (x53_2 + 1)]) C (mm_dec dk_X7_readOr 47 rfl) rfl (by decide) ⟨by omega, by omega⟩ rfl ?_
                refine mm_goto (tgt := 53) C (mm_dec dk_X7_readOr 48 rfl) (by decide) ?_
                exact ih53 (x53_2 + 1) ⟨by omega, by omega⟩ h85c i85c f85c (by omega) (by omega)
              · skip
                refine mm_iconst C (mm_dec dk_X7_readOr 42 rfl) ⟨by decide, by decide⟩ ?_
                exact mm_zret C T (mm_dec dk_X7_readOr 43 rfl) (by decide : 0 ≤ 0) (by decide : 0 ≤ 0) (by omega) ⟨_, rfl, ⟨⟨by omega, by omega⟩, i74c, f74c, by omega⟩⟩
      refine mm_istore_nL (ls2 := [mR 63, mI p1, mI 0]) C (mm_dec dk_X7_readOr 28 rfl) (by decide) rfl ?_
      exact J53 (((500 - 0) : Int) + 1).toNat 0 ⟨by omega, by omega⟩ h43c i43c f43c (by omega) (by omega)
    · skip
      refine mm_iconst C (mm_dec dk_X7_readOr 25 rfl) ⟨by decide, by decide⟩ ?_
      exact mm_zret C T (mm_dec dk_X7_readOr 26 rfl) (by decide : 0 ≤ 0) (by decide : 0 ≤ 0) (by omega) ⟨_, rfl, ⟨⟨by omega, by omega⟩, i43c, f43c, by omega⟩⟩
  · skip
    exfalso; omega
set_option maxRecDepth 100000 in
set_option maxHeartbeats 4000000 in
theorem c_X7_readPart_k4 (l : Launch) (hl : l.stackTraces = false) (d : Nat) (hd : 13 ≤ d) (h : mH) (i0 : mm_inv h) (p1 : Int) (bp1 : 4 ≤ p1 ∧ p1 ≤ 4) (t0 : (h.1 63 5 = 0 ∨ h.1 63 7 ≤ 499)) : mm_Met l d yX7_readPart cX7_readPart 2 (some .boolean) [mR 63, mI p1] h (mm_pi fun r h2 => (0 ≤ r ∧ r ≤ 1) ∧ mm_inv h2 ∧ mm_fr [(63, 4), (63, 5), (63, 6), (63, 7), (63, 8), (63, 9), (63, 10)] [64] h h2 ∧ (h2.1 63 5 = 0 ∨ h2.1 63 7 ≤ 499)) mm_nx 0 0 := by
  refine mm_ofW (ls := [mR 63, mI p1]) hl (by decide) rfl (Nat.le_of_ble_eq_true rfl) ?_
  intro x hxl C T hnm htb
  subst hxl
  have C1 := mm_OK_le (d' := d - 1 + 1) (by omega) C
  have C8 := mm_OK_le (d' := d - 8 + 8) (by omega) C
  refine mm_rng (fun hr _ => ?_)
  have ap1 : -2147483648 ≤ p1 ∧ p1 < 2147483648 := mm_ok_at hr (i := 1) rfl
  have f0 : mm_fr [(63, 4), (63, 5), (63, 6), (63, 7), (63, 8), (63, 9), (63, 10)] [64] h h := mm_fr_rf
  have g1 : -2147483648 ≤ h.1 63 5 ∧ h.1 63 5 ≤ 2147483647 := i0.1 63 5
  have g2 : 0 ≤ h.1 63 7 ∧ h.1 63 7 ≤ 500 := i0.1 63 7
  refine mm_aload_n C (mm_dec dk_X7_readPart 0 rfl) rfl ?_
  refine mm_bipush C (mm_dec dk_X7_readPart 1 rfl) ⟨by decide, by decide⟩ ?_
  refine mm_cVi (rest := []) C1 ev_X7_96 (mm_dec dk_X7_readPart 2 rfl) (c_X7_isSign x.2.1 hl (d - 1) (by omega) h i0 40 (by omega)) rfl rfl (Nat.le_of_ble_eq_true rfl) ⟨by decide, by decide⟩ rfl (fun r3 h3c hp3 => ?_) (fun _ _ q => q.elim)
  obtain ⟨z3, y3⟩ := hp3
  rw [z3]
  have g4 : -2147483648 ≤ (h.2.1 62 (h.1 63 7)) ∧ (h.2.1 62 (h.1 63 7)) ≤ 2147483647 := i0.2.1 62 (h.1 63 7)
  refine mm_if_eq (tgt := 38) C (mm_dec dk_X7_readPart 3 rfl) (by decide) (fun c6 => ?_) (fun c6 => ?_)
  · skip
    refine mm_aload_n C (mm_dec dk_X7_readPart 20 rfl) rfl ?_
    refine mm_geti C fl_X7_25 (mm_dec dk_X7_readPart 21 rfl) rfl rfl (Or.inl rfl) ?_
    refine mm_iconst C (mm_dec dk_X7_readPart 22 rfl) ⟨by decide, by decide⟩ ?_
    have J117 : ∀ (h117_ : mH) (i117_ : mm_inv h117_) (f117_ : mm_fr [(63, 4), (63, 5), (63, 6), (63, 7), (63, 8), (63, 9), (63, 10)] [64] h h117_) (w117_0 : (h117_.1 63 5 = 0 ∨ h117_.1 63 7 ≤ 499)), mm_W x 0 0 117 [mR 63, mU] [] h117_ := by
      intro h117_ i117_ f117_ w117_0
      have g5 : -2147483648 ≤ h117_.1 63 5 ∧ h117_.1 63 5 ≤ 2147483647 := i117_.1 63 5
      have g6 : 0 ≤ h117_.1 63 7 ∧ h117_.1 63 7 ≤ 500 := i117_.1 63 7
      refine mm_aload_n C (mm_dec dk_X7_readPart 61 rfl) rfl ?_
      refine mm_cVv (rest := []) C1 ev_X7_52 (mm_dec dk_X7_readPart 62 rfl) (c_X7_step x.2.1 hl (d - 1) (by omega) h117_ i117_ ) rfl rfl (Nat.le_of_ble_eq_true rfl) ⟨by decide, by decide⟩ rfl (fun h118c hp118 => ?_) (fun _ _ q => q.elim)
      obtain ⟨i118c, g118c, y118_0⟩ := hp118
      have f118c : mm_fr [(63, 4), (63, 5), (63, 6), (63, 7), (63, 8), (63, 9), (63, 10)] [64] h h118c := mm_fr_tr f117_ g118c (by decide +kernel)
      have g8 : -2147483648 ≤ (h118c.1 63 5) ∧ (h118c.1 63 5) ≤ 2147483647 := i118c.1 63 5
      have g9 : 0 ≤ (h118c.1 63 7) ∧ (h118c.1 63 7) ≤ 500 := i118c.1 63 7
      refine mm_iconst C (mm_dec dk_X7_readPart 63 rfl) ⟨by decide, by decide⟩ ?_
      exact mm_zret C T (mm_dec dk_X7_readPart 64 rfl) (by decide : 0 ≤ 0) (by decide : 0 ≤ 0) (by omega) ⟨_, rfl, ⟨⟨by omega, by omega⟩, i118c, f118c, by omega⟩⟩
    refine mm_icmp_ne (tgt := 100) C (mm_dec dk_X7_readPart 23 rfl) (by decide) (fun c43 => ?_) (fun c43 => ?_)
    · skip
      refine mm_aload_n C (mm_dec dk_X7_readPart 52 rfl) rfl ?_
      refine mm_cVi (rest := []) C1 ev_X7_89 (mm_dec dk_X7_readPart 53 rfl) (c_X7_isNumber x.2.1 hl (d - 1) (by omega) h i0 ) rfl rfl (Nat.le_of_ble_eq_true rfl) ⟨by decide, by decide⟩ rfl (fun r101 h101c hp101 => ?_) (fun _ _ q => q.elim)
      obtain ⟨b101, i101c, g101c⟩ := hp101
      have f101c : mm_fr [(63, 4), (63, 5), (63, 6), (63, 7), (63, 8), (63, 9), (63, 10)] [64] h h101c := mm_fr_tr f0 g101c (by decide +kernel)
      have q101c_11 : h101c.1 63 5 = h.1 63 5 := g101c.1 63 5 (by decide)
      have q101c_12 : h101c.1 63 7 = h.1 63 7 := g101c.1 63 7 (by decide)
      refine mm_if_ne (tgt := 109) C (mm_dec dk_X7_readPart 54 rfl) (by decide) (fun c104 => ?_) (fun c104 => ?_)
      · skip
        refine mm_aload_n C (mm_dec dk_X7_readPart 57 rfl) rfl ?_
        refine mm_aload_n C (mm_dec dk_X7_readPart 58 rfl) rfl ?_
        refine mm_cVi (rest := [mR 63]) C1 ev_X7_92 (mm_dec dk_X7_readPart 59 rfl) (c_X7_numberOfToken x.2.1 hl (d - 1) (by omega) h101c i101c ) rfl rfl (Nat.le_of_ble_eq_true rfl) ⟨by decide, by decide⟩ rfl (fun r111 h111c hp111 => ?_) (fun _ _ q => q.elim)
        obtain ⟨b111, z111⟩ := hp111
        rw [z111]
        refine mm_cVv (rest := []) C1 ev_X7_79 (mm_dec dk_X7_readPart 60 rfl) (c_X7_emit x.2.1 hl (d - 1) (by omega) h101c i101c r111) rfl rfl (Nat.le_of_ble_eq_true rfl) ⟨by decide, by decide⟩ rfl (fun h114c hp114 => ?_) (fun _ _ q => q.elim)
        obtain ⟨i114c, g114c⟩ := hp114
        have f114c : mm_fr [(63, 4), (63, 5), (63, 6), (63, 7), (63, 8), (63, 9), (63, 10)] [64] h h114c := mm_fr_tr f101c g114c (by decide +kernel)
        have q114c_15 : h114c.1 63 5 = h101c.1 63 5 := g114c.1 63 5 (by decide)
        have q114c_16 : h114c.1 63 7 = h101c.1 63 7 := g114c.1 63 7 (by decide)
        refine mm_fgt 1 ?_
        exact J117 h114c i114c f114c (by omega)
      · skip
        refine mm_iconst C (mm_dec dk_X7_readPart 55 rfl) ⟨by decide, by decide⟩ ?_
        exact mm_zret C T (mm_dec dk_X7_readPart 56 rfl) (by decide : 0 ≤ 0) (by decide : 0 ≤ 0) (by omega) ⟨_, rfl, ⟨⟨by omega, by omega⟩, i101c, f101c, by omega⟩⟩
    · skip
      refine mm_aload_n C (mm_dec dk_X7_readPart 24 rfl) rfl ?_
      refine mm_geti C fl_X7_28 (mm_dec dk_X7_readPart 25 rfl) rfl rfl (Or.inl rfl) ?_
      have g17 : -2147483648 ≤ (h.1 63 6) ∧ (h.1 63 6) ≤ 2147483647 := i0.1 63 6
      refine mm_bipush C (mm_dec dk_X7_readPart 26 rfl) ⟨by decide, by decide⟩ ?_
      refine mm_icmp_ge (tgt := 61) C (mm_dec dk_X7_readPart 27 rfl) (by decide) (fun c52 => ?_) (fun c52 => ?_)
      · skip
        refine mm_aload_n C (mm_dec dk_X7_readPart 32 rfl) rfl ?_
        refine mm_aload_n C (mm_dec dk_X7_readPart 33 rfl) rfl ?_
        refine mm_geti C fl_X7_28 (mm_dec dk_X7_readPart 34 rfl) rfl rfl (Or.inl rfl) ?_
        refine mm_bipush C (mm_dec dk_X7_readPart 35 rfl) ⟨by decide, by decide⟩ ?_
        have J94 : ∀ (s94_1 : Int) (bs94_1 : -2147483648 ≤ s94_1 ∧ s94_1 ≤ 2147483647), mm_W x 0 0 94 [mR 63, mU] [mI s94_1, mR 63] h := by
          intro s94_1 bs94_1
          have g18 : -2147483648 ≤ h.1 63 5 ∧ h.1 63 5 ≤ 2147483647 := i0.1 63 5
          have g19 : 0 ≤ h.1 63 7 ∧ h.1 63 7 ≤ 500 := i0.1 63 7
          refine mm_cVv (rest := []) C1 ev_X7_79 (mm_dec dk_X7_readPart 50 rfl) (c_X7_emit x.2.1 hl (d - 1) (by omega) h i0 s94_1) rfl rfl (Nat.le_of_ble_eq_true rfl) ⟨by decide, by decide⟩ rfl (fun h94c hp94 => ?_) (fun _ _ q => q.elim)
          obtain ⟨i94c, g94c⟩ := hp94
          have f94c : mm_fr [(63, 4), (63, 5), (63, 6), (63, 7), (63, 8), (63, 9), (63, 10)] [64] h h94c := mm_fr_tr f0 g94c (by decide +kernel)
          have q94c_21 : h94c.1 63 5 = h.1 63 5 := g94c.1 63 5 (by decide)
          have q94c_22 : h94c.1 63 6 = h.1 63 6 := g94c.1 63 6 (by decide)
          have q94c_23 : h94c.1 63 7 = h.1 63 7 := g94c.1 63 7 (by decide)
          refine mm_goto (tgt := 117) C (mm_dec dk_X7_readPart 51 rfl) (by decide) ?_
          exact J117 h94c i94c f94c (by omega)
        refine mm_icmp_ge (tgt := 84) C (mm_dec dk_X7_readPart 36 rfl) (by decide) (fun c68 => ?_) (fun c68 => ?_)
        · skip
          refine mm_ldc (z := 100000) C (mm_dec dk_X7_readPart 44 rfl) kc_X7_127 (by decide) ?_
          refine mm_aload_n C (mm_dec dk_X7_readPart 45 rfl) rfl ?_
          refine mm_geti C fl_X7_28 (mm_dec dk_X7_readPart 46 rfl) rfl rfl (Or.inl rfl) ?_
          refine mm_iaddw C (mm_dec dk_X7_readPart 47 rfl) ?_
          have g24 : -2147483648 ≤ (mm_w (100000 + (h.1 63 6))) ∧ (mm_w (100000 + (h.1 63 6))) < 2147483648 := mm_w_rg _
          refine mm_bipush C (mm_dec dk_X7_readPart 48 rfl) ⟨by decide, by decide⟩ ?_
          refine mm_isubw C (mm_dec dk_X7_readPart 49 rfl) ?_
          have g25 : -2147483648 ≤ (mm_w ((mm_w (100000 + (h.1 63 6))) - 10)) ∧ (mm_w ((mm_w (100000 + (h.1 63 6))) - 10)) < 2147483648 := mm_w_rg _
          refine mm_fgt 1 ?_
          exact J94 (mm_w ((mm_w (100000 + (h.1 63 6))) - 10)) ⟨by omega, by omega⟩
        · skip
          refine mm_ldc (z := 100007) C (mm_dec dk_X7_readPart 37 rfl) kc_X7_126 (by decide) ?_
          refine mm_aload_n C (mm_dec dk_X7_readPart 38 rfl) rfl ?_
          refine mm_geti C fl_X7_28 (mm_dec dk_X7_readPart 39 rfl) rfl rfl (Or.inl rfl) ?_
          refine mm_iadd C (mm_dec dk_X7_readPart 40 rfl) ⟨by omega, by omega⟩ ?_
          refine mm_bipush C (mm_dec dk_X7_readPart 41 rfl) ⟨by decide, by decide⟩ ?_
          refine mm_isub C (mm_dec dk_X7_readPart 42 rfl) ⟨by omega, by omega⟩ ?_
          refine mm_goto (tgt := 94) C (mm_dec dk_X7_readPart 43 rfl) (by decide) ?_
          refine mm_fgt 1 ?_
          exact J94 ((100007 + (h.1 63 6)) - 7) ⟨by omega, by omega⟩
      · skip
        refine mm_aload_n C (mm_dec dk_X7_readPart 28 rfl) rfl ?_
        refine mm_iconst C (mm_dec dk_X7_readPart 29 rfl) ⟨by decide, by decide⟩ ?_
        refine mm_cVi (rest := []) C1 ev_X7_65 (mm_dec dk_X7_readPart 30 rfl) (c_X7_refuse x.2.1 hl (d - 1) (by omega) h i0 3) rfl rfl (Nat.le_of_ble_eq_true rfl) ⟨by decide, by decide⟩ rfl (fun r57 h57c hp57 => ?_) (fun _ _ q => q.elim)
        obtain ⟨b57, i57c, g57c⟩ := hp57
        have f57c : mm_fr [(63, 4), (63, 5), (63, 6), (63, 7), (63, 8), (63, 9), (63, 10)] [64] h h57c := mm_fr_tr f0 g57c (by decide +kernel)
        have q57c_27 : h57c.1 63 5 = h.1 63 5 := g57c.1 63 5 (by decide)
        have q57c_28 : h57c.1 63 6 = h.1 63 6 := g57c.1 63 6 (by decide)
        have q57c_29 : h57c.1 63 7 = h.1 63 7 := g57c.1 63 7 (by decide)
        exact mm_zret C T (mm_dec dk_X7_readPart 31 rfl) (by decide : 0 ≤ 0) (by decide : 0 ≤ 0) (by omega) ⟨_, rfl, ⟨⟨by omega, by omega⟩, i57c, f57c, by omega⟩⟩
  · skip
    refine mm_aload_n C (mm_dec dk_X7_readPart 4 rfl) rfl ?_
    refine mm_cVv (rest := []) C1 ev_X7_52 (mm_dec dk_X7_readPart 5 rfl) (c_X7_step x.2.1 hl (d - 1) (by omega) h i0 ) rfl rfl (Nat.le_of_ble_eq_true rfl) ⟨by decide, by decide⟩ rfl (fun h10c hp10 => ?_) (fun _ _ q => q.elim)
    obtain ⟨i10c, g10c, y10_0⟩ := hp10
    have f10c : mm_fr [(63, 4), (63, 5), (63, 6), (63, 7), (63, 8), (63, 9), (63, 10)] [64] h h10c := mm_fr_tr f0 g10c (by decide +kernel)
    have g31 : -2147483648 ≤ (h10c.1 63 5) ∧ (h10c.1 63 5) ≤ 2147483647 := i10c.1 63 5
    have g32 : 0 ≤ (h10c.1 63 7) ∧ (h10c.1 63 7) ≤ 500 := i10c.1 63 7
    refine mm_aload_n C (mm_dec dk_X7_readPart 6 rfl) rfl ?_
    refine mm_iload_n C (mm_dec dk_X7_readPart 7 rfl) rfl ?_
    refine mm_iconst C (mm_dec dk_X7_readPart 8 rfl) ⟨by decide, by decide⟩ ?_
    refine mm_iadd C (mm_dec dk_X7_readPart 9 rfl) ⟨by omega, by omega⟩ ?_
    refine mm_cVi (rest := []) C1 ev_X7_75 (mm_dec dk_X7_readPart 10 rfl) (c_X7_readOr_k5 x.2.1 hl (d - 1) (by omega) h10c i10c (p1 + 1) ⟨by omega, by omega⟩ (by omega)) rfl rfl (Nat.le_of_ble_eq_true rfl) ⟨by decide, by decide⟩ rfl (fun r17 h17c hp17 => ?_) (fun _ _ q => q.elim)
    obtain ⟨b17, i17c, g17c, y17_0⟩ := hp17
    have f17c : mm_fr [(63, 4), (63, 5), (63, 6), (63, 7), (63, 8), (63, 9), (63, 10)] [64] h h17c := mm_fr_tr f10c g17c (by decide +kernel)
    have g34 : -2147483648 ≤ (h17c.1 63 5) ∧ (h17c.1 63 5) ≤ 2147483647 := i17c.1 63 5
    have g35 : 0 ≤ (h17c.1 63 7) ∧ (h17c.1 63 7) ≤ 500 := i17c.1 63 7
    have J37 : ∀ (s37_0 : Int) (bs37_0 : 0 ≤ s37_0 ∧ s37_0 ≤ 1) (h37_ : mH) (i37_ : mm_inv h37_) (f37_ : mm_fr [(63, 4), (63, 5), (63, 6), (63, 7), (63, 8), (63, 9), (63, 10)] [64] h h37_) (w37_0 : (h37_.1 63 5 = 0 ∨ h37_.1 63 7 ≤ 499)), mm_W x 0 0 37 [mU, mU] [mI s37_0] h37_ := by
      intro s37_0 bs37_0 h37_ i37_ f37_ w37_0
      have g36 : -2147483648 ≤ h37_.1 63 5 ∧ h37_.1 63 5 ≤ 2147483647 := i37_.1 63 5
      have g37 : 0 ≤ h37_.1 63 7 ∧ h37_.1 63 7 ≤ 500 := i37_.1 63 7
      exact mm_zret C T (mm_dec dk_X7_readPart 19 rfl) (by decide : 0 ≤ 0) (by decide : 0 ≤ 0) (by omega) ⟨_, rfl, ⟨⟨by omega, by omega⟩, i37_, f37_, by omega⟩⟩
    have J36 : ∀ (h36_ : mH) (i36_ : mm_inv h36_) (f36_ : mm_fr [(63, 4), (63, 5), (63, 6), (63, 7), (63, 8), (63, 9), (63, 10)] [64] h h36_) (w36_0 : (h36_.1 63 5 = 0 ∨ h36_.1 63 7 ≤ 499)), mm_W x 0 0 36 [mU, mU] [] h36_ := by
      intro h36_ i36_ f36_ w36_0
      have g38 : -2147483648 ≤ h36_.1 63 5 ∧ h36_.1 63 5 ≤ 2147483647 := i36_.1 63 5
      have g39 : 0 ≤ h36_.1 63 7 ∧ h36_.1 63 7 ≤ 500 := i36_.1 63 7
      refine mm_iconst C (mm_dec dk_X7_readPart 18 rfl) ⟨by decide, by decide⟩ ?_
      exact J37 0 ⟨by omega, by omega⟩ h36_ i36_ f36_ (by omega)
    refine mm_if_eq (tgt := 36) C (mm_dec dk_X7_readPart 11 rfl) (by decide) (fun c20 => ?_) (fun c20 => ?_)
    · skip
      refine mm_fgt 0 ?_
      refine mm_fgt 1 ?_
      exact J36 h17c i17c f17c (by omega)
    · skip
      refine mm_aload_n C (mm_dec dk_X7_readPart 12 rfl) rfl ?_
      refine mm_bipush C (mm_dec dk_X7_readPart 13 rfl) ⟨by decide, by decide⟩ ?_
      refine mm_cVi (rest := []) C1 ev_X7_72 (mm_dec dk_X7_readPart 14 rfl) (c_X7_readSign x.2.1 hl (d - 1) (by omega) h17c i17c 41 (by omega)) rfl rfl (Nat.le_of_ble_eq_true rfl) ⟨by decide, by decide⟩ rfl (fun r26 h26c hp26 => ?_) (fun _ _ q => q.elim)
      obtain ⟨b26, i26c, g26c, y26_0⟩ := hp26
      have f26c : mm_fr [(63, 4), (63, 5), (63, 6), (63, 7), (63, 8), (63, 9), (63, 10)] [64] h h26c := mm_fr_tr f17c g26c (by decide +kernel)
      have g41 : -2147483648 ≤ (h26c.1 63 5) ∧ (h26c.1 63 5) ≤ 2147483647 := i26c.1 63 5
      have g42 : 0 ≤ (h26c.1 63 7) ∧ (h26c.1 63 7) ≤ 500 := i26c.1 63 7
      refine mm_if_eq (tgt := 36) C (mm_dec dk_X7_readPart 15 rfl) (by decide) (fun c29 => ?_) (fun c29 => ?_)
      · skip
        refine mm_fgt 0 ?_
        refine mm_fgt 1 ?_
        exact J36 h26c i26c f26c (by omega)
      · skip
        refine mm_iconst C (mm_dec dk_X7_readPart 16 rfl) ⟨by decide, by decide⟩ ?_
        refine mm_goto (tgt := 37) C (mm_dec dk_X7_readPart 17 rfl) (by decide) ?_
        refine mm_fgt 0 ?_
        refine mm_fgt 1 ?_
        exact J37 1 ⟨by omega, by omega⟩ h26c i26c f26c (by omega)
set_option maxRecDepth 100000 in
set_option maxHeartbeats 4000000 in
theorem c_X7_readProduct_k4 (l : Launch) (hl : l.stackTraces = false) (d : Nat) (hd : 14 ≤ d) (h : mH) (i0 : mm_inv h) (p1 : Int) (bp1 : 4 ≤ p1 ∧ p1 ≤ 4) (t0 : (h.1 63 5 = 0 ∨ h.1 63 7 ≤ 499)) : mm_Met l d yX7_readProduct cX7_readProduct 4 (some .boolean) [mR 63, mI p1] h (mm_pi fun r h2 => (0 ≤ r ∧ r ≤ 1) ∧ mm_inv h2 ∧ mm_fr [(63, 4), (63, 5), (63, 6), (63, 7), (63, 8), (63, 9), (63, 10)] [64] h h2 ∧ (h2.1 63 5 = 0 ∨ h2.1 63 7 ≤ 499)) mm_nx 0 0 := by
  refine mm_ofW (ls := [mR 63, mI p1, mU, mU]) hl (by decide) rfl (Nat.le_of_ble_eq_true rfl) ?_
  intro x hxl C T hnm htb
  subst hxl
  have C1 := mm_OK_le (d' := d - 1 + 1) (by omega) C
  have C8 := mm_OK_le (d' := d - 8 + 8) (by omega) C
  refine mm_rng (fun hr _ => ?_)
  have ap1 : -2147483648 ≤ p1 ∧ p1 < 2147483648 := mm_ok_at hr (i := 1) rfl
  have f0 : mm_fr [(63, 4), (63, 5), (63, 6), (63, 7), (63, 8), (63, 9), (63, 10)] [64] h h := mm_fr_rf
  have g1 : -2147483648 ≤ h.1 63 5 ∧ h.1 63 5 ≤ 2147483647 := i0.1 63 5
  have g2 : 0 ≤ h.1 63 7 ∧ h.1 63 7 ≤ 500 := i0.1 63 7
  refine mm_aload_n C (mm_dec dk_X7_readProduct 0 rfl) rfl ?_
  refine mm_iload_n C (mm_dec dk_X7_readProduct 1 rfl) rfl ?_
  refine mm_cVi (rest := []) C1 ev_X7_121 (mm_dec dk_X7_readProduct 2 rfl) (c_X7_readPart_k4 x.2.1 hl (d - 1) (by omega) h i0 p1 ⟨by omega, by omega⟩ (by omega)) rfl rfl (Nat.le_of_ble_eq_true rfl) ⟨by decide, by decide⟩ rfl (fun r2 h2c hp2 => ?_) (fun _ _ q => q.elim)
  obtain ⟨b2, i2c, g2c, y2_0⟩ := hp2
  have f2c : mm_fr [(63, 4), (63, 5), (63, 6), (63, 7), (63, 8), (63, 9), (63, 10)] [64] h h2c := mm_fr_tr f0 g2c (by decide +kernel)
  have g4 : -2147483648 ≤ (h2c.1 63 5) ∧ (h2c.1 63 5) ≤ 2147483647 := i2c.1 63 5
  have g5 : 0 ≤ (h2c.1 63 7) ∧ (h2c.1 63 7) ≤ 500 := i2c.1 63 7
  refine mm_if_ne (tgt := 10) C (mm_dec dk_X7_readProduct 3 rfl) (by decide) (fun c5 => ?_) (fun c5 => ?_)
  · skip
    refine mm_iconst C (mm_dec dk_X7_readProduct 6 rfl) ⟨by decide, by decide⟩ ?_
    have J12 : ∀ (n : Nat) (x12_2 : Int) (bx12_2 : 0 ≤ x12_2 ∧ x12_2 ≤ 500) (h12_ : mH) (i12_ : mm_inv h12_) (f12_ : mm_fr [(63, 4), (63, 5), (63, 6), (63, 7), (63, 8), (63, 9), (63, 10)] [64] h h12_) (w12_0 : (h12_.1 63 5 = 0 ∨ h12_.1 63 7 ≤ 499)), (500 - x12_2 : Int) < n → mm_W x 0 0 12 [mR 63, mI p1, mI x12_2, mU] [] h12_ := by
      intro n
      induction n with
      | zero =>
        intro x12_2 bx12_2 h12_ i12_ f12_ w12_0 hm
        have g6 : -2147483648 ≤ h12_.1 63 5 ∧ h12_.1 63 5 ≤ 2147483647 := i12_.1 63 5
        have g7 : 0 ≤ h12_.1 63 7 ∧ h12_.1 63 7 ≤ 500 := i12_.1 63 7
        exfalso; omega
      | succ n ih12 =>
        intro x12_2 bx12_2 h12_ i12_ f12_ w12_0 hm12
        have g8 : -2147483648 ≤ h12_.1 63 5 ∧ h12_.1 63 5 ≤ 2147483647 := i12_.1 63 5
        have g9 : 0 ≤ h12_.1 63 7 ∧ h12_.1 63 7 ≤ 500 := i12_.1 63 7
        refine mm_iload_n C (mm_dec dk_X7_readProduct 8 rfl) rfl ?_
        refine mm_sipush C (mm_dec dk_X7_readProduct 9 rfl) ⟨by decide, by decide⟩ ?_
        have J79 : mm_W x 0 0 79 [mU, mU, mU, mU] [] h12_ := by
          have g10 : -2147483648 ≤ h12_.1 63 5 ∧ h12_.1 63 5 ≤ 2147483647 := i12_.1 63 5
          have g11 : 0 ≤ h12_.1 63 7 ∧ h12_.1 63 7 ≤ 500 := i12_.1 63 7
          refine mm_iconst C (mm_dec dk_X7_readProduct 40 rfl) ⟨by decide, by decide⟩ ?_
          exact mm_zret C T (mm_dec dk_X7_readProduct 41 rfl) (by decide : 0 ≤ 0) (by decide : 0 ≤ 0) (by omega) ⟨_, rfl, ⟨⟨by omega, by omega⟩, i12_, f12_, by omega⟩⟩
        refine mm_icmp_ge (tgt := 79) C (mm_dec dk_X7_readProduct 10 rfl) (by decide) (fun c16 => ?_) (fun c16 => ?_)
        · skip
          refine mm_fgt 0 ?_
          refine mm_fgt 1 ?_
          refine mm_fgt 2 ?_
          exact J79
        · skip
          refine mm_aload_n C (mm_dec dk_X7_readProduct 11 rfl) rfl ?_
          refine mm_bipush C (mm_dec dk_X7_readProduct 12 rfl) ⟨by decide, by decide⟩ ?_
          refine mm_cVi (rest := []) C1 ev_X7_96 (mm_dec dk_X7_readProduct 13 rfl) (c_X7_isSign x.2.1 hl (d - 1) (by omega) h12_ i12_ 42 (by omega)) rfl rfl (Nat.le_of_ble_eq_true rfl) ⟨by decide, by decide⟩ rfl (fun r22 h22c hp22 => ?_) (fun _ _ q => q.elim)
          obtain ⟨z22, y22⟩ := hp22
          rw [z22]
          have g13 : -2147483648 ≤ (h12_.2.1 62 (h12_.1 63 7)) ∧ (h12_.2.1 62 (h12_.1 63 7)) ≤ 2147483647 := i12_.2.1 62 (h12_.1 63 7)
          have J37 : mm_W x 0 0 37 [mR 63, mI p1, mI x12_2, mU] [] h12_ := by
            have g14 : -2147483648 ≤ h12_.1 63 5 ∧ h12_.1 63 5 ≤ 2147483647 := i12_.1 63 5
            have g15 : 0 ≤ h12_.1 63 7 ∧ h12_.1 63 7 ≤ 500 := i12_.1 63 7
            refine mm_aload_n C (mm_dec dk_X7_readProduct 19 rfl) rfl ?_
            refine mm_bipush C (mm_dec dk_X7_readProduct 20 rfl) ⟨by decide, by decide⟩ ?_
            refine mm_cVi (rest := []) C1 ev_X7_96 (mm_dec dk_X7_readProduct 21 rfl) (c_X7_isSign x.2.1 hl (d - 1) (by omega) h12_ i12_ 42 (by omega)) rfl rfl (Nat.le_of_ble_eq_true rfl) ⟨by decide, by decide⟩ rfl (fun r40 h40c hp40 => ?_) (fun _ _ q => q.elim)
            obtain ⟨z40, y40⟩ := hp40
            rw [z40]
            have J53 : ∀ (s53_0 : Int) (bs53_0 : 100017 ≤ s53_0 ∧ s53_0 ≤ 100018) (vs53_0 : (r40 ≠ 0 ∧ s53_0 = 100017) ∨ (r40 = 0 ∧ s53_0 = 100018)), mm_W x 0 0 53 [mR 63, mI p1, mI x12_2, mU] [mI s53_0] h12_ := by
              intro s53_0 bs53_0 vs53_0
              have g17 : -2147483648 ≤ h12_.1 63 5 ∧ h12_.1 63 5 ≤ 2147483647 := i12_.1 63 5
              have g18 : 0 ≤ h12_.1 63 7 ∧ h12_.1 63 7 ≤ 500 := i12_.1 63 7
              refine mm_istore_nL (ls2 := [mR 63, mI p1, mI x12_2, mI s53_0]) C (mm_dec dk_X7_readProduct 26 rfl) (by decide) rfl ?_
              refine mm_aload_n C (mm_dec dk_X7_readProduct 27 rfl) rfl ?_
              refine mm_cVv (rest := []) C1 ev_X7_52 (mm_dec dk_X7_readProduct 28 rfl) (c_X7_step x.2.1 hl (d - 1) (by omega) h12_ i12_ ) rfl rfl (Nat.le_of_ble_eq_true rfl) ⟨by decide, by decide⟩ rfl (fun h55c hp55 => ?_) (fun _ _ q => q.elim)
              obtain ⟨i55c, g55c, y55_0⟩ := hp55
              have f55c : mm_fr [(63, 4), (63, 5), (63, 6), (63, 7), (63, 8), (63, 9), (63, 10)] [64] h h55c := mm_fr_tr f12_ g55c (by decide +kernel)
              have g20 : -2147483648 ≤ (h55c.1 63 5) ∧ (h55c.1 63 5) ≤ 2147483647 := i55c.1 63 5
              have g21 : 0 ≤ (h55c.1 63 7) ∧ (h55c.1 63 7) ≤ 500 := i55c.1 63 7
              refine mm_aload_n C (mm_dec dk_X7_readProduct 29 rfl) rfl ?_
              refine mm_iload_n C (mm_dec dk_X7_readProduct 30 rfl) rfl ?_
              refine mm_cVi (rest := []) C1 ev_X7_121 (mm_dec dk_X7_readProduct 31 rfl) (c_X7_readPart_k4 x.2.1 hl (d - 1) (by omega) h55c i55c p1 ⟨by omega, by omega⟩ (by omega)) rfl rfl (Nat.le_of_ble_eq_true rfl) ⟨by decide, by decide⟩ rfl (fun r60 h60c hp60 => ?_) (fun _ _ q => q.elim)
              obtain ⟨b60, i60c, g60c, y60_0⟩ := hp60
              have f60c : mm_fr [(63, 4), (63, 5), (63, 6), (63, 7), (63, 8), (63, 9), (63, 10)] [64] h h60c := mm_fr_tr f55c g60c (by decide +kernel)
              have g23 : -2147483648 ≤ (h60c.1 63 5) ∧ (h60c.1 63 5) ≤ 2147483647 := i60c.1 63 5
              have g24 : 0 ≤ (h60c.1 63 7) ∧ (h60c.1 63 7) ≤ 500 := i60c.1 63 7
              refine mm_if_ne (tgt := 68) C (mm_dec dk_X7_readProduct 32 rfl) (by decide) (fun c63 => ?_) (fun c63 => ?_)
              · skip
                refine mm_aload_n C (mm_dec dk_X7_readProduct 35 rfl) rfl ?_
                refine mm_iload_n C (mm_dec dk_X7_readProduct 36 rfl) rfl ?_
                refine mm_cVv (rest := []) C1 ev_X7_79 (mm_dec dk_X7_readProduct 37 rfl) (c_X7_emit x.2.1 hl (d - 1) (by omega) h60c i60c s53_0) rfl rfl (Nat.le_of_ble_eq_true rfl) ⟨by decide, by decide⟩ rfl (fun h70c hp70 => ?_) (fun _ _ q => q.elim)
                obtain ⟨i70c, g70c⟩ := hp70
                have f70c : mm_fr [(63, 4), (63, 5), (63, 6), (63, 7), (63, 8), (63, 9), (63, 10)] [64] h h70c := mm_fr_tr f60c g70c (by decide +kernel)
                have q70c_26 : h70c.1 63 5 = h60c.1 63 5 := g70c.1 63 5 (by decide)
                have q70c_27 : h70c.1 63 7 = h60c.1 63 7 := g70c.1 63 7 (by decide)
                refine mm_iincL (ls2 := [mR 63, mI p1, mI (x12_2 + 1), mI s53_0]) C (mm_dec dk_X7_readProduct 38 rfl) rfl (by decide) ⟨by omega, by omega⟩ rfl ?_
                refine mm_goto (tgt := 12) C (mm_dec dk_X7_readProduct 39 rfl) (by decide) ?_
                refine mm_fgt 3 ?_
                exact ih12 (x12_2 + 1) ⟨by omega, by omega⟩ h70c i70c f70c (by omega) (by omega)
              · skip
                refine mm_iconst C (mm_dec dk_X7_readProduct 33 rfl) ⟨by decide, by decide⟩ ?_
                exact mm_zret C T (mm_dec dk_X7_readProduct 34 rfl) (by decide : 0 ≤ 0) (by decide : 0 ≤ 0) (by omega) ⟨_, rfl, ⟨⟨by omega, by omega⟩, i60c, f60c, by omega⟩⟩
            refine mm_if_eq (tgt := 51) C (mm_dec dk_X7_readProduct 22 rfl) (by decide) (fun c43 => ?_) (fun c43 => ?_)
            · skip
              refine mm_ldc (z := 100018) C (mm_dec dk_X7_readProduct 25 rfl) kc_X7_125 (by decide) ?_
              exact J53 100018 ⟨by omega, by omega⟩ (Or.inr (⟨by omega, rfl⟩))
            · skip
              refine mm_ldc (z := 100017) C (mm_dec dk_X7_readProduct 23 rfl) kc_X7_124 (by decide) ?_
              refine mm_goto (tgt := 53) C (mm_dec dk_X7_readProduct 24 rfl) (by decide) ?_
              exact J53 100017 ⟨by omega, by omega⟩ (Or.inl ⟨by omega, rfl⟩)
          refine mm_if_ne (tgt := 37) C (mm_dec dk_X7_readProduct 14 rfl) (by decide) (fun c25 => ?_) (fun c25 => ?_)
          · skip
            exact J37
          · skip
            refine mm_aload_n C (mm_dec dk_X7_readProduct 15 rfl) rfl ?_
            refine mm_bipush C (mm_dec dk_X7_readProduct 16 rfl) ⟨by decide, by decide⟩ ?_
            refine mm_cVi (rest := []) C1 ev_X7_96 (mm_dec dk_X7_readProduct 17 rfl) (c_X7_isSign x.2.1 hl (d - 1) (by omega) h12_ i12_ 47 (by omega)) rfl rfl (Nat.le_of_ble_eq_true rfl) ⟨by decide, by decide⟩ rfl (fun r31 h31c hp31 => ?_) (fun _ _ q => q.elim)
            obtain ⟨z31, y31⟩ := hp31
            rw [z31]
            refine mm_if_eq (tgt := 79) C (mm_dec dk_X7_readProduct 18 rfl) (by decide) (fun c34 => ?_) (fun c34 => ?_)
            · skip
              refine mm_fgt 0 ?_
              refine mm_fgt 1 ?_
              refine mm_fgt 2 ?_
              exact J79
            · skip
              exact J37
    refine mm_istore_nL (ls2 := [mR 63, mI p1, mI 0, mU]) C (mm_dec dk_X7_readProduct 7 rfl) (by decide) rfl ?_
    exact J12 (((500 - 0) : Int) + 1).toNat 0 ⟨by omega, by omega⟩ h2c i2c f2c (by omega) (by omega)
  · skip
    refine mm_iconst C (mm_dec dk_X7_readProduct 4 rfl) ⟨by decide, by decide⟩ ?_
    exact mm_zret C T (mm_dec dk_X7_readProduct 5 rfl) (by decide : 0 ≤ 0) (by decide : 0 ≤ 0) (by omega) ⟨_, rfl, ⟨⟨by omega, by omega⟩, i2c, f2c, by omega⟩⟩
set_option maxRecDepth 100000 in
set_option maxHeartbeats 4000000 in
theorem c_X7_readSum_k4 (l : Launch) (hl : l.stackTraces = false) (d : Nat) (hd : 15 ≤ d) (h : mH) (i0 : mm_inv h) (p1 : Int) (bp1 : 4 ≤ p1 ∧ p1 ≤ 4) (t0 : (h.1 63 5 = 0 ∨ h.1 63 7 ≤ 499)) : mm_Met l d yX7_readSum cX7_readSum 4 (some .boolean) [mR 63, mI p1] h (mm_pi fun r h2 => (0 ≤ r ∧ r ≤ 1) ∧ mm_inv h2 ∧ mm_fr [(63, 4), (63, 5), (63, 6), (63, 7), (63, 8), (63, 9), (63, 10)] [64] h h2 ∧ (h2.1 63 5 = 0 ∨ h2.1 63 7 ≤ 499)) mm_nx 0 0 := by
  refine mm_ofW (ls := [mR 63, mI p1, mU, mU]) hl (by decide) rfl (Nat.le_of_ble_eq_true rfl) ?_
  intro x hxl C T hnm htb
  subst hxl
  have C1 := mm_OK_le (d' := d - 1 + 1) (by omega) C
  have C8 := mm_OK_le (d' := d - 8 + 8) (by omega) C
  refine mm_rng (fun hr _ => ?_)
  have ap1 : -2147483648 ≤ p1 ∧ p1 < 2147483648 := mm_ok_at hr (i := 1) rfl
  have f0 : mm_fr [(63, 4), (63, 5), (63, 6), (63, 7), (63, 8), (63, 9), (63, 10)] [64] h h := mm_fr_rf
  have g1 : -2147483648 ≤ h.1 63 5 ∧ h.1 63 5 ≤ 2147483647 := i0.1 63 5
  have g2 : 0 ≤ h.1 63 7 ∧ h.1 63 7 ≤ 500 := i0.1 63 7
  refine mm_aload_n C (mm_dec dk_X7_readSum 0 rfl) rfl ?_
  refine mm_iload_n C (mm_dec dk_X7_readSum 1 rfl) rfl ?_
  refine mm_cVi (rest := []) C1 ev_X7_116 (mm_dec dk_X7_readSum 2 rfl) (c_X7_readProduct_k4 x.2.1 hl (d - 1) (by omega) h i0 p1 ⟨by omega, by omega⟩ (by omega)) rfl rfl (Nat.le_of_ble_eq_true rfl) ⟨by decide, by decide⟩ rfl (fun r2 h2c hp2 => ?_) (fun _ _ q => q.elim)
  obtain ⟨b2, i2c, g2c, y2_0⟩ := hp2
  have f2c : mm_fr [(63, 4), (63, 5), (63, 6), (63, 7), (63, 8), (63, 9), (63, 10)] [64] h h2c := mm_fr_tr f0 g2c (by decide +kernel)
  have g4 : -2147483648 ≤ (h2c.1 63 5) ∧ (h2c.1 63 5) ≤ 2147483647 := i2c.1 63 5
  have g5 : 0 ≤ (h2c.1 63 7) ∧ (h2c.1 63 7) ≤ 500 := i2c.1 63 7
  refine mm_if_ne (tgt := 10) C (mm_dec dk_X7_readSum 3 rfl) (by decide) (fun c5 => ?_) (fun c5 => ?_)
  · skip
    refine mm_iconst C (mm_dec dk_X7_readSum 6 rfl) ⟨by decide, by decide⟩ ?_
    have J12 : ∀ (n : Nat) (x12_2 : Int) (bx12_2 : 0 ≤ x12_2 ∧ x12_2 ≤ 500) (h12_ : mH) (i12_ : mm_inv h12_) (f12_ : mm_fr [(63, 4), (63, 5), (63, 6), (63, 7), (63, 8), (63, 9), (63, 10)] [64] h h12_) (w12_0 : (h12_.1 63 5 = 0 ∨ h12_.1 63 7 ≤ 499)), (500 - x12_2 : Int) < n → mm_W x 0 0 12 [mR 63, mI p1, mI x12_2, mU] [] h12_ := by
      intro n
      induction n with
      | zero =>
        intro x12_2 bx12_2 h12_ i12_ f12_ w12_0 hm
        have g6 : -2147483648 ≤ h12_.1 63 5 ∧ h12_.1 63 5 ≤ 2147483647 := i12_.1 63 5
        have g7 : 0 ≤ h12_.1 63 7 ∧ h12_.1 63 7 ≤ 500 := i12_.1 63 7
        exfalso; omega
      | succ n ih12 =>
        intro x12_2 bx12_2 h12_ i12_ f12_ w12_0 hm12
        have g8 : -2147483648 ≤ h12_.1 63 5 ∧ h12_.1 63 5 ≤ 2147483647 := i12_.1 63 5
        have g9 : 0 ≤ h12_.1 63 7 ∧ h12_.1 63 7 ≤ 500 := i12_.1 63 7
        refine mm_iload_n C (mm_dec dk_X7_readSum 8 rfl) rfl ?_
        refine mm_sipush C (mm_dec dk_X7_readSum 9 rfl) ⟨by decide, by decide⟩ ?_
        have J79 : mm_W x 0 0 79 [mU, mU, mU, mU] [] h12_ := by
          have g10 : -2147483648 ≤ h12_.1 63 5 ∧ h12_.1 63 5 ≤ 2147483647 := i12_.1 63 5
          have g11 : 0 ≤ h12_.1 63 7 ∧ h12_.1 63 7 ≤ 500 := i12_.1 63 7
          refine mm_iconst C (mm_dec dk_X7_readSum 40 rfl) ⟨by decide, by decide⟩ ?_
          exact mm_zret C T (mm_dec dk_X7_readSum 41 rfl) (by decide : 0 ≤ 0) (by decide : 0 ≤ 0) (by omega) ⟨_, rfl, ⟨⟨by omega, by omega⟩, i12_, f12_, by omega⟩⟩
        refine mm_icmp_ge (tgt := 79) C (mm_dec dk_X7_readSum 10 rfl) (by decide) (fun c16 => ?_) (fun c16 => ?_)
        · skip
          refine mm_fgt 0 ?_
          refine mm_fgt 1 ?_
          refine mm_fgt 2 ?_
          exact J79
        · skip
          refine mm_aload_n C (mm_dec dk_X7_readSum 11 rfl) rfl ?_
          refine mm_bipush C (mm_dec dk_X7_readSum 12 rfl) ⟨by decide, by decide⟩ ?_
          refine mm_cVi (rest := []) C1 ev_X7_96 (mm_dec dk_X7_readSum 13 rfl) (c_X7_isSign x.2.1 hl (d - 1) (by omega) h12_ i12_ 43 (by omega)) rfl rfl (Nat.le_of_ble_eq_true rfl) ⟨by decide, by decide⟩ rfl (fun r22 h22c hp22 => ?_) (fun _ _ q => q.elim)
          obtain ⟨z22, y22⟩ := hp22
          rw [z22]
          have g13 : -2147483648 ≤ (h12_.2.1 62 (h12_.1 63 7)) ∧ (h12_.2.1 62 (h12_.1 63 7)) ≤ 2147483647 := i12_.2.1 62 (h12_.1 63 7)
          have J37 : mm_W x 0 0 37 [mR 63, mI p1, mI x12_2, mU] [] h12_ := by
            have g14 : -2147483648 ≤ h12_.1 63 5 ∧ h12_.1 63 5 ≤ 2147483647 := i12_.1 63 5
            have g15 : 0 ≤ h12_.1 63 7 ∧ h12_.1 63 7 ≤ 500 := i12_.1 63 7
            refine mm_aload_n C (mm_dec dk_X7_readSum 19 rfl) rfl ?_
            refine mm_bipush C (mm_dec dk_X7_readSum 20 rfl) ⟨by decide, by decide⟩ ?_
            refine mm_cVi (rest := []) C1 ev_X7_96 (mm_dec dk_X7_readSum 21 rfl) (c_X7_isSign x.2.1 hl (d - 1) (by omega) h12_ i12_ 43 (by omega)) rfl rfl (Nat.le_of_ble_eq_true rfl) ⟨by decide, by decide⟩ rfl (fun r40 h40c hp40 => ?_) (fun _ _ q => q.elim)
            obtain ⟨z40, y40⟩ := hp40
            rw [z40]
            have J53 : ∀ (s53_0 : Int) (bs53_0 : 100015 ≤ s53_0 ∧ s53_0 ≤ 100016) (vs53_0 : (r40 ≠ 0 ∧ s53_0 = 100015) ∨ (r40 = 0 ∧ s53_0 = 100016)), mm_W x 0 0 53 [mR 63, mI p1, mI x12_2, mU] [mI s53_0] h12_ := by
              intro s53_0 bs53_0 vs53_0
              have g17 : -2147483648 ≤ h12_.1 63 5 ∧ h12_.1 63 5 ≤ 2147483647 := i12_.1 63 5
              have g18 : 0 ≤ h12_.1 63 7 ∧ h12_.1 63 7 ≤ 500 := i12_.1 63 7
              refine mm_istore_nL (ls2 := [mR 63, mI p1, mI x12_2, mI s53_0]) C (mm_dec dk_X7_readSum 26 rfl) (by decide) rfl ?_
              refine mm_aload_n C (mm_dec dk_X7_readSum 27 rfl) rfl ?_
              refine mm_cVv (rest := []) C1 ev_X7_52 (mm_dec dk_X7_readSum 28 rfl) (c_X7_step x.2.1 hl (d - 1) (by omega) h12_ i12_ ) rfl rfl (Nat.le_of_ble_eq_true rfl) ⟨by decide, by decide⟩ rfl (fun h55c hp55 => ?_) (fun _ _ q => q.elim)
              obtain ⟨i55c, g55c, y55_0⟩ := hp55
              have f55c : mm_fr [(63, 4), (63, 5), (63, 6), (63, 7), (63, 8), (63, 9), (63, 10)] [64] h h55c := mm_fr_tr f12_ g55c (by decide +kernel)
              have g20 : -2147483648 ≤ (h55c.1 63 5) ∧ (h55c.1 63 5) ≤ 2147483647 := i55c.1 63 5
              have g21 : 0 ≤ (h55c.1 63 7) ∧ (h55c.1 63 7) ≤ 500 := i55c.1 63 7
              refine mm_aload_n C (mm_dec dk_X7_readSum 29 rfl) rfl ?_
              refine mm_iload_n C (mm_dec dk_X7_readSum 30 rfl) rfl ?_
              refine mm_cVi (rest := []) C1 ev_X7_116 (mm_dec dk_X7_readSum 31 rfl) (c_X7_readProduct_k4 x.2.1 hl (d - 1) (by omega) h55c i55c p1 ⟨by omega, by omega⟩ (by omega)) rfl rfl (Nat.le_of_ble_eq_true rfl) ⟨by decide, by decide⟩ rfl (fun r60 h60c hp60 => ?_) (fun _ _ q => q.elim)
              obtain ⟨b60, i60c, g60c, y60_0⟩ := hp60
              have f60c : mm_fr [(63, 4), (63, 5), (63, 6), (63, 7), (63, 8), (63, 9), (63, 10)] [64] h h60c := mm_fr_tr f55c g60c (by decide +kernel)
              have g23 : -2147483648 ≤ (h60c.1 63 5) ∧ (h60c.1 63 5) ≤ 2147483647 := i60c.1 63 5
              have g24 : 0 ≤ (h60c.1 63 7) ∧ (h60c.1 63 7) ≤ 500 := i60c.1 63 7
              refine mm_if_ne (tgt := 68) C (mm_dec dk_X7_readSum 32 rfl) (by decide) (fun c63 => ?_) (fun c63 => ?_)
              · skip
                refine mm_aload_n C (mm_dec dk_X7_readSum 35 rfl) rfl ?_
                refine mm_iload_n C (mm_dec dk_X7_readSum 36 rfl) rfl ?_
                refine mm_cVv (rest := []) C1 ev_X7_79 (mm_dec dk_X7_readSum 37 rfl) (c_X7_emit x.2.1 hl (d - 1) (by omega) h60c i60c s53_0) rfl rfl (Nat.le_of_ble_eq_true rfl) ⟨by decide, by decide⟩ rfl (fun h70c hp70 => ?_) (fun _ _ q => q.elim)
                obtain ⟨i70c, g70c⟩ := hp70
                have f70c : mm_fr [(63, 4), (63, 5), (63, 6), (63, 7), (63, 8), (63, 9), (63, 10)] [64] h h70c := mm_fr_tr f60c g70c (by decide +kernel)
                have q70c_26 : h70c.1 63 5 = h60c.1 63 5 := g70c.1 63 5 (by decide)
                have q70c_27 : h70c.1 63 7 = h60c.1 63 7 := g70c.1 63 7 (by decide)
                refine mm_iincL (ls2 := [mR 63, mI p1, mI (x12_2 + 1), mI s53_0]) C (mm_dec dk_X7_readSum 38 rfl) rfl (by decide) ⟨by omega, by omega⟩ rfl ?_
                refine mm_goto (tgt := 12) C (mm_dec dk_X7_readSum 39 rfl) (by decide) ?_
                refine mm_fgt 3 ?_
                exact ih12 (x12_2 + 1) ⟨by omega, by omega⟩ h70c i70c f70c (by omega) (by omega)
              · skip
                refine mm_iconst C (mm_dec dk_X7_readSum 33 rfl) ⟨by decide, by decide⟩ ?_
                exact mm_zret C T (mm_dec dk_X7_readSum 34 rfl) (by decide : 0 ≤ 0) (by decide : 0 ≤ 0) (by omega) ⟨_, rfl, ⟨⟨by omega, by omega⟩, i60c, f60c, by omega⟩⟩
            refine mm_if_eq (tgt := 51) C (mm_dec dk_X7_readSum 22 rfl) (by decide) (fun c43 => ?_) (fun c43 => ?_)
            · skip
              refine mm_ldc (z := 100016) C (mm_dec dk_X7_readSum 25 rfl) kc_X7_120 (by decide) ?_
              exact J53 100016 ⟨by omega, by omega⟩ (Or.inr (⟨by omega, rfl⟩))
            · skip
              refine mm_ldc (z := 100015) C (mm_dec dk_X7_readSum 23 rfl) kc_X7_119 (by decide) ?_
              refine mm_goto (tgt := 53) C (mm_dec dk_X7_readSum 24 rfl) (by decide) ?_
              exact J53 100015 ⟨by omega, by omega⟩ (Or.inl ⟨by omega, rfl⟩)
          refine mm_if_ne (tgt := 37) C (mm_dec dk_X7_readSum 14 rfl) (by decide) (fun c25 => ?_) (fun c25 => ?_)
          · skip
            exact J37
          · skip
            refine mm_aload_n C (mm_dec dk_X7_readSum 15 rfl) rfl ?_
            refine mm_bipush C (mm_dec dk_X7_readSum 16 rfl) ⟨by decide, by decide⟩ ?_
            refine mm_cVi (rest := []) C1 ev_X7_96 (mm_dec dk_X7_readSum 17 rfl) (c_X7_isSign x.2.1 hl (d - 1) (by omega) h12_ i12_ 45 (by omega)) rfl rfl (Nat.le_of_ble_eq_true rfl) ⟨by decide, by decide⟩ rfl (fun r31 h31c hp31 => ?_) (fun _ _ q => q.elim)
            obtain ⟨z31, y31⟩ := hp31
            rw [z31]
            refine mm_if_eq (tgt := 79) C (mm_dec dk_X7_readSum 18 rfl) (by decide) (fun c34 => ?_) (fun c34 => ?_)
            · skip
              refine mm_fgt 0 ?_
              refine mm_fgt 1 ?_
              refine mm_fgt 2 ?_
              exact J79
            · skip
              exact J37
    refine mm_istore_nL (ls2 := [mR 63, mI p1, mI 0, mU]) C (mm_dec dk_X7_readSum 7 rfl) (by decide) rfl ?_
    exact J12 (((500 - 0) : Int) + 1).toNat 0 ⟨by omega, by omega⟩ h2c i2c f2c (by omega) (by omega)
  · skip
    refine mm_iconst C (mm_dec dk_X7_readSum 4 rfl) ⟨by decide, by decide⟩ ?_
    exact mm_zret C T (mm_dec dk_X7_readSum 5 rfl) (by decide : 0 ≤ 0) (by decide : 0 ≤ 0) (by omega) ⟨_, rfl, ⟨⟨by omega, by omega⟩, i2c, f2c, by omega⟩⟩
set_option maxRecDepth 100000 in
set_option maxHeartbeats 4000000 in
theorem c_X7_readTest_k4 (l : Launch) (hl : l.stackTraces = false) (d : Nat) (hd : 16 ≤ d) (h : mH) (i0 : mm_inv h) (p1 : Int) (bp1 : 4 ≤ p1 ∧ p1 ≤ 4) (t0 : (h.1 63 5 = 0 ∨ h.1 63 7 ≤ 499)) : mm_Met l d yX7_readTest cX7_readTest 3 (some .boolean) [mR 63, mI p1] h (mm_pi fun r h2 => (0 ≤ r ∧ r ≤ 1) ∧ mm_inv h2 ∧ mm_fr [(63, 4), (63, 5), (63, 6), (63, 7), (63, 8), (63, 9), (63, 10)] [64] h h2 ∧ (h2.1 63 5 = 0 ∨ h2.1 63 7 ≤ 499)) mm_nx 0 0 := by
  refine mm_ofW (ls := [mR 63, mI p1, mU]) hl (by decide) rfl (Nat.le_of_ble_eq_true rfl) ?_
  intro x hxl C T hnm htb
  subst hxl
  have C1 := mm_OK_le (d' := d - 1 + 1) (by omega) C
  have C8 := mm_OK_le (d' := d - 8 + 8) (by omega) C
  refine mm_rng (fun hr _ => ?_)
  have ap1 : -2147483648 ≤ p1 ∧ p1 < 2147483648 := mm_ok_at hr (i := 1) rfl
  have f0 : mm_fr [(63, 4), (63, 5), (63, 6), (63, 7), (63, 8), (63, 9), (63, 10)] [64] h h := mm_fr_rf
  have g1 : -2147483648 ≤ h.1 63 5 ∧ h.1 63 5 ≤ 2147483647 := i0.1 63 5
  have g2 : 0 ≤ h.1 63 7 ∧ h.1 63 7 ≤ 500 := i0.1 63 7
  refine mm_aload_n C (mm_dec dk_X7_readTest 0 rfl) rfl ?_
  refine mm_iload_n C (mm_dec dk_X7_readTest 1 rfl) rfl ?_
  refine mm_cVi (rest := []) C1 ev_X7_111 (mm_dec dk_X7_readTest 2 rfl) (c_X7_readSum_k4 x.2.1 hl (d - 1) (by omega) h i0 p1 ⟨by omega, by omega⟩ (by omega)) rfl rfl (Nat.le_of_ble_eq_true rfl) ⟨by decide, by decide⟩ rfl (fun r2 h2c hp2 => ?_) (fun _ _ q => q.elim)
  obtain ⟨b2, i2c, g2c, y2_0⟩ := hp2
  have f2c : mm_fr [(63, 4), (63, 5), (63, 6), (63, 7), (63, 8), (63, 9), (63, 10)] [64] h h2c := mm_fr_tr f0 g2c (by decide +kernel)
  have g4 : -2147483648 ≤ (h2c.1 63 5) ∧ (h2c.1 63 5) ≤ 2147483647 := i2c.1 63 5
  have g5 : 0 ≤ (h2c.1 63 7) ∧ (h2c.1 63 7) ≤ 500 := i2c.1 63 7
  refine mm_if_ne (tgt := 10) C (mm_dec dk_X7_readTest 3 rfl) (by decide) (fun c5 => ?_) (fun c5 => ?_)
  · skip
    refine mm_aload_n C (mm_dec dk_X7_readTest 6 rfl) rfl ?_
    refine mm_bipush C (mm_dec dk_X7_readTest 7 rfl) ⟨by decide, by decide⟩ ?_
    refine mm_cVi (rest := []) C1 ev_X7_96 (mm_dec dk_X7_readTest 8 rfl) (c_X7_isSign x.2.1 hl (d - 1) (by omega) h2c i2c 60 (by omega)) rfl rfl (Nat.le_of_ble_eq_true rfl) ⟨by decide, by decide⟩ rfl (fun r13 h13c hp13 => ?_) (fun _ _ q => q.elim)
    obtain ⟨z13, y13⟩ := hp13
    rw [z13]
    have g7 : -2147483648 ≤ (h2c.2.1 62 (h2c.1 63 7)) ∧ (h2c.2.1 62 (h2c.1 63 7)) ≤ 2147483647 := i2c.2.1 62 (h2c.1 63 7)
    have J39 : ∀ (s39_0 : Int) (bs39_0 : -1 ≤ s39_0 ∧ s39_0 ≤ 100014) (vs39_0 : (r13 = 0 ∧ s39_0 = -1) ∨ (r13 ≠ 0 ∧ s39_0 = 100013) ∨ (r13 = 0 ∧ s39_0 = 100014)), mm_W x 0 0 39 [mR 63, mI p1, mU] [mI s39_0] h2c := by
      intro s39_0 bs39_0 vs39_0
      refine mm_istore_nL (ls2 := [mR 63, mI p1, mI s39_0]) C (mm_dec dk_X7_readTest 19 rfl) (by decide) rfl ?_
      refine mm_iload_n C (mm_dec dk_X7_readTest 20 rfl) rfl ?_
      refine mm_iconst C (mm_dec dk_X7_readTest 21 rfl) ⟨by decide, by decide⟩ ?_
      have J64 : ∀ (h64_ : mH) (i64_ : mm_inv h64_) (f64_ : mm_fr [(63, 4), (63, 5), (63, 6), (63, 7), (63, 8), (63, 9), (63, 10)] [64] h h64_) (w64_0 : (h64_.1 63 5 = 0 ∨ h64_.1 63 7 ≤ 499)), mm_W x 0 0 64 [mU, mU, mU] [] h64_ := by
        intro h64_ i64_ f64_ w64_0
        have g8 : -2147483648 ≤ h64_.1 63 5 ∧ h64_.1 63 5 ≤ 2147483647 := i64_.1 63 5
        have g9 : 0 ≤ h64_.1 63 7 ∧ h64_.1 63 7 ≤ 500 := i64_.1 63 7
        refine mm_iconst C (mm_dec dk_X7_readTest 34 rfl) ⟨by decide, by decide⟩ ?_
        exact mm_zret C T (mm_dec dk_X7_readTest 35 rfl) (by decide : 0 ≤ 0) (by decide : 0 ≤ 0) (by omega) ⟨_, rfl, ⟨⟨by omega, by omega⟩, i64_, f64_, by omega⟩⟩
      refine mm_icmp_eq (tgt := 64) C (mm_dec dk_X7_readTest 22 rfl) (by decide) (fun c42 => ?_) (fun c42 => ?_)
      · skip
        refine mm_fgt 0 ?_
        refine mm_fgt 1 ?_
        refine mm_fgt 2 ?_
        exact J64 h2c i2c f2c (by omega)
      · skip
        refine mm_aload_n C (mm_dec dk_X7_readTest 23 rfl) rfl ?_
        refine mm_cVv (rest := []) C1 ev_X7_52 (mm_dec dk_X7_readTest 24 rfl) (c_X7_step x.2.1 hl (d - 1) (by omega) h2c i2c ) rfl rfl (Nat.le_of_ble_eq_true rfl) ⟨by decide, by decide⟩ rfl (fun h46c hp46 => ?_) (fun _ _ q => q.elim)
        obtain ⟨i46c, g46c, y46_0⟩ := hp46
        have f46c : mm_fr [(63, 4), (63, 5), (63, 6), (63, 7), (63, 8), (63, 9), (63, 10)] [64] h h46c := mm_fr_tr f2c g46c (by decide +kernel)
        have g11 : -2147483648 ≤ (h46c.1 63 5) ∧ (h46c.1 63 5) ≤ 2147483647 := i46c.1 63 5
        have g12 : 0 ≤ (h46c.1 63 7) ∧ (h46c.1 63 7) ≤ 500 := i46c.1 63 7
        refine mm_aload_n C (mm_dec dk_X7_readTest 25 rfl) rfl ?_
        refine mm_iload_n C (mm_dec dk_X7_readTest 26 rfl) rfl ?_
        refine mm_cVi (rest := []) C1 ev_X7_111 (mm_dec dk_X7_readTest 27 rfl) (c_X7_readSum_k4 x.2.1 hl (d - 1) (by omega) h46c i46c p1 ⟨by omega, by omega⟩ (by omega)) rfl rfl (Nat.le_of_ble_eq_true rfl) ⟨by decide, by decide⟩ rfl (fun r51 h51c hp51 => ?_) (fun _ _ q => q.elim)
        obtain ⟨b51, i51c, g51c, y51_0⟩ := hp51
        have f51c : mm_fr [(63, 4), (63, 5), (63, 6), (63, 7), (63, 8), (63, 9), (63, 10)] [64] h h51c := mm_fr_tr f46c g51c (by decide +kernel)
        have g14 : -2147483648 ≤ (h51c.1 63 5) ∧ (h51c.1 63 5) ≤ 2147483647 := i51c.1 63 5
        have g15 : 0 ≤ (h51c.1 63 7) ∧ (h51c.1 63 7) ≤ 500 := i51c.1 63 7
        refine mm_if_ne (tgt := 59) C (mm_dec dk_X7_readTest 28 rfl) (by decide) (fun c54 => ?_) (fun c54 => ?_)
        · skip
          refine mm_aload_n C (mm_dec dk_X7_readTest 31 rfl) rfl ?_
          refine mm_iload_n C (mm_dec dk_X7_readTest 32 rfl) rfl ?_
          refine mm_cVv (rest := []) C1 ev_X7_79 (mm_dec dk_X7_readTest 33 rfl) (c_X7_emit x.2.1 hl (d - 1) (by omega) h51c i51c s39_0) rfl rfl (Nat.le_of_ble_eq_true rfl) ⟨by decide, by decide⟩ rfl (fun h61c hp61 => ?_) (fun _ _ q => q.elim)
          obtain ⟨i61c, g61c⟩ := hp61
          have f61c : mm_fr [(63, 4), (63, 5), (63, 6), (63, 7), (63, 8), (63, 9), (63, 10)] [64] h h61c := mm_fr_tr f51c g61c (by decide +kernel)
          have q61c_17 : h61c.1 63 5 = h51c.1 63 5 := g61c.1 63 5 (by decide)
          have q61c_18 : h61c.1 63 7 = h51c.1 63 7 := g61c.1 63 7 (by decide)
          refine mm_fgt 0 ?_
          refine mm_fgt 1 ?_
          refine mm_fgt 2 ?_
          exact J64 h61c i61c f61c (by omega)
        · skip
          refine mm_iconst C (mm_dec dk_X7_readTest 29 rfl) ⟨by decide, by decide⟩ ?_
          exact mm_zret C T (mm_dec dk_X7_readTest 30 rfl) (by decide : 0 ≤ 0) (by decide : 0 ≤ 0) (by omega) ⟨_, rfl, ⟨⟨by omega, by omega⟩, i51c, f51c, by omega⟩⟩
    refine mm_if_eq (tgt := 24) C (mm_dec dk_X7_readTest 9 rfl) (by decide) (fun c16 => ?_) (fun c16 => ?_)
    · skip
      refine mm_aload_n C (mm_dec dk_X7_readTest 12 rfl) rfl ?_
      refine mm_bipush C (mm_dec dk_X7_readTest 13 rfl) ⟨by decide, by decide⟩ ?_
      refine mm_cVi (rest := []) C1 ev_X7_96 (mm_dec dk_X7_readTest 14 rfl) (c_X7_isSign x.2.1 hl (d - 1) (by omega) h2c i2c 61 (by omega)) rfl rfl (Nat.le_of_ble_eq_true rfl) ⟨by decide, by decide⟩ rfl (fun r27 h27c hp27 => ?_) (fun _ _ q => q.elim)
      obtain ⟨z27, y27⟩ := hp27
      rw [z27]
      refine mm_if_eq (tgt := 38) C (mm_dec dk_X7_readTest 15 rfl) (by decide) (fun c30 => ?_) (fun c30 => ?_)
      · skip
        refine mm_iconst C (mm_dec dk_X7_readTest 18 rfl) ⟨by decide, by decide⟩ ?_
        exact J39 (-1) ⟨by omega, by omega⟩ (Or.inl ⟨by omega, rfl⟩)
      · skip
        refine mm_ldc (z := 100014) C (mm_dec dk_X7_readTest 16 rfl) kc_X7_115 (by decide) ?_
        refine mm_goto (tgt := 39) C (mm_dec dk_X7_readTest 17 rfl) (by decide) ?_
        exact J39 100014 ⟨by omega, by omega⟩ (Or.inr (Or.inr (⟨by omega, rfl⟩)))
    · skip
      refine mm_ldc (z := 100013) C (mm_dec dk_X7_readTest 10 rfl) kc_X7_114 (by decide) ?_
      refine mm_goto (tgt := 39) C (mm_dec dk_X7_readTest 11 rfl) (by decide) ?_
      exact J39 100013 ⟨by omega, by omega⟩ (Or.inr (Or.inl ⟨by omega, rfl⟩))
  · skip
    refine mm_iconst C (mm_dec dk_X7_readTest 4 rfl) ⟨by decide, by decide⟩ ?_
    exact mm_zret C T (mm_dec dk_X7_readTest 5 rfl) (by decide : 0 ≤ 0) (by decide : 0 ≤ 0) (by omega) ⟨_, rfl, ⟨⟨by omega, by omega⟩, i2c, f2c, by omega⟩⟩
set_option maxRecDepth 100000 in
set_option maxHeartbeats 4000000 in
theorem c_X7_readNot_k4 (l : Launch) (hl : l.stackTraces = false) (d : Nat) (hd : 17 ≤ d) (h : mH) (i0 : mm_inv h) (p1 : Int) (bp1 : 4 ≤ p1 ∧ p1 ≤ 4) (t0 : (h.1 63 5 = 0 ∨ h.1 63 7 ≤ 499)) : mm_Met l d yX7_readNot cX7_readNot 4 (some .boolean) [mR 63, mI p1] h (mm_pi fun r h2 => (0 ≤ r ∧ r ≤ 1) ∧ mm_inv h2 ∧ mm_fr [(63, 4), (63, 5), (63, 6), (63, 7), (63, 8), (63, 9), (63, 10)] [64] h h2 ∧ (h2.1 63 5 = 0 ∨ h2.1 63 7 ≤ 499)) mm_nx 0 0 := by
  refine mm_ofW (ls := [mR 63, mI p1, mU, mU]) hl (by decide) rfl (Nat.le_of_ble_eq_true rfl) ?_
  intro x hxl C T hnm htb
  subst hxl
  have C1 := mm_OK_le (d' := d - 1 + 1) (by omega) C
  have C8 := mm_OK_le (d' := d - 8 + 8) (by omega) C
  refine mm_rng (fun hr _ => ?_)
  have ap1 : -2147483648 ≤ p1 ∧ p1 < 2147483648 := mm_ok_at hr (i := 1) rfl
  have f0 : mm_fr [(63, 4), (63, 5), (63, 6), (63, 7), (63, 8), (63, 9), (63, 10)] [64] h h := mm_fr_rf
  have g1 : -2147483648 ≤ h.1 63 5 ∧ h.1 63 5 ≤ 2147483647 := i0.1 63 5
  have g2 : 0 ≤ h.1 63 7 ∧ h.1 63 7 ≤ 500 := i0.1 63 7
  refine mm_iconst C (mm_dec dk_X7_readNot 0 rfl) ⟨by decide, by decide⟩ ?_
  have J2 : ∀ (n : Nat) (x2_2 : Int) (bx2_2 : 0 ≤ x2_2 ∧ x2_2 ≤ 7) (h2_ : mH) (i2_ : mm_inv h2_) (f2_ : mm_fr [(63, 4), (63, 5), (63, 6), (63, 7), (63, 8), (63, 9), (63, 10)] [64] h h2_) (w2_0 : (h2_.1 63 5 = 0 ∨ h2_.1 63 7 ≤ 499)), (7 - x2_2 : Int) < n → mm_W x 0 0 2 [mR 63, mI p1, mI x2_2, mU] [] h2_ := by
    intro n
    induction n with
    | zero =>
      intro x2_2 bx2_2 h2_ i2_ f2_ w2_0 hm
      have g3 : -2147483648 ≤ h2_.1 63 5 ∧ h2_.1 63 5 ≤ 2147483647 := i2_.1 63 5
      have g4 : 0 ≤ h2_.1 63 7 ∧ h2_.1 63 7 ≤ 500 := i2_.1 63 7
      exfalso; omega
    | succ n ih2 =>
      intro x2_2 bx2_2 h2_ i2_ f2_ w2_0 hm2
      have g5 : -2147483648 ≤ h2_.1 63 5 ∧ h2_.1 63 5 ≤ 2147483647 := i2_.1 63 5
      have g6 : 0 ≤ h2_.1 63 7 ∧ h2_.1 63 7 ≤ 500 := i2_.1 63 7
      refine mm_iload_n C (mm_dec dk_X7_readNot 2 rfl) rfl ?_
      refine mm_bipush C (mm_dec dk_X7_readNot 3 rfl) ⟨by decide, by decide⟩ ?_
      have J27 : mm_W x 0 0 27 [mR 63, mI p1, mI x2_2, mU] [] h2_ := by
        have g7 : -2147483648 ≤ h2_.1 63 5 ∧ h2_.1 63 5 ≤ 2147483647 := i2_.1 63 5
        have g8 : 0 ≤ h2_.1 63 7 ∧ h2_.1 63 7 ≤ 500 := i2_.1 63 7
        refine mm_iload_n C (mm_dec dk_X7_readNot 13 rfl) rfl ?_
        refine mm_bipush C (mm_dec dk_X7_readNot 14 rfl) ⟨by decide, by decide⟩ ?_
        have J48 : mm_W x 0 0 48 [mR 63, mI p1, mI x2_2, mU] [] h2_ := by
          have g9 : -2147483648 ≤ h2_.1 63 5 ∧ h2_.1 63 5 ≤ 2147483647 := i2_.1 63 5
          have g10 : 0 ≤ h2_.1 63 7 ∧ h2_.1 63 7 ≤ 500 := i2_.1 63 7
          refine mm_aload_n C (mm_dec dk_X7_readNot 24 rfl) rfl ?_
          refine mm_iload_n C (mm_dec dk_X7_readNot 25 rfl) rfl ?_
          refine mm_cVi (rest := []) C1 ev_X7_107 (mm_dec dk_X7_readNot 26 rfl) (c_X7_readTest_k4 x.2.1 hl (d - 1) (by omega) h2_ i2_ p1 ⟨by omega, by omega⟩ (by omega)) rfl rfl (Nat.le_of_ble_eq_true rfl) ⟨by decide, by decide⟩ rfl (fun r50 h50c hp50 => ?_) (fun _ _ q => q.elim)
          obtain ⟨b50, i50c, g50c, y50_0⟩ := hp50
          have f50c : mm_fr [(63, 4), (63, 5), (63, 6), (63, 7), (63, 8), (63, 9), (63, 10)] [64] h h50c := mm_fr_tr f2_ g50c (by decide +kernel)
          have g12 : -2147483648 ≤ (h50c.1 63 5) ∧ (h50c.1 63 5) ≤ 2147483647 := i50c.1 63 5
          have g13 : 0 ≤ (h50c.1 63 7) ∧ (h50c.1 63 7) ≤ 500 := i50c.1 63 7
          refine mm_if_ne (tgt := 58) C (mm_dec dk_X7_readNot 27 rfl) (by decide) (fun c53 => ?_) (fun c53 => ?_)
          · skip
            refine mm_iconst C (mm_dec dk_X7_readNot 30 rfl) ⟨by decide, by decide⟩ ?_
            have J60 : ∀ (n : Nat) (x60_3 : Int) (bx60_3 : 0 ≤ x60_3 ∧ x60_3 ≤ 7) (h60_ : mH) (i60_ : mm_inv h60_) (f60_ : mm_fr [(63, 4), (63, 5), (63, 6), (63, 7), (63, 8), (63, 9), (63, 10)] [64] h h60_) (w60_0 : (h60_.1 63 5 = 0 ∨ h60_.1 63 7 ≤ 499)), (7 - x60_3 : Int) < n → mm_W x 0 0 60 [mR 63, mU, mI x2_2, mI x60_3] [] h60_ := by
              intro n
              induction n with
              | zero =>
                intro x60_3 bx60_3 h60_ i60_ f60_ w60_0 hm
                have g14 : -2147483648 ≤ h60_.1 63 5 ∧ h60_.1 63 5 ≤ 2147483647 := i60_.1 63 5
                have g15 : 0 ≤ h60_.1 63 7 ∧ h60_.1 63 7 ≤ 500 := i60_.1 63 7
                exfalso; omega
              | succ n ih60 =>
                intro x60_3 bx60_3 h60_ i60_ f60_ w60_0 hm60
                have g16 : -2147483648 ≤ h60_.1 63 5 ∧ h60_.1 63 5 ≤ 2147483647 := i60_.1 63 5
                have g17 : 0 ≤ h60_.1 63 7 ∧ h60_.1 63 7 ≤ 500 := i60_.1 63 7
                refine mm_iload_n C (mm_dec dk_X7_readNot 32 rfl) rfl ?_
                refine mm_iload_n C (mm_dec dk_X7_readNot 33 rfl) rfl ?_
                refine mm_icmp_ge (tgt := 77) C (mm_dec dk_X7_readNot 34 rfl) (by decide) (fun c62 => ?_) (fun c62 => ?_)
                · skip
                  refine mm_iconst C (mm_dec dk_X7_readNot 40 rfl) ⟨by decide, by decide⟩ ?_
                  exact mm_zret C T (mm_dec dk_X7_readNot 41 rfl) (by decide : 0 ≤ 0) (by decide : 0 ≤ 0) (by omega) ⟨_, rfl, ⟨⟨by omega, by omega⟩, i60_, f60_, by omega⟩⟩
                · skip
                  refine mm_aload_n C (mm_dec dk_X7_readNot 35 rfl) rfl ?_
                  refine mm_ldc (z := 100010) C (mm_dec dk_X7_readNot 36 rfl) kc_X7_110 (by decide) ?_
                  refine mm_cVv (rest := []) C1 ev_X7_79 (mm_dec dk_X7_readNot 37 rfl) (c_X7_emit x.2.1 hl (d - 1) (by omega) h60_ i60_ 100010) rfl rfl (Nat.le_of_ble_eq_true rfl) ⟨by decide, by decide⟩ rfl (fun h68c hp68 => ?_) (fun _ _ q => q.elim)
                  obtain ⟨i68c, g68c⟩ := hp68
                  have f68c : mm_fr [(63, 4), (63, 5), (63, 6), (63, 7), (63, 8), (63, 9), (63, 10)] [64] h h68c := mm_fr_tr f60_ g68c (by decide +kernel)
                  have q68c_19 : h68c.1 63 5 = h60_.1 63 5 := g68c.1 63 5 (by decide)
                  have q68c_20 : h68c.1 63 7 = h60_.1 63 7 := g68c.1 63 7 (by decide)
                  refine mm_iincL (ls2 := [mR 63, mU, mI x2_2, mI (x60_3 + 1)]) C (mm_dec dk_X7_readNot 38 rfl) rfl (by decide) ⟨by omega, by omega⟩ rfl ?_
                  refine mm_goto (tgt := 60) C (mm_dec dk_X7_readNot 39 rfl) (by decide) ?_
                  exact ih60 (x60_3 + 1) ⟨by omega, by omega⟩ h68c i68c f68c (by omega) (by omega)
            refine mm_istore_nL (ls2 := [mR 63, mI p1, mI x2_2, mI 0]) C (mm_dec dk_X7_readNot 31 rfl) (by decide) rfl ?_
            refine mm_fgt 1 ?_
            exact J60 (((7 - 0) : Int) + 1).toNat 0 ⟨by omega, by omega⟩ h50c i50c f50c (by omega) (by omega)
          · skip
            refine mm_iconst C (mm_dec dk_X7_readNot 28 rfl) ⟨by decide, by decide⟩ ?_
            exact mm_zret C T (mm_dec dk_X7_readNot 29 rfl) (by decide : 0 ≤ 0) (by decide : 0 ≤ 0) (by omega) ⟨_, rfl, ⟨⟨by omega, by omega⟩, i50c, f50c, by omega⟩⟩
        refine mm_icmp_ne (tgt := 48) C (mm_dec dk_X7_readNot 15 rfl) (by decide) (fun c30 => ?_) (fun c30 => ?_)
        · skip
          exact J48
        · skip
          refine mm_aload_n C (mm_dec dk_X7_readNot 16 rfl) rfl ?_
          refine mm_geti C fl_X7_28 (mm_dec dk_X7_readNot 17 rfl) rfl rfl (Or.inl rfl) ?_
          have g21 : -2147483648 ≤ (h2_.1 63 6) ∧ (h2_.1 63 6) ≤ 2147483647 := i2_.1 63 6
          refine mm_bipush C (mm_dec dk_X7_readNot 18 rfl) ⟨by decide, by decide⟩ ?_
          refine mm_icmp_ne (tgt := 48) C (mm_dec dk_X7_readNot 19 rfl) (by decide) (fun c39 => ?_) (fun c39 => ?_)
          · skip
            exact J48
          · skip
            refine mm_aload_n C (mm_dec dk_X7_readNot 20 rfl) rfl ?_
            refine mm_iconst C (mm_dec dk_X7_readNot 21 rfl) ⟨by decide, by decide⟩ ?_
            refine mm_cVi (rest := []) C1 ev_X7_65 (mm_dec dk_X7_readNot 22 rfl) (c_X7_refuse x.2.1 hl (d - 1) (by omega) h2_ i2_ 2) rfl rfl (Nat.le_of_ble_eq_true rfl) ⟨by decide, by decide⟩ rfl (fun r44 h44c hp44 => ?_) (fun _ _ q => q.elim)
            obtain ⟨b44, i44c, g44c⟩ := hp44
            have f44c : mm_fr [(63, 4), (63, 5), (63, 6), (63, 7), (63, 8), (63, 9), (63, 10)] [64] h h44c := mm_fr_tr f2_ g44c (by decide +kernel)
            have q44c_23 : h44c.1 63 5 = h2_.1 63 5 := g44c.1 63 5 (by decide)
            have q44c_24 : h44c.1 63 6 = h2_.1 63 6 := g44c.1 63 6 (by decide)
            have q44c_25 : h44c.1 63 7 = h2_.1 63 7 := g44c.1 63 7 (by decide)
            exact mm_zret C T (mm_dec dk_X7_readNot 23 rfl) (by decide : 0 ≤ 0) (by decide : 0 ≤ 0) (by omega) ⟨_, rfl, ⟨⟨by omega, by omega⟩, i44c, f44c, by omega⟩⟩
      refine mm_icmp_ge (tgt := 27) C (mm_dec dk_X7_readNot 4 rfl) (by decide) (fun c5 => ?_) (fun c5 => ?_)
      · skip
        exact J27
      · skip
        refine mm_aload_n C (mm_dec dk_X7_readNot 5 rfl) rfl ?_
        refine mm_geti C fl_X7_28 (mm_dec dk_X7_readNot 6 rfl) rfl rfl (Or.inl rfl) ?_
        have g26 : -2147483648 ≤ (h2_.1 63 6) ∧ (h2_.1 63 6) ≤ 2147483647 := i2_.1 63 6
        refine mm_bipush C (mm_dec dk_X7_readNot 7 rfl) ⟨by decide, by decide⟩ ?_
        refine mm_icmp_ne (tgt := 27) C (mm_dec dk_X7_readNot 8 rfl) (by decide) (fun c14 => ?_) (fun c14 => ?_)
        · skip
          exact J27
        · skip
          refine mm_iincL (ls2 := [mR 63, mI p1, mI (x2_2 + 1), mU]) C (mm_dec dk_X7_readNot 9 rfl) rfl (by decide) ⟨by omega, by omega⟩ rfl ?_
          refine mm_aload_n C (mm_dec dk_X7_readNot 10 rfl) rfl ?_
          refine mm_cVv (rest := []) C1 ev_X7_52 (mm_dec dk_X7_readNot 11 rfl) (c_X7_step x.2.1 hl (d - 1) (by omega) h2_ i2_ ) rfl rfl (Nat.le_of_ble_eq_true rfl) ⟨by decide, by decide⟩ rfl (fun h21c hp21 => ?_) (fun _ _ q => q.elim)
          obtain ⟨i21c, g21c, y21_0⟩ := hp21
          have f21c : mm_fr [(63, 4), (63, 5), (63, 6), (63, 7), (63, 8), (63, 9), (63, 10)] [64] h h21c := mm_fr_tr f2_ g21c (by decide +kernel)
          have g28 : -2147483648 ≤ (h21c.1 63 5) ∧ (h21c.1 63 5) ≤ 2147483647 := i21c.1 63 5
          have g29 : 0 ≤ (h21c.1 63 7) ∧ (h21c.1 63 7) ≤ 500 := i21c.1 63 7
          refine mm_goto (tgt := 2) C (mm_dec dk_X7_readNot 12 rfl) (by decide) ?_
          exact ih2 (x2_2 + 1) ⟨by omega, by omega⟩ h21c i21c f21c (by omega) (by omega)
  refine mm_istore_nL (ls2 := [mR 63, mI p1, mI 0, mU]) C (mm_dec dk_X7_readNot 1 rfl) (by decide) rfl ?_
  exact J2 (((7 - 0) : Int) + 1).toNat 0 ⟨by omega, by omega⟩ h i0 f0 (by omega) (by omega)
set_option maxRecDepth 100000 in
set_option maxHeartbeats 4000000 in
theorem c_X7_readAnd_k4 (l : Launch) (hl : l.stackTraces = false) (d : Nat) (hd : 18 ≤ d) (h : mH) (i0 : mm_inv h) (p1 : Int) (bp1 : 4 ≤ p1 ∧ p1 ≤ 4) (t0 : (h.1 63 5 = 0 ∨ h.1 63 7 ≤ 499)) : mm_Met l d yX7_readAnd cX7_readAnd 3 (some .boolean) [mR 63, mI p1] h (mm_pi fun r h2 => (0 ≤ r ∧ r ≤ 1) ∧ mm_inv h2 ∧ mm_fr [(63, 4), (63, 5), (63, 6), (63, 7), (63, 8), (63, 9), (63, 10)] [64] h h2 ∧ (h2.1 63 5 = 0 ∨ h2.1 63 7 ≤ 499)) mm_nx 0 0 := by
  refine mm_ofW (ls := [mR 63, mI p1, mU]) hl (by decide) rfl (Nat.le_of_ble_eq_true rfl) ?_
  intro x hxl C T hnm htb
  subst hxl
  have C1 := mm_OK_le (d' := d - 1 + 1) (by omega) C
  have C8 := mm_OK_le (d' := d - 8 + 8) (by omega) C
  refine mm_rng (fun hr _ => ?_)
  have ap1 : -2147483648 ≤ p1 ∧ p1 < 2147483648 := mm_ok_at hr (i := 1) rfl
  have f0 : mm_fr [(63, 4), (63, 5), (63, 6), (63, 7), (63, 8), (63, 9), (63, 10)] [64] h h := mm_fr_rf
  have g1 : -2147483648 ≤ h.1 63 5 ∧ h.1 63 5 ≤ 2147483647 := i0.1 63 5
  have g2 : 0 ≤ h.1 63 7 ∧ h.1 63 7 ≤ 500 := i0.1 63 7
  refine mm_aload_n C (mm_dec dk_X7_readAnd 0 rfl) rfl ?_
  refine mm_iload_n C (mm_dec dk_X7_readAnd 1 rfl) rfl ?_
  refine mm_cVi (rest := []) C1 ev_X7_103 (mm_dec dk_X7_readAnd 2 rfl) (c_X7_readNot_k4 x.2.1 hl (d - 1) (by omega) h i0 p1 ⟨by omega, by omega⟩ (by omega)) rfl rfl (Nat.le_of_ble_eq_true rfl) ⟨by decide, by decide⟩ rfl (fun r2 h2c hp2 => ?_) (fun _ _ q => q.elim)
  obtain ⟨b2, i2c, g2c, y2_0⟩ := hp2
  have f2c : mm_fr [(63, 4), (63, 5), (63, 6), (63, 7), (63, 8), (63, 9), (63, 10)] [64] h h2c := mm_fr_tr f0 g2c (by decide +kernel)
  have g4 : -2147483648 ≤ (h2c.1 63 5) ∧ (h2c.1 63 5) ≤ 2147483647 := i2c.1 63 5
  have g5 : 0 ≤ (h2c.1 63 7) ∧ (h2c.1 63 7) ≤ 500 := i2c.1 63 7
  refine mm_if_ne (tgt := 10) C (mm_dec dk_X7_readAnd 3 rfl) (by decide) (fun c5 => ?_) (fun c5 => ?_)
  · skip
    refine mm_iconst C (mm_dec dk_X7_readAnd 6 rfl) ⟨by decide, by decide⟩ ?_
    have J12 : ∀ (n : Nat) (x12_2 : Int) (bx12_2 : 0 ≤ x12_2 ∧ x12_2 ≤ 500) (h12_ : mH) (i12_ : mm_inv h12_) (f12_ : mm_fr [(63, 4), (63, 5), (63, 6), (63, 7), (63, 8), (63, 9), (63, 10)] [64] h h12_) (w12_0 : (h12_.1 63 5 = 0 ∨ h12_.1 63 7 ≤ 499)), (500 - x12_2 : Int) < n → mm_W x 0 0 12 [mR 63, mI p1, mI x12_2] [] h12_ := by
      intro n
      induction n with
      | zero =>
        intro x12_2 bx12_2 h12_ i12_ f12_ w12_0 hm
        have g6 : -2147483648 ≤ h12_.1 63 5 ∧ h12_.1 63 5 ≤ 2147483647 := i12_.1 63 5
        have g7 : 0 ≤ h12_.1 63 7 ∧ h12_.1 63 7 ≤ 500 := i12_.1 63 7
        exfalso; omega
      | succ n ih12 =>
        intro x12_2 bx12_2 h12_ i12_ f12_ w12_0 hm12
        have g8 : -2147483648 ≤ h12_.1 63 5 ∧ h12_.1 63 5 ≤ 2147483647 := i12_.1 63 5
        have g9 : 0 ≤ h12_.1 63 7 ∧ h12_.1 63 7 ≤ 500 := i12_.1 63 7
        refine mm_iload_n C (mm_dec dk_X7_readAnd 8 rfl) rfl ?_
        refine mm_sipush C (mm_dec dk_X7_readAnd 9 rfl) ⟨by decide, by decide⟩ ?_
        have J53 : mm_W x 0 0 53 [mU, mU, mU] [] h12_ := by
          have g10 : -2147483648 ≤ h12_.1 63 5 ∧ h12_.1 63 5 ≤ 2147483647 := i12_.1 63 5
          have g11 : 0 ≤ h12_.1 63 7 ∧ h12_.1 63 7 ≤ 500 := i12_.1 63 7
          refine mm_iconst C (mm_dec dk_X7_readAnd 28 rfl) ⟨by decide, by decide⟩ ?_
          exact mm_zret C T (mm_dec dk_X7_readAnd 29 rfl) (by decide : 0 ≤ 0) (by decide : 0 ≤ 0) (by omega) ⟨_, rfl, ⟨⟨by omega, by omega⟩, i12_, f12_, by omega⟩⟩
        refine mm_icmp_ge (tgt := 53) C (mm_dec dk_X7_readAnd 10 rfl) (by decide) (fun c16 => ?_) (fun c16 => ?_)
        · skip
          refine mm_fgt 0 ?_
          refine mm_fgt 1 ?_
          refine mm_fgt 2 ?_
          exact J53
        · skip
          refine mm_aload_n C (mm_dec dk_X7_readAnd 11 rfl) rfl ?_
          refine mm_geti C fl_X7_28 (mm_dec dk_X7_readAnd 12 rfl) rfl rfl (Or.inl rfl) ?_
          have g12 : -2147483648 ≤ (h12_.1 63 6) ∧ (h12_.1 63 6) ≤ 2147483647 := i12_.1 63 6
          refine mm_iconst C (mm_dec dk_X7_readAnd 13 rfl) ⟨by decide, by decide⟩ ?_
          refine mm_icmp_ne (tgt := 53) C (mm_dec dk_X7_readAnd 14 rfl) (by decide) (fun c24 => ?_) (fun c24 => ?_)
          · skip
            refine mm_fgt 0 ?_
            refine mm_fgt 1 ?_
            refine mm_fgt 2 ?_
            exact J53
          · skip
            refine mm_aload_n C (mm_dec dk_X7_readAnd 15 rfl) rfl ?_
            refine mm_cVv (rest := []) C1 ev_X7_52 (mm_dec dk_X7_readAnd 16 rfl) (c_X7_step x.2.1 hl (d - 1) (by omega) h12_ i12_ ) rfl rfl (Nat.le_of_ble_eq_true rfl) ⟨by decide, by decide⟩ rfl (fun h28c hp28 => ?_) (fun _ _ q => q.elim)
            obtain ⟨i28c, g28c, y28_0⟩ := hp28
            have f28c : mm_fr [(63, 4), (63, 5), (63, 6), (63, 7), (63, 8), (63, 9), (63, 10)] [64] h h28c := mm_fr_tr f12_ g28c (by decide +kernel)
            have g14 : -2147483648 ≤ (h28c.1 63 5) ∧ (h28c.1 63 5) ≤ 2147483647 := i28c.1 63 5
            have g15 : 0 ≤ (h28c.1 63 7) ∧ (h28c.1 63 7) ≤ 500 := i28c.1 63 7
            refine mm_aload_n C (mm_dec dk_X7_readAnd 17 rfl) rfl ?_
            refine mm_iload_n C (mm_dec dk_X7_readAnd 18 rfl) rfl ?_
            refine mm_cVi (rest := []) C1 ev_X7_103 (mm_dec dk_X7_readAnd 19 rfl) (c_X7_readNot_k4 x.2.1 hl (d - 1) (by omega) h28c i28c p1 ⟨by omega, by omega⟩ (by omega)) rfl rfl (Nat.le_of_ble_eq_true rfl) ⟨by decide, by decide⟩ rfl (fun r33 h33c hp33 => ?_) (fun _ _ q => q.elim)
            obtain ⟨b33, i33c, g33c, y33_0⟩ := hp33
            have f33c : mm_fr [(63, 4), (63, 5), (63, 6), (63, 7), (63, 8), (63, 9), (63, 10)] [64] h h33c := mm_fr_tr f28c g33c (by decide +kernel)
            have g17 : -2147483648 ≤ (h33c.1 63 5) ∧ (h33c.1 63 5) ≤ 2147483647 := i33c.1 63 5
            have g18 : 0 ≤ (h33c.1 63 7) ∧ (h33c.1 63 7) ≤ 500 := i33c.1 63 7
            refine mm_if_ne (tgt := 41) C (mm_dec dk_X7_readAnd 20 rfl) (by decide) (fun c36 => ?_) (fun c36 => ?_)
            · skip
              refine mm_aload_n C (mm_dec dk_X7_readAnd 23 rfl) rfl ?_
              refine mm_ldc (z := 100012) C (mm_dec dk_X7_readAnd 24 rfl) kc_X7_106 (by decide) ?_
              refine mm_cVv (rest := []) C1 ev_X7_79 (mm_dec dk_X7_readAnd 25 rfl) (c_X7_emit x.2.1 hl (d - 1) (by omega) h33c i33c 100012) rfl rfl (Nat.le_of_ble_eq_true rfl) ⟨by decide, by decide⟩ rfl (fun h44c hp44 => ?_) (fun _ _ q => q.elim)
              obtain ⟨i44c, g44c⟩ := hp44
              have f44c : mm_fr [(63, 4), (63, 5), (63, 6), (63, 7), (63, 8), (63, 9), (63, 10)] [64] h h44c := mm_fr_tr f33c g44c (by decide +kernel)
              have q44c_20 : h44c.1 63 5 = h33c.1 63 5 := g44c.1 63 5 (by decide)
              have q44c_21 : h44c.1 63 7 = h33c.1 63 7 := g44c.1 63 7 (by decide)
              refine mm_iincL (ls2 := [mR 63, mI p1, mI (x12_2 + 1)]) C (mm_dec dk_X7_readAnd 26 rfl) rfl (by decide) ⟨by omega, by omega⟩ rfl ?_
              refine mm_goto (tgt := 12) C (mm_dec dk_X7_readAnd 27 rfl) (by decide) ?_
              exact ih12 (x12_2 + 1) ⟨by omega, by omega⟩ h44c i44c f44c (by omega) (by omega)
            · skip
              refine mm_iconst C (mm_dec dk_X7_readAnd 21 rfl) ⟨by decide, by decide⟩ ?_
              exact mm_zret C T (mm_dec dk_X7_readAnd 22 rfl) (by decide : 0 ≤ 0) (by decide : 0 ≤ 0) (by omega) ⟨_, rfl, ⟨⟨by omega, by omega⟩, i33c, f33c, by omega⟩⟩
    refine mm_istore_nL (ls2 := [mR 63, mI p1, mI 0]) C (mm_dec dk_X7_readAnd 7 rfl) (by decide) rfl ?_
    exact J12 (((500 - 0) : Int) + 1).toNat 0 ⟨by omega, by omega⟩ h2c i2c f2c (by omega) (by omega)
  · skip
    refine mm_iconst C (mm_dec dk_X7_readAnd 4 rfl) ⟨by decide, by decide⟩ ?_
    exact mm_zret C T (mm_dec dk_X7_readAnd 5 rfl) (by decide : 0 ≤ 0) (by decide : 0 ≤ 0) (by omega) ⟨_, rfl, ⟨⟨by omega, by omega⟩, i2c, f2c, by omega⟩⟩
set_option maxRecDepth 100000 in
set_option maxHeartbeats 4000000 in
theorem c_X7_readOr_k4 (l : Launch) (hl : l.stackTraces = false) (d : Nat) (hd : 19 ≤ d) (h : mH) (i0 : mm_inv h) (p1 : Int) (bp1 : 4 ≤ p1 ∧ p1 ≤ 4) (t0 : (h.1 63 5 = 0 ∨ h.1 63 7 ≤ 499)) : mm_Met l d yX7_readOr cX7_readOr 3 (some .boolean) [mR 63, mI p1] h (mm_pi fun r h2 => (0 ≤ r ∧ r ≤ 1) ∧ mm_inv h2 ∧ mm_fr [(63, 4), (63, 5), (63, 6), (63, 7), (63, 8), (63, 9), (63, 10)] [64] h h2 ∧ (h2.1 63 5 = 0 ∨ h2.1 63 7 ≤ 499)) mm_nx 0 0 := by
  refine mm_ofW (ls := [mR 63, mI p1, mU]) hl (by decide) rfl (Nat.le_of_ble_eq_true rfl) ?_
  intro x hxl C T hnm htb
  subst hxl
  have C1 := mm_OK_le (d' := d - 1 + 1) (by omega) C
  have C8 := mm_OK_le (d' := d - 8 + 8) (by omega) C
  refine mm_rng (fun hr _ => ?_)
  have ap1 : -2147483648 ≤ p1 ∧ p1 < 2147483648 := mm_ok_at hr (i := 1) rfl
  have f0 : mm_fr [(63, 4), (63, 5), (63, 6), (63, 7), (63, 8), (63, 9), (63, 10)] [64] h h := mm_fr_rf
  have g1 : -2147483648 ≤ h.1 63 5 ∧ h.1 63 5 ≤ 2147483647 := i0.1 63 5
  have g2 : 0 ≤ h.1 63 7 ∧ h.1 63 7 ≤ 500 := i0.1 63 7
  refine mm_iload_n C (mm_dec dk_X7_readOr 0 rfl) rfl ?_
  refine mm_bipush C (mm_dec dk_X7_readOr 1 rfl) ⟨by decide, by decide⟩ ?_
  refine mm_icmp_lt (tgt := 41) C (mm_dec dk_X7_readOr 2 rfl) (by decide) (fun c3 => ?_) (fun c3 => ?_)
  · skip
    refine mm_aload_n C (mm_dec dk_X7_readOr 21 rfl) rfl ?_
    refine mm_iload_n C (mm_dec dk_X7_readOr 22 rfl) rfl ?_
    refine mm_cVi (rest := []) C1 ev_X7_99 (mm_dec dk_X7_readOr 23 rfl) (c_X7_readAnd_k4 x.2.1 hl (d - 1) (by omega) h i0 p1 ⟨by omega, by omega⟩ (by omega)) rfl rfl (Nat.le_of_ble_eq_true rfl) ⟨by decide, by decide⟩ rfl (fun r43 h43c hp43 => ?_) (fun _ _ q => q.elim)
    obtain ⟨b43, i43c, g43c, y43_0⟩ := hp43
    have f43c : mm_fr [(63, 4), (63, 5), (63, 6), (63, 7), (63, 8), (63, 9), (63, 10)] [64] h h43c := mm_fr_tr f0 g43c (by decide +kernel)
    have g4 : -2147483648 ≤ (h43c.1 63 5) ∧ (h43c.1 63 5) ≤ 2147483647 := i43c.1 63 5
    have g5 : 0 ≤ (h43c.1 63 7) ∧ (h43c.1 63 7) ≤ 500 := i43c.1 63 7
    refine mm_if_ne (tgt := 51) C (mm_dec dk_X7_readOr 24 rfl) (by decide) (fun c46 => ?_) (fun c46 => ?_)
    · skip
      refine mm_iconst C (mm_dec dk_X7_readOr 27 rfl) ⟨by decide, by decide⟩ ?_
      have J53 : ∀ (n : Nat) (x53_2 : Int) (bx53_2 : 0 ≤ x53_2 ∧ x53_2 ≤ 500) (h53_ : mH) (i53_ : mm_inv h53_) (f53_ : mm_fr [(63, 4), (63, 5), (63, 6), (63, 7), (63, 8), (63, 9), (63, 10)] [64] h h53_) (w53_0 : (h53_.1 63 5 = 0 ∨ h53_.1 63 7 ≤ 499)), (500 - x53_2 : Int) < n → mm_W x 0 0 53 [mR 63, mI p1, mI x53_2] [] h53_ := by
        intro n
        induction n with
        | zero =>
          intro x53_2 bx53_2 h53_ i53_ f53_ w53_0 hm
          have g6 : -2147483648 ≤ h53_.1 63 5 ∧ h53_.1 63 5 ≤ 2147483647 := i53_.1 63 5
          have g7 : 0 ≤ h53_.1 63 7 ∧ h53_.1 63 7 ≤ 500 := i53_.1 63 7
          exfalso; omega
        | succ n ih53 =>
          intro x53_2 bx53_2 h53_ i53_ f53_ w53_0 hm53
          have g8 : -2147483648 ≤ h53_.1 63 5 ∧ h53_.1 63 5 ≤ 2147483647 := i53_.1 63 5
          have g9 : 0 ≤ h53_.1 63 7 ∧ h53_.1 63 7 ≤ 500 := i53_.1 63 7
          refine mm_iload_n C (mm_dec dk_X7_readOr 29 rfl) rfl ?_
          refine mm_sipush C (mm_dec dk_X7_readOr 30 rfl) ⟨by decide, by decide⟩ ?_
          have J94 : mm_W x 0 0 94 [mU, mU, mU] [] h53_ := by
            have g10 : -2147483648 ≤ h53_.1 63 5 ∧ h53_.1 63 5 ≤ 2147483647 := i53_.1 63 5
            have g11 : 0 ≤ h53_.1 63 7 ∧ h53_.1 63 7 ≤ 500 := i53_.1 63 7
            refine mm_iconst C (mm_dec dk_X7_readOr 49 rfl) ⟨by decide, by decide⟩ ?_
            exact mm_zret C T (mm_dec dk_X7_readOr 50 rfl) (by decide : 0 ≤ 0) (by decide : 0 ≤ 0) (by omega) ⟨_, rfl, ⟨⟨by omega, by omega⟩, i53_, f53_, by omega⟩⟩
          refine mm_icmp_ge (tgt := 94) C (mm_dec dk_X7_readOr 31 rfl) (by decide) (fun c57 => ?_) (fun c57 => ?_)
          · skip
            refine mm_fgt 0 ?_
            refine mm_fgt 1 ?_
            refine mm_fgt 2 ?_
            exact J94
          · skip
            refine mm_aload_n C (mm_dec dk_X7_readOr 32 rfl) rfl ?_
            refine mm_geti C fl_X7_28 (mm_dec dk_X7_readOr 33 rfl) rfl rfl (Or.inl rfl) ?_
            have g12 : -2147483648 ≤ (h53_.1 63 6) ∧ (h53_.1 63 6) ≤ 2147483647 := i53_.1 63 6
            refine mm_iconst C (mm_dec dk_X7_readOr 34 rfl) ⟨by decide, by decide⟩ ?_
            refine mm_icmp_ne (tgt := 94) C (mm_dec dk_X7_readOr 35 rfl) (by decide) (fun c65 => ?_) (fun c65 => ?_)
            · skip
              refine mm_fgt 0 ?_
              refine mm_fgt 1 ?_
              refine mm_fgt 2 ?_
              exact J94
            · skip
              refine mm_aload_n C (mm_dec dk_X7_readOr 36 rfl) rfl ?_
              refine mm_cVv (rest := []) C1 ev_X7_52 (mm_dec dk_X7_readOr 37 rfl) (c_X7_step x.2.1 hl (d - 1) (by omega) h53_ i53_ ) rfl rfl (Nat.le_of_ble_eq_true rfl) ⟨by decide, by decide⟩ rfl (fun h69c hp69 => ?_) (fun _ _ q => q.elim)
              obtain ⟨i69c, g69c, y69_0⟩ := hp69
              have f69c : mm_fr [(63, 4), (63, 5), (63, 6), (63, 7), (63, 8), (63, 9), (63, 10)] [64] h h69c := mm_fr_tr f53_ g69c (by decide +kernel)
              have g14 : -2147483648 ≤ (h69c.1 63 5) ∧ (h69c.1 63 5) ≤ 2147483647 := i69c.1 63 5
              have g15 : 0 ≤ (h69c.1 63 7) ∧ (h69c.1 63 7) ≤ 500 := i69c.1 63 7
              refine mm_aload_n C (mm_dec dk_X7_readOr 38 rfl) rfl ?_
              refine mm_iload_n C (mm_dec dk_X7_readOr 39 rfl) rfl ?_
              refine mm_cVi (rest := []) C1 ev_X7_99 (mm_dec dk_X7_readOr 40 rfl) (c_X7_readAnd_k4 x.2.1 hl (d - 1) (by omega) h69c i69c p1 ⟨by omega, by omega⟩ (by omega)) rfl rfl (Nat.le_of_ble_eq_true rfl) ⟨by decide, by decide⟩ rfl (fun r74 h74c hp74 => ?_) (fun _ _ q => q.elim)
              obtain ⟨b74, i74c, g74c, y74_0⟩ := hp74
              have f74c : mm_fr [(63, 4), (63, 5), (63, 6), (63, 7), (63, 8), (63, 9), (63, 10)] [64] h h74c := mm_fr_tr f69c g74c (by decide +kernel)
              have g17 : -2147483648 ≤ (h74c.1 63 5) ∧ (h74c.1 63 5) ≤ 2147483647 := i74c.1 63 5
              have g18 : 0 ≤ (h74c.1 63 7) ∧ (h74c.1 63 7) ≤ 500 := i74c.1 63 7
              refine mm_if_ne (tgt := 82) C (mm_dec dk_X7_readOr 41 rfl) (by decide) (fun c77 => ?_) (fun c77 => ?_)
              · skip
                refine mm_aload_n C (mm_dec dk_X7_readOr 44 rfl) rfl ?_
                refine mm_ldc (z := 100011) C (mm_dec dk_X7_readOr 45 rfl) kc_X7_102 (by decide) ?_
                refine mm_cVv (rest := []) C1 ev_X7_79 (mm_dec dk_X7_readOr 46 rfl) (c_X7_emit x.2.1 hl (d - 1) (by omega) h74c i74c 100011) rfl rfl (Nat.le_of_ble_eq_true rfl) ⟨by decide, by decide⟩ rfl (fun h85c hp85 => ?_) (fun _ _ q => q.elim)
                obtain ⟨i85c, g85c⟩ := hp85
                have f85c : mm_fr [(63, 4), (63, 5), (63, 6), (63, 7), (63, 8), (63, 9), (63, 10)] [64] h h85c := mm_fr_tr f74c g85c (by decide +kernel)
                have q85c_20 : h85c.1 63 5 = h74c.1 63 5 := g85c.1 63 5 (by decide)
                have q85c_21 : h85c.1 63 7 = h74c.1 63 7 := g85c.1 63 7 (by decide)
                refine mm_iincL (ls2 := [mR 63, mI p1, mI (x53_2 + 1)]) C (mm_dec dk_X7_readOr 47 rfl) rfl (by decide) ⟨by omega, by omega⟩ rfl ?_
                refine mm_goto (tgt := 53) C (mm_dec dk_X7_readOr 48 rfl) (by decide) ?_
                exact ih53 (x53_2 + 1) ⟨by omega, by omega⟩ h85c i85c f85c (by omega) (by omega)
              · skip
                refine mm_iconst C (mm_dec dk_X7_readOr 42 rfl) ⟨by decide, by decide⟩ ?_
                exact mm_zret C T (mm_dec dk_X7_readOr 43 rfl) (by decide : 0 ≤ 0) (by decide : 0 ≤ 0) (by omega) ⟨_, rfl, ⟨⟨by omega, by omega⟩, i74c, f74c, by omega⟩⟩
      refine mm_istore_nL (ls2 := [mR 63, mI p1, mI 0]) C (mm_dec dk_X7_readOr 28 rfl) (by decide) rfl ?_
      exact J53 (((500 - 0) : Int) + 1).toNat 0 ⟨by omega, by omega⟩ h43c i43c f43c (by omega) (by omega)
    · skip
      refine mm_iconst C (mm_dec dk_X7_readOr 25 rfl) ⟨by decide, by decide⟩ ?_
      exact mm_zret C T (mm_dec dk_X7_readOr 26 rfl) (by decide : 0 ≤ 0) (by decide : 0 ≤ 0) (by omega) ⟨_, rfl, ⟨⟨by omega, by omega⟩, i43c, f43c, by omega⟩⟩
  · skip
    exfalso; omega
set_option maxRecDepth 100000 in
set_option maxHeartbeats 4000000 in
theorem c_X7_readPart_k3 (l : Launch) (hl : l.stackTraces = false) (d : Nat) (hd : 20 ≤ d) (h : mH) (i0 : mm_inv h) (p1 : Int) (bp1 : 3 ≤ p1 ∧ p1 ≤ 3) (t0 : (h.1 63 5 = 0 ∨ h.1 63 7 ≤ 499)) : mm_Met l d yX7_readPart cX7_readPart 2 (some .boolean) [mR 63, mI p1] h (mm_pi fun r h2 => (0 ≤ r ∧ r ≤ 1) ∧ mm_inv h2 ∧ mm_fr [(63, 4), (63, 5), (63, 6), (63, 7), (63, 8), (63, 9), (63, 10)] [64] h h2 ∧ (h2.1 63 5 = 0 ∨ h2.1 63 7 ≤ 499)) mm_nx 0 0 := by
  refine mm_ofW (ls := [mR 63, mI p1]) hl (by decide) rfl (Nat.le_of_ble_eq_true rfl) ?_
  intro x hxl C T hnm htb
  subst hxl
  have C1 := mm_OK_le (d' := d - 1 + 1) (by omega) C
  have C8 := mm_OK_le (d' := d - 8 + 8) (by omega) C
  refine mm_rng (fun hr _ => ?_)
  have ap1 : -2147483648 ≤ p1 ∧ p1 < 2147483648 := mm_ok_at hr (i := 1) rfl
  have f0 : mm_fr [(63, 4), (63, 5), (63, 6), (63, 7), (63, 8), (63, 9), (63, 10)] [64] h h := mm_fr_rf
  have g1 : -2147483648 ≤ h.1 63 5 ∧ h.1 63 5 ≤ 2147483647 := i0.1 63 5
  have g2 : 0 ≤ h.1 63 7 ∧ h.1 63 7 ≤ 500 := i0.1 63 7
  refine mm_aload_n C (mm_dec dk_X7_readPart 0 rfl) rfl ?_
  refine mm_bipush C (mm_dec dk_X7_readPart 1 rfl) ⟨by decide, by decide⟩ ?_
  refine mm_cVi (rest := []) C1 ev_X7_96 (mm_dec dk_X7_readPart 2 rfl) (c_X7_isSign x.2.1 hl (d - 1) (by omega) h i0 40 (by omega)) rfl rfl (Nat.le_of_ble_eq_true rfl) ⟨by decide, by decide⟩ rfl (fun r3 h3c hp3 => ?_) (fun _ _ q => q.elim)
  obtain ⟨z3, y3⟩ := hp3
  rw [z3]
  have g4 : -2147483648 ≤ (h.2.1 62 (h.1 63 7)) ∧ (h.2.1 62 (h.1 63 7)) ≤ 2147483647 := i0.2.1 62 (h.1 63 7)
  refine mm_if_eq (tgt := 38) C (mm_dec dk_X7_readPart 3 rfl) (by decide) (fun c6 => ?_) (fun c6 => ?_)
  · skip
    refine mm_aload_n C (mm_dec dk_X7_readPart 20 rfl) rfl ?_
    refine mm_geti C fl_X7_25 (mm_dec dk_X7_readPart 21 rfl) rfl rfl (Or.inl rfl) ?_
    refine mm_iconst C (mm_dec dk_X7_readPart 22 rfl) ⟨by decide, by decide⟩ ?_
    have J117 : ∀ (h117_ : mH) (i117_ : mm_inv h117_) (f117_ : mm_fr [(63, 4), (63, 5), (63, 6), (63, 7), (63, 8), (63, 9), (63, 10)] [64] h h117_) (w117_0 : (h117_.1 63 5 = 0 ∨ h117_.1 63 7 ≤ 499)), mm_W x 0 0 117 [mR 63, mU] [] h117_ := by
      intro h117_ i117_ f117_ w117_0
      have g5 : -2147483648 ≤ h117_.1 63 5 ∧ h117_.1 63 5 ≤ 2147483647 := i117_.1 63 5
      have g6 : 0 ≤ h117_.1 63 7 ∧ h117_.1 63 7 ≤ 500 := i117_.1 63 7
      refine mm_aload_n C (mm_dec dk_X7_readPart 61 rfl) rfl ?_
      refine mm_cVv (rest := []) C1 ev_X7_52 (mm_dec dk_X7_readPart 62 rfl) (c_X7_step x.2.1 hl (d - 1) (by omega) h117_ i117_ ) rfl rfl (Nat.le_of_ble_eq_true rfl) ⟨by decide, by decide⟩ rfl (fun h118c hp118 => ?_) (fun _ _ q => q.elim)
      obtain ⟨i118c, g118c, y118_0⟩ := hp118
      have f118c : mm_fr [(63, 4), (63, 5), (63, 6), (63, 7), (63, 8), (63, 9), (63, 10)] [64] h h118c := mm_fr_tr f117_ g118c (by decide +kernel)
      have g8 : -2147483648 ≤ (h118c.1 63 5) ∧ (h118c.1 63 5) ≤ 2147483647 := i118c.1 63 5
      have g9 : 0 ≤ (h118c.1 63 7) ∧ (h118c.1 63 7) ≤ 500 := i118c.1 63 7
      refine mm_iconst C (mm_dec dk_X7_readPart 63 rfl) ⟨by decide, by decide⟩ ?_
      exact mm_zret C T (mm_dec dk_X7_readPart 64 rfl) (by decide : 0 ≤ 0) (by decide : 0 ≤ 0) (by omega) ⟨_, rfl, ⟨⟨by omega, by omega⟩, i118c, f118c, by omega⟩⟩
    refine mm_icmp_ne (tgt := 100) C (mm_dec dk_X7_readPart 23 rfl) (by decide) (fun c43 => ?_) (fun c43 => ?_)
    · skip
      refine mm_aload_n C (mm_dec dk_X7_readPart 52 rfl) rfl ?_
      refine mm_cVi (rest := []) C1 ev_X7_89 (mm_dec dk_X7_readPart 53 rfl) (c_X7_isNumber x.2.1 hl (d - 1) (by omega) h i0 ) rfl rfl (Nat.le_of_ble_eq_true rfl) ⟨by decide, by decide⟩ rfl (fun r101 h101c hp101 => ?_) (fun _ _ q => q.elim)
      obtain ⟨b101, i101c, g101c⟩ := hp101
      have f101c : mm_fr [(63, 4), (63, 5), (63, 6), (63, 7), (63, 8), (63, 9), (63, 10)] [64] h h101c := mm_fr_tr f0 g101c (by decide +kernel)
      have q101c_11 : h101c.1 63 5 = h.1 63 5 := g101c.1 63 5 (by decide)
      have q101c_12 : h101c.1 63 7 = h.1 63 7 := g101c.1 63 7 (by decide)
      refine mm_if_ne (tgt := 109) C (mm_dec dk_X7_readPart 54 rfl) (by decide) (fun c104 => ?_) (fun c104 => ?_)
      · skip
        refine mm_aload_n C (mm_dec dk_X7_readPart 57 rfl) rfl ?_
        refine mm_aload_n C (mm_dec dk_X7_readPart 58 rfl) rfl ?_
        refine mm_cVi (rest := [mR 63]) C1 ev_X7_92 (mm_dec dk_X7_readPart 59 rfl) (c_X7_numberOfToken x.2.1 hl (d - 1) (by omega) h101c i101c ) rfl rfl (Nat.le_of_ble_eq_true rfl) ⟨by decide, by decide⟩ rfl (fun r111 h111c hp111 => ?_) (fun _ _ q => q.elim)
        obtain ⟨b111, z111⟩ := hp111
        rw [z111]
        refine mm_cVv (rest := []) C1 ev_X7_79 (mm_dec dk_X7_readPart 60 rfl) (c_X7_emit x.2.1 hl (d - 1) (by omega) h101c i101c r111) rfl rfl (Nat.le_of_ble_eq_true rfl) ⟨by decide, by decide⟩ rfl (fun h114c hp114 => ?_) (fun _ _ q => q.elim)
        obtain ⟨i114c, g114c⟩ := hp114
        have f114c : mm_fr [(63, 4), (63, 5), (63, 6), (63, 7), (63, 8), (63, 9), (63, 10)] [64] h h114c := mm_fr_tr f101c g114c (by decide +kernel)
        have q114c_15 : h114c.1 63 5 = h101c.1 63 5 := g114c.1 63 5 (by decide)
        have q114c_16 : h114c.1 63 7 = h101c.1 63 7 := g114c.1 63 7 (by decide)
        refine mm_fgt 1 ?_
        exact J117 h114c i114c f114c (by omega)
      · skip
        refine mm_iconst C (mm_dec dk_X7_readPart 55 rfl) ⟨by decide, by decide⟩ ?_
        exact mm_zret C T (mm_dec dk_X7_readPart 56 rfl) (by decide : 0 ≤ 0) (by decide : 0 ≤ 0) (by omega) ⟨_, rfl, ⟨⟨by omega, by omega⟩, i101c, f101c, by omega⟩⟩
    · skip
      refine mm_aload_n C (mm_dec dk_X7_readPart 24 rfl) rfl ?_
      refine mm_geti C fl_X7_28 (mm_dec dk_X7_readPart 25 rfl) rfl rfl (Or.inl rfl) ?_
      have g17 : -2147483648 ≤ (h.1 63 6) ∧ (h.1 63 6) ≤ 2147483647 := i0.1 63 6
      refine mm_bipush C (mm_dec dk_X7_readPart 26 rfl) ⟨by decide, by decide⟩ ?_
      refine mm_icmp_ge (tgt := 61) C (mm_dec dk_X7_readPart 27 rfl) (by decide) (fun c52 => ?_) (fun c52 => ?_)
      · skip
        refine mm_aload_n C (mm_dec dk_X7_readPart 32 rfl) rfl ?_
        refine mm_aload_n C (mm_dec dk_X7_readPart 33 rfl) rfl ?_
        refine mm_geti C fl_X7_28 (mm_dec dk_X7_readPart 34 rfl) rfl rfl (Or.inl rfl) ?_
        refine mm_bipush C (mm_dec dk_X7_readPart 35 rfl) ⟨by decide, by decide⟩ ?_
        have J94 : ∀ (s94_1 : Int) (bs94_1 : -2147483648 ≤ s94_1 ∧ s94_1 ≤ 2147483647), mm_W x 0 0 94 [mR 63, mU] [mI s94_1, mR 63] h := by
          intro s94_1 bs94_1
          have g18 : -2147483648 ≤ h.1 63 5 ∧ h.1 63 5 ≤ 2147483647 := i0.1 63 5
          have g19 : 0 ≤ h.1 63 7 ∧ h.1 63 7 ≤ 500 := i0.1 63 7
          refine mm_cVv (rest := []) C1 ev_X7_79 (mm_dec dk_X7_readPart 50 rfl) (c_X7_emit x.2.1 hl (d - 1) (by omega) h i0 s94_1) rfl rfl (Nat.le_of_ble_eq_true rfl) ⟨by decide, by decide⟩ rfl (fun h94c hp94 => ?_) (fun _ _ q => q.elim)
          obtain ⟨i94c, g94c⟩ := hp94
          have f94c : mm_fr [(63, 4), (63, 5), (63, 6), (63, 7), (63, 8), (63, 9), (63, 10)] [64] h h94c := mm_fr_tr f0 g94c (by decide +kernel)
          have q94c_21 : h94c.1 63 5 = h.1 63 5 := g94c.1 63 5 (by decide)
          have q94c_22 : h94c.1 63 6 = h.1 63 6 := g94c.1 63 6 (by decide)
          have q94c_23 : h94c.1 63 7 = h.1 63 7 := g94c.1 63 7 (by decide)
          refine mm_goto (tgt := 117) C (mm_dec dk_X7_readPart 51 rfl) (by decide) ?_
          exact J117 h94c i94c f94c (by omega)
        refine mm_icmp_ge (tgt := 84) C (mm_dec dk_X7_readPart 36 rfl) (by decide) (fun c68 => ?_) (fun c68 => ?_)
        · skip
          refine mm_ldc (z := 100000) C (mm_dec dk_X7_readPart 44 rfl) kc_X7_127 (by decide) ?_
          refine mm_aload_n C (mm_dec dk_X7_readPart 45 rfl) rfl ?_
          refine mm_geti C fl_X7_28 (mm_dec dk_X7_readPart 46 rfl) rfl rfl (Or.inl rfl) ?_
          refine mm_iaddw C (mm_dec dk_X7_readPart 47 rfl) ?_
          have g24 : -2147483648 ≤ (mm_w (100000 + (h.1 63 6))) ∧ (mm_w (100000 + (h.1 63 6))) < 2147483648 := mm_w_rg _
          refine mm_bipush C (mm_dec dk_X7_readPart 48 rfl) ⟨by decide, by decide⟩ ?_
          refine mm_isubw C (mm_dec dk_X7_readPart 49 rfl) ?_
          have g25 : -2147483648 ≤ (mm_w ((mm_w (100000 + (h.1 63 6))) - 10)) ∧ (mm_w ((mm_w (100000 + (h.1 63 6))) - 10)) < 2147483648 := mm_w_rg _
          refine mm_fgt 1 ?_
          exact J94 (mm_w ((mm_w (100000 + (h.1 63 6))) - 10)) ⟨by omega, by omega⟩
        · skip
          refine mm_ldc (z := 100007) C (mm_dec dk_X7_readPart 37 rfl) kc_X7_126 (by decide) ?_
          refine mm_aload_n C (mm_dec dk_X7_readPart 38 rfl) rfl ?_
          refine mm_geti C fl_X7_28 (mm_dec dk_X7_readPart 39 rfl) rfl rfl (Or.inl rfl) ?_
          refine mm_iadd C (mm_dec dk_X7_readPart 40 rfl) ⟨by omega, by omega⟩ ?_
          refine mm_bipush C (mm_dec dk_X7_readPart 41 rfl) ⟨by decide, by decide⟩ ?_
          refine mm_isub C (mm_dec dk_X7_readPart 42 rfl) ⟨by omega, by omega⟩ ?_
          refine mm_goto (tgt := 94) C (mm_dec dk_X7_readPart 43 rfl) (by decide) ?_
          refine mm_fgt 1 ?_
          exact J94 ((100007 + (h.1 63 6)) - 7) ⟨by omega, by omega⟩
      · skip
        refine mm_aload_n C (mm_dec dk_X7_readPart 28 rfl) rfl ?_
        refine mm_iconst C (mm_dec dk_X7_readPart 29 rfl) ⟨by decide, by decide⟩ ?_
        refine mm_cVi (rest := []) C1 ev_X7_65 (mm_dec dk_X7_readPart 30 rfl) (c_X7_refuse x.2.1 hl (d - 1) (by omega) h i0 3) rfl rfl (Nat.le_of_ble_eq_true rfl) ⟨by decide, by decide⟩ rfl (fun r57 h57c hp57 => ?_) (fun _ _ q => q.elim)
        obtain ⟨b57, i57c, g57c⟩ := hp57
        have f57c : mm_fr [(63, 4), (63, 5), (63, 6), (63, 7), (63, 8), (63, 9), (63, 10)] [64] h h57c := mm_fr_tr f0 g57c (by decide +kernel)
        have q57c_27 : h57c.1 63 5 = h.1 63 5 := g57c.1 63 5 (by decide)
        have q57c_28 : h57c.1 63 6 = h.1 63 6 := g57c.1 63 6 (by decide)
        have q57c_29 : h57c.1 63 7 = h.1 63 7 := g57c.1 63 7 (by decide)
        exact mm_zret C T (mm_dec dk_X7_readPart 31 rfl) (by decide : 0 ≤ 0) (by decide : 0 ≤ 0) (by omega) ⟨_, rfl, ⟨⟨by omega, by omega⟩, i57c, f57c, by omega⟩⟩
  · skip
    refine mm_aload_n C (mm_dec dk_X7_readPart 4 rfl) rfl ?_
    refine mm_cVv (rest := []) C1 ev_X7_52 (mm_dec dk_X7_readPart 5 rfl) (c_X7_step x.2.1 hl (d - 1) (by omega) h i0 ) rfl rfl (Nat.le_of_ble_eq_true rfl) ⟨by decide, by decide⟩ rfl (fun h10c hp10 => ?_) (fun _ _ q => q.elim)
    obtain ⟨i10c, g10c, y10_0⟩ := hp10
    have f10c : mm_fr [(63, 4), (63, 5), (63, 6), (63, 7), (63, 8), (63, 9), (63, 10)] [64] h h10c := mm_fr_tr f0 g10c (by decide +kernel)
    have g31 : -2147483648 ≤ (h10c.1 63 5) ∧ (h10c.1 63 5) ≤ 2147483647 := i10c.1 63 5
    have g32 : 0 ≤ (h10c.1 63 7) ∧ (h10c.1 63 7) ≤ 500 := i10c.1 63 7
    refine mm_aload_n C (mm_dec dk_X7_readPart 6 rfl) rfl ?_
    refine mm_iload_n C (mm_dec dk_X7_readPart 7 rfl) rfl ?_
    refine mm_iconst C (mm_dec dk_X7_readPart 8 rfl) ⟨by decide, by decide⟩ ?_
    refine mm_iadd C (mm_dec dk_X7_readPart 9 rfl) ⟨by omega, by omega⟩ ?_
    refine mm_cVi (rest := []) C1 ev_X7_75 (mm_dec dk_X7_readPart 10 rfl) (c_X7_readOr_k4 x.2.1 hl (d - 1) (by omega) h10c i10c (p1 + 1) ⟨by omega, by omega⟩ (by omega)) rfl rfl (Nat.le_of_ble_eq_true rfl) ⟨by decide, by decide⟩ rfl (fun r17 h17c hp17 => ?_) (fun _ _ q => q.elim)
    obtain ⟨b17, i17c, g17c, y17_0⟩ := hp17
    have f17c : mm_fr [(63, 4), (63, 5), (63, 6), (63, 7), (63, 8), (63, 9), (63, 10)] [64] h h17c := mm_fr_tr f10c g17c (by decide +kernel)
    have g34 : -2147483648 ≤ (h17c.1 63 5) ∧ (h17c.1 63 5) ≤ 2147483647 := i17c.1 63 5
    have g35 : 0 ≤ (h17c.1 63 7) ∧ (h17c.1 63 7) ≤ 500 := i17c.1 63 7
    have J37 : ∀ (s37_0 : Int) (bs37_0 : 0 ≤ s37_0 ∧ s37_0 ≤ 1) (h37_ : mH) (i37_ : mm_inv h37_) (f37_ : mm_fr [(63, 4), (63, 5), (63, 6), (63, 7), (63, 8), (63, 9), (63, 10)] [64] h h37_) (w37_0 : (h37_.1 63 5 = 0 ∨ h37_.1 63 7 ≤ 499)), mm_W x 0 0 37 [mU, mU] [mI s37_0] h37_ := by
      intro s37_0 bs37_0 h37_ i37_ f37_ w37_0
      have g36 : -2147483648 ≤ h37_.1 63 5 ∧ h37_.1 63 5 ≤ 2147483647 := i37_.1 63 5
      have g37 : 0 ≤ h37_.1 63 7 ∧ h37_.1 63 7 ≤ 500 := i37_.1 63 7
      exact mm_zret C T (mm_dec dk_X7_readPart 19 rfl) (by decide : 0 ≤ 0) (by decide : 0 ≤ 0) (by omega) ⟨_, rfl, ⟨⟨by omega, by omega⟩, i37_, f37_, by omega⟩⟩
    have J36 : ∀ (h36_ : mH) (i36_ : mm_inv h36_) (f36_ : mm_fr [(63, 4), (63, 5), (63, 6), (63, 7), (63, 8), (63, 9), (63, 10)] [64] h h36_) (w36_0 : (h36_.1 63 5 = 0 ∨ h36_.1 63 7 ≤ 499)), mm_W x 0 0 36 [mU, mU] [] h36_ := by
      intro h36_ i36_ f36_ w36_0
      have g38 : -2147483648 ≤ h36_.1 63 5 ∧ h36_.1 63 5 ≤ 2147483647 := i36_.1 63 5
      have g39 : 0 ≤ h36_.1 63 7 ∧ h36_.1 63 7 ≤ 500 := i36_.1 63 7
      refine mm_iconst C (mm_dec dk_X7_readPart 18 rfl) ⟨by decide, by decide⟩ ?_
      exact J37 0 ⟨by omega, by omega⟩ h36_ i36_ f36_ (by omega)
    refine mm_if_eq (tgt := 36) C (mm_dec dk_X7_readPart 11 rfl) (by decide) (fun c20 => ?_) (fun c20 => ?_)
    · skip
      refine mm_fgt 0 ?_
      refine mm_fgt 1 ?_
      exact J36 h17c i17c f17c (by omega)
    · skip
      refine mm_aload_n C (mm_dec dk_X7_readPart 12 rfl) rfl ?_
      refine mm_bipush C (mm_dec dk_X7_readPart 13 rfl) ⟨by decide, by decide⟩ ?_
      refine mm_cVi (rest := []) C1 ev_X7_72 (mm_dec dk_X7_readPart 14 rfl) (c_X7_readSign x.2.1 hl (d - 1) (by omega) h17c i17c 41 (by omega)) rfl rfl (Nat.le_of_ble_eq_true rfl) ⟨by decide, by decide⟩ rfl (fun r26 h26c hp26 => ?_) (fun _ _ q => q.elim)
      obtain ⟨b26, i26c, g26c, y26_0⟩ := hp26
      have f26c : mm_fr [(63, 4), (63, 5), (63, 6), (63, 7), (63, 8), (63, 9), (63, 10)] [64] h h26c := mm_fr_tr f17c g26c (by decide +kernel)
      have g41 : -2147483648 ≤ (h26c.1 63 5) ∧ (h26c.1 63 5) ≤ 2147483647 := i26c.1 63 5
      have g42 : 0 ≤ (h26c.1 63 7) ∧ (h26c.1 63 7) ≤ 500 := i26c.1 63 7
      refine mm_if_eq (tgt := 36) C (mm_dec dk_X7_readPart 15 rfl) (by decide) (fun c29 => ?_) (fun c29 => ?_)
      · skip
        refine mm_fgt 0 ?_
        refine mm_fgt 1 ?_
        exact J36 h26c i26c f26c (by omega)
      · skip
        refine mm_iconst C (mm_dec dk_X7_readPart 16 rfl) ⟨by decide, by decide⟩ ?_
        refine mm_goto (tgt := 37) C (mm_dec dk_X7_readPart 17 rfl) (by decide) ?_
        refine mm_fgt 0 ?_
        refine mm_fgt 1 ?_
        exact J37 1 ⟨by omega, by omega⟩ h26c i26c f26c (by omega)
set_option maxRecDepth 100000 in
set_option maxHeartbeats 4000000 in
theorem c_X7_readProduct_k3 (l : Launch) (hl : l.stackTraces = false) (d : Nat) (hd : 21 ≤ d) (h : mH) (i0 : mm_inv h) (p1 : Int) (bp1 : 3 ≤ p1 ∧ p1 ≤ 3) (t0 : (h.1 63 5 = 0 ∨ h.1 63 7 ≤ 499)) : mm_Met l d yX7_readProduct cX7_readProduct 4 (some .boolean) [mR 63, mI p1] h (mm_pi fun r h2 => (0 ≤ r ∧ r ≤ 1) ∧ mm_inv h2 ∧ mm_fr [(63, 4), (63, 5), (63, 6), (63, 7), (63, 8), (63, 9), (63, 10)] [64] h h2 ∧ (h2.1 63 5 = 0 ∨ h2.1 63 7 ≤ 499)) mm_nx 0 0 := by
  refine mm_ofW (ls := [mR 63, mI p1, mU, mU]) hl (by decide) rfl (Nat.le_of_ble_eq_true rfl) ?_
  intro x hxl C T hnm htb
  subst hxl
  have C1 := mm_OK_le (d' := d - 1 + 1) (by omega) C
  have C8 := mm_OK_le (d' := d - 8 + 8) (by omega) C
  refine mm_rng (fun hr _ => ?_)
  have ap1 : -2147483648 ≤ p1 ∧ p1 < 2147483648 := mm_ok_at hr (i := 1) rfl
  have f0 : mm_fr [(63, 4), (63, 5), (63, 6), (63, 7), (63, 8), (63, 9), (63, 10)] [64] h h := mm_fr_rf
  have g1 : -2147483648 ≤ h.1 63 5 ∧ h.1 63 5 ≤ 2147483647 := i0.1 63 5
  have g2 : 0 ≤ h.1 63 7 ∧ h.1 63 7 ≤ 500 := i0.1 63 7
  refine mm_aload_n C (mm_dec dk_X7_readProduct 0 rfl) rfl ?_
  refine mm_iload_n C (mm_dec dk_X7_readProduct 1 rfl) rfl ?_
  refine mm_cVi (rest := []) C1 ev_X7_121 (mm_dec dk_X7_readProduct 2 rfl) (c_X7_readPart_k3 x.2.1 hl (d - 1) (by omega) h i0 p1 ⟨by omega, by omega⟩ (by omega)) rfl rfl (Nat.le_of_ble_eq_true rfl) ⟨by decide, by decide⟩ rfl (fun r2 h2c hp2 => ?_) (fun _ _ q => q.elim)
  obtain ⟨b2, i2c, g2c, y2_0⟩ := hp2
  have f2c : mm_fr [(63, 4), (63, 5), (63, 6), (63, 7), (63, 8), (63, 9), (63, 10)] [64] h h2c := mm_fr_tr f0 g2c (by decide +kernel)
  have g4 : -2147483648 ≤ (h2c.1 63 5) ∧ (h2c.1 63 5) ≤ 2147483647 := i2c.1 63 5
  have g5 : 0 ≤ (h2c.1 63 7) ∧ (h2c.1 63 7) ≤ 500 := i2c.1 63 7
  refine mm_if_ne (tgt := 10) C (mm_dec dk_X7_readProduct 3 rfl) (by decide) (fun c5 => ?_) (fun c5 => ?_)
  · skip
    refine mm_iconst C (mm_dec dk_X7_readProduct 6 rfl) ⟨by decide, by decide⟩ ?_
    have J12 : ∀ (n : Nat) (x12_2 : Int) (bx12_2 : 0 ≤ x12_2 ∧ x12_2 ≤ 500) (h12_ : mH) (i12_ : mm_inv h12_) (f12_ : mm_fr [(63, 4), (63, 5), (63, 6), (63, 7), (63, 8), (63, 9), (63, 10)] [64] h h12_) (w12_0 : (h12_.1 63 5 = 0 ∨ h12_.1 63 7 ≤ 499)), (500 - x12_2 : Int) < n → mm_W x 0 0 12 [mR 63, mI p1, mI x12_2, mU] [] h12_ := by
      intro n
      induction n with
      | zero =>
        intro x12_2 bx12_2 h12_ i12_ f12_ w12_0 hm
        have g6 : -2147483648 ≤ h12_.1 63 5 ∧ h12_.1 63 5 ≤ 2147483647 := i12_.1 63 5
        have g7 : 0 ≤ h12_.1 63 7 ∧ h12_.1 63 7 ≤ 500 := i12_.1 63 7
        exfalso; omega
      | succ n ih12 =>
        intro x12_2 bx12_2 h12_ i12_ f12_ w12_0 hm12
        have g8 : -2147483648 ≤ h12_.1 63 5 ∧ h12_.1 63 5 ≤ 2147483647 := i12_.1 63 5
        have g9 : 0 ≤ h12_.1 63 7 ∧ h12_.1 63 7 ≤ 500 := i12_.1 63 7
        refine mm_iload_n C (mm_dec dk_X7_readProduct 8 rfl) rfl ?_
        refine mm_sipush C (mm_dec dk_X7_readProduct 9 rfl) ⟨by decide, by decide⟩ ?_
        have J79 : mm_W x 0 0 79 [mU, mU, mU, mU] [] h12_ := by
          have g10 : -2147483648 ≤ h12_.1 63 5 ∧ h12_.1 63 5 ≤ 2147483647 := i12_.1 63 5
          have g11 : 0 ≤ h12_.1 63 7 ∧ h12_.1 63 7 ≤ 500 := i12_.1 63 7
          refine mm_iconst C (mm_dec dk_X7_readProduct 40 rfl) ⟨by decide, by decide⟩ ?_
          exact mm_zret C T (mm_dec dk_X7_readProduct 41 rfl) (by decide : 0 ≤ 0) (by decide : 0 ≤ 0) (by omega) ⟨_, rfl, ⟨⟨by omega, by omega⟩, i12_, f12_, by omega⟩⟩
        refine mm_icmp_ge (tgt := 79) C (mm_dec dk_X7_readProduct 10 rfl) (by decide) (fun c16 => ?_) (fun c16 => ?_)
        · skip
          refine mm_fgt 0 ?_
          refine mm_fgt 1 ?_
          refine mm_fgt 2 ?_
          exact J79
        · skip
          refine mm_aload_n C (mm_dec dk_X7_readProduct 11 rfl) rfl ?_
          refine mm_bipush C (mm_dec dk_X7_readProduct 12 rfl) ⟨by decide, by decide⟩ ?_
          refine mm_cVi (rest := []) C1 ev_X7_96 (mm_dec dk_X7_readProduct 13 rfl) (c_X7_isSign x.2.1 hl (d - 1) (by omega) h12_ i12_ 42 (by omega)) rfl rfl (Nat.le_of_ble_eq_true rfl) ⟨by decide, by decide⟩ rfl (fun r22 h22c hp22 => ?_) (fun _ _ q => q.elim)
          obtain ⟨z22, y22⟩ := hp22
          rw [z22]
          have g13 : -2147483648 ≤ (h12_.2.1 62 (h12_.1 63 7)) ∧ (h12_.2.1 62 (h12_.1 63 7)) ≤ 2147483647 := i12_.2.1 62 (h12_.1 63 7)
          have J37 : mm_W x 0 0 37 [mR 63, mI p1, mI x12_2, mU] [] h12_ := by
            have g14 : -2147483648 ≤ h12_.1 63 5 ∧ h12_.1 63 5 ≤ 2147483647 := i12_.1 63 5
            have g15 : 0 ≤ h12_.1 63 7 ∧ h12_.1 63 7 ≤ 500 := i12_.1 63 7
            refine mm_aload_n C (mm_dec dk_X7_readProduct 19 rfl) rfl ?_
            refine mm_bipush C (mm_dec dk_X7_readProduct 20 rfl) ⟨by decide, by decide⟩ ?_
            refine mm_cVi (rest := []) C1 ev_X7_96 (mm_dec dk_X7_readProduct 21 rfl) (c_X7_isSign x.2.1 hl (d - 1) (by omega) h12_ i12_ 42 (by omega)) rfl rfl (Nat.le_of_ble_eq_true rfl) ⟨by decide, by decide⟩ rfl (fun r40 h40c hp40 => ?_) (fun _ _ q => q.elim)
            obtain ⟨z40, y40⟩ := hp40
            rw [z40]
            have J53 : ∀ (s53_0 : Int) (bs53_0 : 100017 ≤ s53_0 ∧ s53_0 ≤ 100018) (vs53_0 : (r40 ≠ 0 ∧ s53_0 = 100017) ∨ (r40 = 0 ∧ s53_0 = 100018)), mm_W x 0 0 53 [mR 63, mI p1, mI x12_2, mU] [mI s53_0] h12_ := by
              intro s53_0 bs53_0 vs53_0
              have g17 : -2147483648 ≤ h12_.1 63 5 ∧ h12_.1 63 5 ≤ 2147483647 := i12_.1 63 5
              have g18 : 0 ≤ h12_.1 63 7 ∧ h12_.1 63 7 ≤ 500 := i12_.1 63 7
              refine mm_istore_nL (ls2 := [mR 63, mI p1, mI x12_2, mI s53_0]) C (mm_dec dk_X7_readProduct 26 rfl) (by decide) rfl ?_
              refine mm_aload_n C (mm_dec dk_X7_readProduct 27 rfl) rfl ?_
              refine mm_cVv (rest := []) C1 ev_X7_52 (mm_dec dk_X7_readProduct 28 rfl) (c_X7_step x.2.1 hl (d - 1) (by omega) h12_ i12_ ) rfl rfl (Nat.le_of_ble_eq_true rfl) ⟨by decide, by decide⟩ rfl (fun h55c hp55 => ?_) (fun _ _ q => q.elim)
              obtain ⟨i55c, g55c, y55_0⟩ := hp55
              have f55c : mm_fr [(63, 4), (63, 5), (63, 6), (63, 7), (63, 8), (63, 9), (63, 10)] [64] h h55c := mm_fr_tr f12_ g55c (by decide +kernel)
              have g20 : -2147483648 ≤ (h55c.1 63 5) ∧ (h55c.1 63 5) ≤ 2147483647 := i55c.1 63 5
              have g21 : 0 ≤ (h55c.1 63 7) ∧ (h55c.1 63 7) ≤ 500 := i55c.1 63 7
              refine mm_aload_n C (mm_dec dk_X7_readProduct 29 rfl) rfl ?_
              refine mm_iload_n C (mm_dec dk_X7_readProduct 30 rfl) rfl ?_
              refine mm_cVi (rest := []) C1 ev_X7_121 (mm_dec dk_X7_readProduct 31 rfl) (c_X7_readPart_k3 x.2.1 hl (d - 1) (by omega) h55c i55c p1 ⟨by omega, by omega⟩ (by omega)) rfl rfl (Nat.le_of_ble_eq_true rfl) ⟨by decide, by decide⟩ rfl (fun r60 h60c hp60 => ?_) (fun _ _ q => q.elim)
              obtain ⟨b60, i60c, g60c, y60_0⟩ := hp60
              have f60c : mm_fr [(63, 4), (63, 5), (63, 6), (63, 7), (63, 8), (63, 9), (63, 10)] [64] h h60c := mm_fr_tr f55c g60c (by decide +kernel)
              have g23 : -2147483648 ≤ (h60c.1 63 5) ∧ (h60c.1 63 5) ≤ 2147483647 := i60c.1 63 5
              have g24 : 0 ≤ (h60c.1 63 7) ∧ (h60c.1 63 7) ≤ 500 := i60c.1 63 7
              refine mm_if_ne (tgt := 68) C (mm_dec dk_X7_readProduct 32 rfl) (by decide) (fun c63 => ?_) (fun c63 => ?_)
              · skip
                refine mm_aload_n C (mm_dec dk_X7_readProduct 35 rfl) rfl ?_
                refine mm_iload_n C (mm_dec dk_X7_readProduct 36 rfl) rfl ?_
                refine mm_cVv (rest := []) C1 ev_X7_79 (mm_dec dk_X7_readProduct 37 rfl) (c_X7_emit x.2.1 hl (d - 1) (by omega) h60c i60c s53_0) rfl rfl (Nat.le_of_ble_eq_true rfl) ⟨by decide, by decide⟩ rfl (fun h70c hp70 => ?_) (fun _ _ q => q.elim)
                obtain ⟨i70c, g70c⟩ := hp70
                have f70c : mm_fr [(63, 4), (63, 5), (63, 6), (63, 7), (63, 8), (63, 9), (63, 10)] [64] h h70c := mm_fr_tr f60c g70c (by decide +kernel)
                have q70c_26 : h70c.1 63 5 = h60c.1 63 5 := g70c.1 63 5 (by decide)
                have q70c_27 : h70c.1 63 7 = h60c.1 63 7 := g70c.1 63 7 (by decide)
                refine mm_iincL (ls2 := [mR 63, mI p1, mI (x12_2 + 1), mI s53_0]) C (mm_dec dk_X7_readProduct 38 rfl) rfl (by decide) ⟨by omega, by omega⟩ rfl ?_
                refine mm_goto (tgt := 12) C (mm_dec dk_X7_readProduct 39 rfl) (by decide) ?_
                refine mm_fgt 3 ?_
                exact ih12 (x12_2 + 1) ⟨by omega, by omega⟩ h70c i70c f70c (by omega) (by omega)
              · skip
                refine mm_iconst C (mm_dec dk_X7_readProduct 33 rfl) ⟨by decide, by decide⟩ ?_
                exact mm_zret C T (mm_dec dk_X7_readProduct 34 rfl) (by decide : 0 ≤ 0) (by decide : 0 ≤ 0) (by omega) ⟨_, rfl, ⟨⟨by omega, by omega⟩, i60c, f60c, by omega⟩⟩
            refine mm_if_eq (tgt := 51) C (mm_dec dk_X7_readProduct 22 rfl) (by decide) (fun c43 => ?_) (fun c43 => ?_)
            · skip
              refine mm_ldc (z := 100018) C (mm_dec dk_X7_readProduct 25 rfl) kc_X7_125 (by decide) ?_
              exact J53 100018 ⟨by omega, by omega⟩ (Or.inr (⟨by omega, rfl⟩))
            · skip
              refine mm_ldc (z := 100017) C (mm_dec dk_X7_readProduct 23 rfl) kc_X7_124 (by decide) ?_
              refine mm_goto (tgt := 53) C (mm_dec dk_X7_readProduct 24 rfl) (by decide) ?_
              exact J53 100017 ⟨by omega, by omega⟩ (Or.inl ⟨by omega, rfl⟩)
          refine mm_if_ne (tgt := 37) C (mm_dec dk_X7_readProduct 14 rfl) (by decide) (fun c25 => ?_) (fun c25 => ?_)
          · skip
            exact J37
          · skip
            refine mm_aload_n C (mm_dec dk_X7_readProduct 15 rfl) rfl ?_
            refine mm_bipush C (mm_dec dk_X7_readProduct 16 rfl) ⟨by decide, by decide⟩ ?_
            refine mm_cVi (rest := []) C1 ev_X7_96 (mm_dec dk_X7_readProduct 17 rfl) (c_X7_isSign x.2.1 hl (d - 1) (by omega) h12_ i12_ 47 (by omega)) rfl rfl (Nat.le_of_ble_eq_true rfl) ⟨by decide, by decide⟩ rfl (fun r31 h31c hp31 => ?_) (fun _ _ q => q.elim)
            obtain ⟨z31, y31⟩ := hp31
            rw [z31]
            refine mm_if_eq (tgt := 79) C (mm_dec dk_X7_readProduct 18 rfl) (by decide) (fun c34 => ?_) (fun c34 => ?_)
            · skip
              refine mm_fgt 0 ?_
              refine mm_fgt 1 ?_
              refine mm_fgt 2 ?_
              exact J79
            · skip
              exact J37
    refine mm_istore_nL (ls2 := [mR 63, mI p1, mI 0, mU]) C (mm_dec dk_X7_readProduct 7 rfl) (by decide) rfl ?_
    exact J12 (((500 - 0) : Int) + 1).toNat 0 ⟨by omega, by omega⟩ h2c i2c f2c (by omega) (by omega)
  · skip
    refine mm_iconst C (mm_dec dk_X7_readProduct 4 rfl) ⟨by decide, by decide⟩ ?_
    exact mm_zret C T (mm_dec dk_X7_readProduct 5 rfl) (by decide : 0 ≤ 0) (by decide : 0 ≤ 0) (by omega) ⟨_, rfl, ⟨⟨by omega, by omega⟩, i2c, f2c, by omega⟩⟩
set_option maxRecDepth 100000 in
set_option maxHeartbeats 4000000 in
theorem c_X7_readSum_k3 (l : Launch) (hl : l.stackTraces = false) (d : Nat) (hd : 22 ≤ d) (h : mH) (i0 : mm_inv h) (p1 : Int) (bp1 : 3 ≤ p1 ∧ p1 ≤ 3) (t0 : (h.1 63 5 = 0 ∨ h.1 63 7 ≤ 499)) : mm_Met l d yX7_readSum cX7_readSum 4 (some .boolean) [mR 63, mI p1] h (mm_pi fun r h2 => (0 ≤ r ∧ r ≤ 1) ∧ mm_inv h2 ∧ mm_fr [(63, 4), (63, 5), (63, 6), (63, 7), (63, 8), (63, 9), (63, 10)] [64] h h2 ∧ (h2.1 63 5 = 0 ∨ h2.1 63 7 ≤ 499)) mm_nx 0 0 := by
  refine mm_ofW (ls := [mR 63, mI p1, mU, mU]) hl (by decide) rfl (Nat.le_of_ble_eq_true rfl) ?_
  intro x hxl C T hnm htb
  subst hxl
  have C1 := mm_OK_le (d' := d - 1 + 1) (by omega) C
  have C8 := mm_OK_le (d' := d - 8 + 8) (by omega) C
  refine mm_rng (fun hr _ => ?_)
  have ap1 : -2147483648 ≤ p1 ∧ p1 < 2147483648 := mm_ok_at hr (i := 1) rfl
  have f0 : mm_fr [(63, 4), (63, 5), (63, 6), (63, 7), (63, 8), (63, 9), (63, 10)] [64] h h := mm_fr_rf
  have g1 : -2147483648 ≤ h.1 63 5 ∧ h.1 63 5 ≤ 2147483647 := i0.1 63 5
  have g2 : 0 ≤ h.1 63 7 ∧ h.1 63 7 ≤ 500 := i0.1 63 7
  refine mm_aload_n C (mm_dec dk_X7_readSum 0 rfl) rfl ?_
  refine mm_iload_n C (mm_dec dk_X7_readSum 1 rfl) rfl ?_
  refine mm_cVi (rest := []) C1 ev_X7_116 (mm_dec dk_X7_readSum 2 rfl) (c_X7_readProduct_k3 x.2.1 hl (d - 1) (by omega) h i0 p1 ⟨by omega, by omega⟩ (by omega)) rfl rfl (Nat.le_of_ble_eq_true rfl) ⟨by decide, by decide⟩ rfl (fun r2 h2c hp2 => ?_) (fun _ _ q => q.elim)
  obtain ⟨b2, i2c, g2c, y2_0⟩ := hp2
  have f2c : mm_fr [(63, 4), (63, 5), (63, 6), (63, 7), (63, 8), (63, 9), (63, 10)] [64] h h2c := mm_fr_tr f0 g2c (by decide +kernel)
  have g4 : -2147483648 ≤ (h2c.1 63 5) ∧ (h2c.1 63 5) ≤ 2147483647 := i2c.1 63 5
  have g5 : 0 ≤ (h2c.1 63 7) ∧ (h2c.1 63 7) ≤ 500 := i2c.1 63 7
  refine mm_if_ne (tgt := 10) C (mm_dec dk_X7_readSum 3 rfl) (by decide) (fun c5 => ?_) (fun c5 => ?_)
  · skip
    refine mm_iconst C (mm_dec dk_X7_readSum 6 rfl) ⟨by decide, by decide⟩ ?_
    have J12 : ∀ (n : Nat) (x12_2 : Int) (bx12_2 : 0 ≤ x12_2 ∧ x12_2 ≤ 500) (h12_ : mH) (i12_ : mm_inv h12_) (f12_ : mm_fr [(63, 4), (63, 5), (63, 6), (63, 7), (63, 8), (63, 9), (63, 10)] [64] h h12_) (w12_0 : (h12_.1 63 5 = 0 ∨ h12_.1 63 7 ≤ 499)), (500 - x12_2 : Int) < n → mm_W x 0 0 12 [mR 63, mI p1, mI x12_2, mU] [] h12_ := by
      intro n
      induction n with
      | zero =>
        intro x12_2 bx12_2 h12_ i12_ f12_ w12_0 hm
        have g6 : -2147483648 ≤ h12_.1 63 5 ∧ h12_.1 63 5 ≤ 2147483647 := i12_.1 63 5
        have g7 : 0 ≤ h12_.1 63 7 ∧ h12_.1 63 7 ≤ 500 := i12_.1 63 7
        exfalso; omega
      | succ n ih12 =>
        intro x12_2 bx12_2 h12_ i12_ f12_ w12_0 hm12
        have g8 : -2147483648 ≤ h12_.1 63 5 ∧ h12_.1 63 5 ≤ 2147483647 := i12_.1 63 5
        have g9 : 0 ≤ h12_.1 63 7 ∧ h12_.1 63 7 ≤ 500 := i12_.1 63 7
        refine mm_iload_n C (mm_dec dk_X7_readSum 8 rfl) rfl ?_
        refine mm_sipush C (mm_dec dk_X7_readSum 9 rfl) ⟨by decide, by decide⟩ ?_
        have J79 : mm_W x 0 0 79 [mU, mU, mU, mU] [] h12_ := by
          have g10 : -2147483648 ≤ h12_.1 63 5 ∧ h12_.1 63 5 ≤ 2147483647 := i12_.1 63 5
          have g11 : 0 ≤ h12_.1 63 7 ∧ h12_.1 63 7 ≤ 500 := i12_.1 63 7
          refine mm_iconst C (mm_dec dk_X7_readSum 40 rfl) ⟨by decide, by decide⟩ ?_
          exact mm_zret C T (mm_dec dk_X7_readSum 41 rfl) (by decide : 0 ≤ 0) (by decide : 0 ≤ 0) (by omega) ⟨_, rfl, ⟨⟨by omega, by omega⟩, i12_, f12_, by omega⟩⟩
        refine mm_icmp_ge (tgt := 79) C (mm_dec dk_X7_readSum 10 rfl) (by decide) (fun c16 => ?_) (fun c16 => ?_)
        · skip
          refine mm_fgt 0 ?_
          refine mm_fgt 1 ?_
          refine mm_fgt 2 ?_
          exact J79
        · skip
          refine mm_aload_n C (mm_dec dk_X7_readSum 11 rfl) rfl ?_
          refine mm_bipush C (mm_dec dk_X7_readSum 12 rfl) ⟨by decide, by decide⟩ ?_
          refine mm_cVi (rest := []) C1 ev_X7_96 (mm_dec dk_X7_readSum 13 rfl) (c_X7_isSign x.2.1 hl (d - 1) (by omega) h12_ i12_ 43 (by omega)) rfl rfl (Nat.le_of_ble_eq_true rfl) ⟨by decide, by decide⟩ rfl (fun r22 h22c hp22 => ?_) (fun _ _ q => q.elim)
          obtain ⟨z22, y22⟩ := hp22
          rw [z22]
          have g13 : -2147483648 ≤ (h12_.2.1 62 (h12_.1 63 7)) ∧ (h12_.2.1 62 (h12_.1 63 7)) ≤ 2147483647 := i12_.2.1 62 (h12_.1 63 7)
          have J37 : mm_W x 0 0 37 [mR 63, mI p1, mI x12_2, mU] [] h12_ := by
            have g14 : -2147483648 ≤ h12_.1 63 5 ∧ h12_.1 63 5 ≤ 2147483647 := i12_.1 63 5
            have g15 : 0 ≤ h12_.1 63 7 ∧ h12_.1 63 7 ≤ 500 := i12_.1 63 7
            refine mm_aload_n C (mm_dec dk_X7_readSum 19 rfl) rfl ?_
            refine mm_bipush C (mm_dec dk_X7_readSum 20 rfl) ⟨by decide, by decide⟩ ?_
            refine mm_cVi (rest := []) C1 ev_X7_96 (mm_dec dk_X7_readSum 21 rfl) (c_X7_isSign x.2.1 hl (d - 1) (by omega) h12_ i12_ 43 (by omega)) rfl rfl (Nat.le_of_ble_eq_true rfl) ⟨by decide, by decide⟩ rfl (fun r40 h40c hp40 => ?_) (fun _ _ q => q.elim)
            obtain ⟨z40, y40⟩ := hp40
            rw [z40]
            have J53 : ∀ (s53_0 : Int) (bs53_0 : 100015 ≤ s53_0 ∧ s53_0 ≤ 100016) (vs53_0 : (r40 ≠ 0 ∧ s53_0 = 100015) ∨ (r40 = 0 ∧ s53_0 = 100016)), mm_W x 0 0 53 [mR 63, mI p1, mI x12_2, mU] [mI s53_0] h12_ := by
              intro s53_0 bs53_0 vs53_0
              have g17 : -2147483648 ≤ h12_.1 63 5 ∧ h12_.1 63 5 ≤ 2147483647 := i12_.1 63 5
              have g18 : 0 ≤ h12_.1 63 7 ∧ h12_.1 63 7 ≤ 500 := i12_.1 63 7
              refine mm_istore_nL (ls2 := [mR 63, mI p1, mI x12_2, mI s53_0]) C (mm_dec dk_X7_readSum 26 rfl) (by decide) rfl ?_
              refine mm_aload_n C (mm_dec dk_X7_readSum 27 rfl) rfl ?_
              refine mm_cVv (rest := []) C1 ev_X7_52 (mm_dec dk_X7_readSum 28 rfl) (c_X7_step x.2.1 hl (d - 1) (by omega) h12_ i12_ ) rfl rfl (Nat.le_of_ble_eq_true rfl) ⟨by decide, by decide⟩ rfl (fun h55c hp55 => ?_) (fun _ _ q => q.elim)
              obtain ⟨i55c, g55c, y55_0⟩ := hp55
              have f55c : mm_fr [(63, 4), (63, 5), (63, 6), (63, 7), (63, 8), (63, 9), (63, 10)] [64] h h55c := mm_fr_tr f12_ g55c (by decide +kernel)
              have g20 : -2147483648 ≤ (h55c.1 63 5) ∧ (h55c.1 63 5) ≤ 2147483647 := i55c.1 63 5
              have g21 : 0 ≤ (h55c.1 63 7) ∧ (h55c.1 63 7) ≤ 500 := i55c.1 63 7
              refine mm_aload_n C (mm_dec dk_X7_readSum 29 rfl) rfl ?_
              refine mm_iload_n C (mm_dec dk_X7_readSum 30 rfl) rfl ?_
              refine mm_cVi (rest := []) C1 ev_X7_116 (mm_dec dk_X7_readSum 31 rfl) (c_X7_readProduct_k3 x.2.1 hl (d - 1) (by omega) h55c i55c p1 ⟨by omega, by omega⟩ (by omega)) rfl rfl (Nat.le_of_ble_eq_true rfl) ⟨by decide, by decide⟩ rfl (fun r60 h60c hp60 => ?_) (fun _ _ q => q.elim)
              obtain ⟨b60, i60c, g60c, y60_0⟩ := hp60
              have f60c : mm_fr [(63, 4), (63, 5), (63, 6), (63, 7), (63, 8), (63, 9), (63, 10)] [64] h h60c := mm_fr_tr f55c g60c (by decide +kernel)
              have g23 : -2147483648 ≤ (h60c.1 63 5) ∧ (h60c.1 63 5) ≤ 2147483647 := i60c.1 63 5
              have g24 : 0 ≤ (h60c.1 63 7) ∧ (h60c.1 63 7) ≤ 500 := i60c.1 63 7
              refine mm_if_ne (tgt := 68) C (mm_dec dk_X7_readSum 32 rfl) (by decide) (fun c63 => ?_) (fun c63 => ?_)
              · skip
                refine mm_aload_n C (mm_dec dk_X7_readSum 35 rfl) rfl ?_
                refine mm_iload_n C (mm_dec dk_X7_readSum 36 rfl) rfl ?_
                refine mm_cVv (rest := []) C1 ev_X7_79 (mm_dec dk_X7_readSum 37 rfl) (c_X7_emit x.2.1 hl (d - 1) (by omega) h60c i60c s53_0) rfl rfl (Nat.le_of_ble_eq_true rfl) ⟨by decide, by decide⟩ rfl (fun h70c hp70 => ?_) (fun _ _ q => q.elim)
                obtain ⟨i70c, g70c⟩ := hp70
                have f70c : mm_fr [(63, 4), (63, 5), (63, 6), (63, 7), (63, 8), (63, 9), (63, 10)] [64] h h70c := mm_fr_tr f60c g70c (by decide +kernel)
                have q70c_26 : h70c.1 63 5 = h60c.1 63 5 := g70c.1 63 5 (by decide)
                have q70c_27 : h70c.1 63 7 = h60c.1 63 7 := g70c.1 63 7 (by decide)
                refine mm_iincL (ls2 := [mR 63, mI p1, mI (x12_2 + 1), mI s53_0]) C (mm_dec dk_X7_readSum 38 rfl) rfl (by decide) ⟨by omega, by omega⟩ rfl ?_
                refine mm_goto (tgt := 12) C (mm_dec dk_X7_readSum 39 rfl) (by decide) ?_
                refine mm_fgt 3 ?_
                exact ih12 (x12_2 + 1) ⟨by omega, by omega⟩ h70c i70c f70c (by omega) (by omega)
              · skip
                refine mm_iconst C (mm_dec dk_X7_readSum 33 rfl) ⟨by decide, by decide⟩ ?_
                exact mm_zret C T (mm_dec dk_X7_readSum 34 rfl) (by decide : 0 ≤ 0) (by decide : 0 ≤ 0) (by omega) ⟨_, rfl, ⟨⟨by omega, by omega⟩, i60c, f60c, by omega⟩⟩
            refine mm_if_eq (tgt := 51) C (mm_dec dk_X7_readSum 22 rfl) (by decide) (fun c43 => ?_) (fun c43 => ?_)
            · skip
              refine mm_ldc (z := 100016) C (mm_dec dk_X7_readSum 25 rfl) kc_X7_120 (by decide) ?_
              exact J53 100016 ⟨by omega, by omega⟩ (Or.inr (⟨by omega, rfl⟩))
            · skip
              refine mm_ldc (z := 100015) C (mm_dec dk_X7_readSum 23 rfl) kc_X7_119 (by decide) ?_
              refine mm_goto (tgt := 53) C (mm_dec dk_X7_readSum 24 rfl) (by decide) ?_
              exact J53 100015 ⟨by omega, by omega⟩ (Or.inl ⟨by omega, rfl⟩)
          refine mm_if_ne (tgt := 37) C (mm_dec dk_X7_readSum 14 rfl) (by decide) (fun c25 => ?_) (fun c25 => ?_)
          · skip
            exact J37
          · skip
            refine mm_aload_n C (mm_dec dk_X7_readSum 15 rfl) rfl ?_
            refine mm_bipush C (mm_dec dk_X7_readSum 16 rfl) ⟨by decide, by decide⟩ ?_
            refine mm_cVi (rest := []) C1 ev_X7_96 (mm_dec dk_X7_readSum 17 rfl) (c_X7_isSign x.2.1 hl (d - 1) (by omega) h12_ i12_ 45 (by omega)) rfl rfl (Nat.le_of_ble_eq_true rfl) ⟨by decide, by decide⟩ rfl (fun r31 h31c hp31 => ?_) (fun _ _ q => q.elim)
            obtain ⟨z31, y31⟩ := hp31
            rw [z31]
            refine mm_if_eq (tgt := 79) C (mm_dec dk_X7_readSum 18 rfl) (by decide) (fun c34 => ?_) (fun c34 => ?_)
            · skip
              refine mm_fgt 0 ?_
              refine mm_fgt 1 ?_
              refine mm_fgt 2 ?_
              exact J79
            · skip
              exact J37
    refine mm_istore_nL (ls2 := [mR 63, mI p1, mI 0, mU]) C (mm_dec dk_X7_readSum 7 rfl) (by decide) rfl ?_
    exact J12 (((500 - 0) : Int) + 1).toNat 0 ⟨by omega, by omega⟩ h2c i2c f2c (by omega) (by omega)
  · skip
    refine mm_iconst C (mm_dec dk_X7_readSum 4 rfl) ⟨by decide, by decide⟩ ?_
    exact mm_zret C T (mm_dec dk_X7_readSum 5 rfl) (by decide : 0 ≤ 0) (by decide : 0 ≤ 0) (by omega) ⟨_, rfl, ⟨⟨by omega, by omega⟩, i2c, f2c, by omega⟩⟩
set_option maxRecDepth 100000 in
set_option maxHeartbeats 4000000 in
theorem c_X7_readTest_k3 (l : Launch) (hl : l.stackTraces = false) (d : Nat) (hd : 23 ≤ d) (h : mH) (i0 : mm_inv h) (p1 : Int) (bp1 : 3 ≤ p1 ∧ p1 ≤ 3) (t0 : (h.1 63 5 = 0 ∨ h.1 63 7 ≤ 499)) : mm_Met l d yX7_readTest cX7_readTest 3 (some .boolean) [mR 63, mI p1] h (mm_pi fun r h2 => (0 ≤ r ∧ r ≤ 1) ∧ mm_inv h2 ∧ mm_fr [(63, 4), (63, 5), (63, 6), (63, 7), (63, 8), (63, 9), (63, 10)] [64] h h2 ∧ (h2.1 63 5 = 0 ∨ h2.1 63 7 ≤ 499)) mm_nx 0 0 := by
  refine mm_ofW (ls := [mR 63, mI p1, mU]) hl (by decide) rfl (Nat.le_of_ble_eq_true rfl) ?_
  intro x hxl C T hnm htb
  subst hxl
  have C1 := mm_OK_le (d' := d - 1 + 1) (by omega) C
  have C8 := mm_OK_le (d' := d - 8 + 8) (by omega) C
  refine mm_rng (fun hr _ => ?_)
  have ap1 : -2147483648 ≤ p1 ∧ p1 < 2147483648 := mm_ok_at hr (i := 1) rfl
  have f0 : mm_fr [(63, 4), (63, 5), (63, 6), (63, 7), (63, 8), (63, 9), (63, 10)] [64] h h := mm_fr_rf
  have g1 : -2147483648 ≤ h.1 63 5 ∧ h.1 63 5 ≤ 2147483647 := i0.1 63 5
  have g2 : 0 ≤ h.1 63 7 ∧ h.1 63 7 ≤ 500 := i0.1 63 7
  refine mm_aload_n C (mm_dec dk_X7_readTest 0 rfl) rfl ?_
  refine mm_iload_n C (mm_dec dk_X7_readTest 1 rfl) rfl ?_
  refine mm_cVi (rest := []) C1 ev_X7_111 (mm_dec dk_X7_readTest 2 rfl) (c_X7_readSum_k3 x.2.1 hl (d - 1) (by omega) h i0 p1 ⟨by omega, by omega⟩ (by omega)) rfl rfl (Nat.le_of_ble_eq_true rfl) ⟨by decide, by decide⟩ rfl (fun r2 h2c hp2 => ?_) (fun _ _ q => q.elim)
  obtain ⟨b2, i2c, g2c, y2_0⟩ := hp2
  have f2c : mm_fr [(63, 4), (63, 5), (63, 6), (63, 7), (63, 8), (63, 9), (63, 10)] [64] h h2c := mm_fr_tr f0 g2c (by decide +kernel)
  have g4 : -2147483648 ≤ (h2c.1 63 5) ∧ (h2c.1 63 5) ≤ 2147483647 := i2c.1 63 5
  have g5 : 0 ≤ (h2c.1 63 7) ∧ (h2c.1 63 7) ≤ 500 := i2c.1 63 7
  refine mm_if_ne (tgt := 10) C (mm_dec dk_X7_readTest 3 rfl) (by decide) (fun c5 => ?_) (fun c5 => ?_)
  · skip
    refine mm_aload_n C (mm_dec dk_X7_readTest 6 rfl) rfl ?_
    refine mm_bipush C (mm_dec dk_X7_readTest 7 rfl) ⟨by decide, by decide⟩ ?_
    refine mm_cVi (rest := []) C1 ev_X7_96 (mm_dec dk_X7_readTest 8 rfl) (c_X7_isSign x.2.1 hl (d - 1) (by omega) h2c i2c 60 (by omega)) rfl rfl (Nat.le_of_ble_eq_true rfl) ⟨by decide, by decide⟩ rfl (fun r13 h13c hp13 => ?_) (fun _ _ q => q.elim)
    obtain ⟨z13, y13⟩ := hp13
    rw [z13]
    have g7 : -2147483648 ≤ (h2c.2.1 62 (h2c.1 63 7)) ∧ (h2c.2.1 62 (h2c.1 63 7)) ≤ 2147483647 := i2c.2.1 62 (h2c.1 63 7)
    have J39 : ∀ (s39_0 : Int) (bs39_0 : -1 ≤ s39_0 ∧ s39_0 ≤ 100014) (vs39_0 : (r13 = 0 ∧ s39_0 = -1) ∨ (r13 ≠ 0 ∧ s39_0 = 100013) ∨ (r13 = 0 ∧ s39_0 = 100014)), mm_W x 0 0 39 [mR 63, mI p1, mU] [mI s39_0] h2c := by
      intro s39_0 bs39_0 vs39_0
      refine mm_istore_nL (ls2 := [mR 63, mI p1, mI s39_0]) C (mm_dec dk_X7_readTest 19 rfl) (by decide) rfl ?_
      refine mm_iload_n C (mm_dec dk_X7_readTest 20 rfl) rfl ?_
      refine mm_iconst C (mm_dec dk_X7_readTest 21 rfl) ⟨by decide, by decide⟩ ?_
      have J64 : ∀ (h64_ : mH) (i64_ : mm_inv h64_) (f64_ : mm_fr [(63, 4), (63, 5), (63, 6), (63, 7), (63, 8), (63, 9), (63, 10)] [64] h h64_) (w64_0 : (h64_.1 63 5 = 0 ∨ h64_.1 63 7 ≤ 499)), mm_W x 0 0 64 [mU, mU, mU] [] h64_ := by
        intro h64_ i64_ f64_ w64_0
        have g8 : -2147483648 ≤ h64_.1 63 5 ∧ h64_.1 63 5 ≤ 2147483647 := i64_.1 63 5
        have g9 : 0 ≤ h64_.1 63 7 ∧ h64_.1 63 7 ≤ 500 := i64_.1 63 7
        refine mm_iconst C (mm_dec dk_X7_readTest 34 rfl) ⟨by decide, by decide⟩ ?_
        exact mm_zret C T (mm_dec dk_X7_readTest 35 rfl) (by decide : 0 ≤ 0) (by decide : 0 ≤ 0) (by omega) ⟨_, rfl, ⟨⟨by omega, by omega⟩, i64_, f64_, by omega⟩⟩
      refine mm_icmp_eq (tgt := 64) C (mm_dec dk_X7_readTest 22 rfl) (by decide) (fun c42 => ?_) (fun c42 => ?_)
      · skip
        refine mm_fgt 0 ?_
        refine mm_fgt 1 ?_
        refine mm_fgt 2 ?_
        exact J64 h2c i2c f2c (by omega)
      · skip
        refine mm_aload_n C (mm_dec dk_X7_readTest 23 rfl) rfl ?_
        refine mm_cVv (rest := []) C1 ev_X7_52 (mm_dec dk_X7_readTest 24 rfl) (c_X7_step x.2.1 hl (d - 1) (by omega) h2c i2c ) rfl rfl (Nat.le_of_ble_eq_true rfl) ⟨by decide, by decide⟩ rfl (fun h46c hp46 => ?_) (fun _ _ q => q.elim)
        obtain ⟨i46c, g46c, y46_0⟩ := hp46
        have f46c : mm_fr [(63, 4), (63, 5), (63, 6), (63, 7), (63, 8), (63, 9), (63, 10)] [64] h h46c := mm_fr_tr f2c g46c (by decide +kernel)
        have g11 : -2147483648 ≤ (h46c.1 63 5) ∧ (h46c.1 63 5) ≤ 2147483647 := i46c.1 63 5
        have g12 : 0 ≤ (h46c.1 63 7) ∧ (h46c.1 63 7) ≤ 500 := i46c.1 63 7
        refine mm_aload_n C (mm_dec dk_X7_readTest 25 rfl) rfl ?_
        refine mm_iload_n C (mm_dec dk_X7_readTest 26 rfl) rfl ?_
        refine mm_cVi (rest := []) C1 ev_X7_111 (mm_dec dk_X7_readTest 27 rfl) (c_X7_readSum_k3 x.2.1 hl (d - 1) (by omega) h46c i46c p1 ⟨by omega, by omega⟩ (by omega)) rfl rfl (Nat.le_of_ble_eq_true rfl) ⟨by decide, by decide⟩ rfl (fun r51 h51c hp51 => ?_) (fun _ _ q => q.elim)
        obtain ⟨b51, i51c, g51c, y51_0⟩ := hp51
        have f51c : mm_fr [(63, 4), (63, 5), (63, 6), (63, 7), (63, 8), (63, 9), (63, 10)] [64] h h51c := mm_fr_tr f46c g51c (by decide +kernel)
        have g14 : -2147483648 ≤ (h51c.1 63 5) ∧ (h51c.1 63 5) ≤ 2147483647 := i51c.1 63 5
        have g15 : 0 ≤ (h51c.1 63 7) ∧ (h51c.1 63 7) ≤ 500 := i51c.1 63 7
        refine mm_if_ne (tgt := 59) C (mm_dec dk_X7_readTest 28 rfl) (by decide) (fun c54 => ?_) (fun c54 => ?_)
        · skip
          refine mm_aload_n C (mm_dec dk_X7_readTest 31 rfl) rfl ?_
          refine mm_iload_n C (mm_dec dk_X7_readTest 32 rfl) rfl ?_
          refine mm_cVv (rest := []) C1 ev_X7_79 (mm_dec dk_X7_readTest 33 rfl) (c_X7_emit x.2.1 hl (d - 1) (by omega) h51c i51c s39_0) rfl rfl (Nat.le_of_ble_eq_true rfl) ⟨by decide, by decide⟩ rfl (fun h61c hp61 => ?_) (fun _ _ q => q.elim)
          obtain ⟨i61c, g61c⟩ := hp61
          have f61c : mm_fr [(63, 4), (63, 5), (63, 6), (63, 7), (63, 8), (63, 9), (63, 10)] [64] h h61c := mm_fr_tr f51c g61c (by decide +kernel)
          have q61c_17 : h61c.1 63 5 = h51c.1 63 5 := g61c.1 63 5 (by decide)
          have q61c_18 : h61c.1 63 7 = h51c.1 63 7 := g61c.1 63 7 (by decide)
          refine mm_fgt 0 ?_
          refine mm_fgt 1 ?_
          refine mm_fgt 2 ?_
          exact J64 h61c i61c f61c (by omega)
        · skip
          refine mm_iconst C (mm_dec dk_X7_readTest 29 rfl) ⟨by decide, by decide⟩ ?_
          exact mm_zret C T (mm_dec dk_X7_readTest 30 rfl) (by decide : 0 ≤ 0) (by decide : 0 ≤ 0) (by omega) ⟨_, rfl, ⟨⟨by omega, by omega⟩, i51c, f51c, by omega⟩⟩
    refine mm_if_eq (tgt := 24) C (mm_dec dk_X7_readTest 9 rfl) (by decide) (fun c16 => ?_) (fun c16 => ?_)
    · skip
      refine mm_aload_n C (mm_dec dk_X7_readTest 12 rfl) rfl ?_
      refine mm_bipush C (mm_dec dk_X7_readTest 13 rfl) ⟨by decide, by decide⟩ ?_
      refine mm_cVi (rest := []) C1 ev_X7_96 (mm_dec dk_X7_readTest 14 rfl) (c_X7_isSign x.2.1 hl (d - 1) (by omega) h2c i2c 61 (by omega)) rfl rfl (Nat.le_of_ble_eq_true rfl) ⟨by decide, by decide⟩ rfl (fun r27 h27c hp27 => ?_) (fun _ _ q => q.elim)
      obtain ⟨z27, y27⟩ := hp27
      rw [z27]
      refine mm_if_eq (tgt := 38) C (mm_dec dk_X7_readTest 15 rfl) (by decide) (fun c30 => ?_) (fun c30 => ?_)
      · skip
        refine mm_iconst C (mm_dec dk_X7_readTest 18 rfl) ⟨by decide, by decide⟩ ?_
        exact J39 (-1) ⟨by omega, by omega⟩ (Or.inl ⟨by omega, rfl⟩)
      · skip
        refine mm_ldc (z := 100014) C (mm_dec dk_X7_readTest 16 rfl) kc_X7_115 (by decide) ?_
        refine mm_goto (tgt := 39) C (mm_dec dk_X7_readTest 17 rfl) (by decide) ?_
        exact J39 100014 ⟨by omega, by omega⟩ (Or.inr (Or.inr (⟨by omega, rfl⟩)))
    · skip
      refine mm_ldc (z := 100013) C (mm_dec dk_X7_readTest 10 rfl) kc_X7_114 (by decide) ?_
      refine mm_goto (tgt := 39) C (mm_dec dk_X7_readTest 11 rfl) (by decide) ?_
      exact J39 100013 ⟨by omega, by omega⟩ (Or.inr (Or.inl ⟨by omega, rfl⟩))
  · skip
    refine mm_iconst C (mm_dec dk_X7_readTest 4 rfl) ⟨by decide, by decide⟩ ?_
    exact mm_zret C T (mm_dec dk_X7_readTest 5 rfl) (by decide : 0 ≤ 0) (by decide : 0 ≤ 0) (by omega) ⟨_, rfl, ⟨⟨by omega, by omega⟩, i2c, f2c, by omega⟩⟩
set_option maxRecDepth 100000 in
set_option maxHeartbeats 4000000 in
theorem c_X7_readNot_k3 (l : Launch) (hl : l.stackTraces = false) (d : Nat) (hd : 24 ≤ d) (h : mH) (i0 : mm_inv h) (p1 : Int) (bp1 : 3 ≤ p1 ∧ p1 ≤ 3) (t0 : (h.1 63 5 = 0 ∨ h.1 63 7 ≤ 499)) : mm_Met l d yX7_readNot cX7_readNot 4 (some .boolean) [mR 63, mI p1] h (mm_pi fun r h2 => (0 ≤ r ∧ r ≤ 1) ∧ mm_inv h2 ∧ mm_fr [(63, 4), (63, 5), (63, 6), (63, 7), (63, 8), (63, 9), (63, 10)] [64] h h2 ∧ (h2.1 63 5 = 0 ∨ h2.1 63 7 ≤ 499)) mm_nx 0 0 := by
  refine mm_ofW (ls := [mR 63, mI p1, mU, mU]) hl (by decide) rfl (Nat.le_of_ble_eq_true rfl) ?_
  intro x hxl C T hnm htb
  subst hxl
  have C1 := mm_OK_le (d' := d - 1 + 1) (by omega) C
  have C8 := mm_OK_le (d' := d - 8 + 8) (by omega) C
  refine mm_rng (fun hr _ => ?_)
  have ap1 : -2147483648 ≤ p1 ∧ p1 < 2147483648 := mm_ok_at hr (i := 1) rfl
  have f0 : mm_fr [(63, 4), (63, 5), (63, 6), (63, 7), (63, 8), (63, 9), (63, 10)] [64] h h := mm_fr_rf
  have g1 : -2147483648 ≤ h.1 63 5 ∧ h.1 63 5 ≤ 2147483647 := i0.1 63 5
  have g2 : 0 ≤ h.1 63 7 ∧ h.1 63 7 ≤ 500 := i0.1 63 7
  refine mm_iconst C (mm_dec dk_X7_readNot 0 rfl) ⟨by decide, by decide⟩ ?_
  have J2 : ∀ (n : Nat) (x2_2 : Int) (bx2_2 : 0 ≤ x2_2 ∧ x2_2 ≤ 7) (h2_ : mH) (i2_ : mm_inv h2_) (f2_ : mm_fr [(63, 4), (63, 5), (63, 6), (63, 7), (63, 8), (63, 9), (63, 10)] [64] h h2_) (w2_0 : (h2_.1 63 5 = 0 ∨ h2_.1 63 7 ≤ 499)), (7 - x2_2 : Int) < n → mm_W x 0 0 2 [mR 63, mI p1, mI x2_2, mU] [] h2_ := by
    intro n
    induction n with
    | zero =>
      intro x2_2 bx2_2 h2_ i2_ f2_ w2_0 hm
      have g3 : -2147483648 ≤ h2_.1 63 5 ∧ h2_.1 63 5 ≤ 2147483647 := i2_.1 63 5
      have g4 : 0 ≤ h2_.1 63 7 ∧ h2_.1 63 7 ≤ 500 := i2_.1 63 7
      exfalso; omega
    | succ n ih2 =>
      intro x2_2 bx2_2 h2_ i2_ f2_ w2_0 hm2
      have g5 : -2147483648 ≤ h2_.1 63 5 ∧ h2_.1 63 5 ≤ 2147483647 := i2_.1 63 5
      have g6 : 0 ≤ h2_.1 63 7 ∧ h2_.1 63 7 ≤ 500 := i2_.1 63 7
      refine mm_iload_n C (mm_dec dk_X7_readNot 2 rfl) rfl ?_
      refine mm_bipush C (mm_dec dk_X7_readNot 3 rfl) ⟨by decide, by decide⟩ ?_
      have J27 : mm_W x 0 0 27 [mR 63, mI p1, mI x2_2, mU] [] h2_ := by
        have g7 : -2147483648 ≤ h2_.1 63 5 ∧ h2_.1 63 5 ≤ 2147483647 := i2_.1 63 5
        have g8 : 0 ≤ h2_.1 63 7 ∧ h2_.1 63 7 ≤ 500 := i2_.1 63 7
        refine mm_iload_n C (mm_dec dk_X7_readNot 13 rfl) rfl ?_
        refine mm_bipush C (mm_dec dk_X7_readNot 14 rfl) ⟨by decide, by decide⟩ ?_
        have J48 : mm_W x 0 0 48 [mR 63, mI p1, mI x2_2, mU] [] h2_ := by
          have g9 : -2147483648 ≤ h2_.1 63 5 ∧ h2_.1 63 5 ≤ 2147483647 := i2_.1 63 5
          have g10 : 0 ≤ h2_.1 63 7 ∧ h2_.1 63 7 ≤ 500 := i2_.1 63 7
          refine mm_aload_n C (mm_dec dk_X7_readNot 24 rfl) rfl ?_
          refine mm_iload_n C (mm_dec dk_X7_readNot 25 rfl) rfl ?_
          refine mm_cVi (rest := []) C1 ev_X7_107 (mm_dec dk_X7_readNot 26 rfl) (c_X7_readTest_k3 x.2.1 hl (d - 1) (by omega) h2_ i2_ p1 ⟨by omega, by omega⟩ (by omega)) rfl rfl (Nat.le_of_ble_eq_true rfl) ⟨by decide, by decide⟩ rfl (fun r50 h50c hp50 => ?_) (fun _ _ q => q.elim)
          obtain ⟨b50, i50c, g50c, y50_0⟩ := hp50
          have f50c : mm_fr [(63, 4), (63, 5), (63, 6), (63, 7), (63, 8), (63, 9), (63, 10)] [64] h h50c := mm_fr_tr f2_ g50c (by decide +kernel)
          have g12 : -2147483648 ≤ (h50c.1 63 5) ∧ (h50c.1 63 5) ≤ 2147483647 := i50c.1 63 5
          have g13 : 0 ≤ (h50c.1 63 7) ∧ (h50c.1 63 7) ≤ 500 := i50c.1 63 7
          refine mm_if_ne (tgt := 58) C (mm_dec dk_X7_readNot 27 rfl) (by decide) (fun c53 => ?_) (fun c53 => ?_)
          · skip
            refine mm_iconst C (mm_dec dk_X7_readNot 30 rfl) ⟨by decide, by decide⟩ ?_
            have J60 : ∀ (n : Nat) (x60_3 : Int) (bx60_3 : 0 ≤ x60_3 ∧ x60_3 ≤ 7) (h60_ : mH) (i60_ : mm_inv h60_) (f60_ : mm_fr [(63, 4), (63, 5), (63, 6), (63, 7), (63, 8), (63, 9), (63, 10)] [64] h h60_) (w60_0 : (h60_.1 63 5 = 0 ∨ h60_.1 63 7 ≤ 499)), (7 - x60_3 : Int) < n → mm_W x 0 0 60 [mR 63, mU, mI x2_2, mI x60_3] [] h60_ := by
              intro n
              induction n with
              | zero =>
                intro x60_3 bx60_3 h60_ i60_ f60_ w60_0 hm
                have g14 : -2147483648 ≤ h60_.1 63 5 ∧ h60_.1 63 5 ≤ 2147483647 := i60_.1 63 5
                have g15 : 0 ≤ h60_.1 63 7 ∧ h60_.1 63 7 ≤ 500 := i60_.1 63 7
                exfalso; omega
              | succ n ih60 =>
                intro x60_3 bx60_3 h60_ i60_ f60_ w60_0 hm60
                have g16 : -2147483648 ≤ h60_.1 63 5 ∧ h60_.1 63 5 ≤ 2147483647 := i60_.1 63 5
                have g17 : 0 ≤ h60_.1 63 7 ∧ h60_.1 63 7 ≤ 500 := i60_.1 63 7
                refine mm_iload_n C (mm_dec dk_X7_readNot 32 rfl) rfl ?_
                refine mm_iload_n C (mm_dec dk_X7_readNot 33 rfl) rfl ?_
                refine mm_icmp_ge (tgt := 77) C (mm_dec dk_X7_readNot 34 rfl) (by decide) (fun c62 => ?_) (fun c62 => ?_)
                · skip
                  refine mm_iconst C (mm_dec dk_X7_readNot 40 rfl) ⟨by decide, by decide⟩ ?_
                  exact mm_zret C T (mm_dec dk_X7_readNot 41 rfl) (by decide : 0 ≤ 0) (by decide : 0 ≤ 0) (by omega) ⟨_, rfl, ⟨⟨by omega, by omega⟩, i60_, f60_, by omega⟩⟩
                · skip
                  refine mm_aload_n C (mm_dec dk_X7_readNot 35 rfl) rfl ?_
                  refine mm_ldc (z := 100010) C (mm_dec dk_X7_readNot 36 rfl) kc_X7_110 (by decide) ?_
                  refine mm_cVv (rest := []) C1 ev_X7_79 (mm_dec dk_X7_readNot 37 rfl) (c_X7_emit x.2.1 hl (d - 1) (by omega) h60_ i60_ 100010) rfl rfl (Nat.le_of_ble_eq_true rfl) ⟨by decide, by decide⟩ rfl (fun h68c hp68 => ?_) (fun _ _ q => q.elim)
                  obtain ⟨i68c, g68c⟩ := hp68
                  have f68c : mm_fr [(63, 4), (63, 5), (63, 6), (63, 7), (63, 8), (63, 9), (63, 10)] [64] h h68c := mm_fr_tr f60_ g68c (by decide +kernel)
                  have q68c_19 : h68c.1 63 5 = h60_.1 63 5 := g68c.1 63 5 (by decide)
                  have q68c_20 : h68c.1 63 7 = h60_.1 63 7 := g68c.1 63 7 (by decide)
                  refine mm_iincL (ls2 := [mR 63, mU, mI x2_2, mI (x60_3 + 1)]) C (mm_dec dk_X7_readNot 38 rfl) rfl (by decide) ⟨by omega, by omega⟩ rfl ?_
                  refine mm_goto (tgt := 60) C (mm_dec dk_X7_readNot 39 rfl) (by decide) ?_
                  exact ih60 (x60_3 + 1) ⟨by omega, by omega⟩ h68c i68c f68c (by omega) (by omega)
            refine mm_istore_nL (ls2 := [mR 63, mI p1, mI x2_2, mI 0]) C (mm_dec dk_X7_readNot 31 rfl) (by decide) rfl ?_
            refine mm_fgt 1 ?_
            exact J60 (((7 - 0) : Int) + 1).toNat 0 ⟨by omega, by omega⟩ h50c i50c f50c (by omega) (by omega)
          · skip
            refine mm_iconst C (mm_dec dk_X7_readNot 28 rfl) ⟨by decide, by decide⟩ ?_
            exact mm_zret C T (mm_dec dk_X7_readNot 29 rfl) (by decide : 0 ≤ 0) (by decide : 0 ≤ 0) (by omega) ⟨_, rfl, ⟨⟨by omega, by omega⟩, i50c, f50c, by omega⟩⟩
        refine mm_icmp_ne (tgt := 48) C (mm_dec dk_X7_readNot 15 rfl) (by decide) (fun c30 => ?_) (fun c30 => ?_)
        · skip
          exact J48
        · skip
          refine mm_aload_n C (mm_dec dk_X7_readNot 16 rfl) rfl ?_
          refine mm_geti C fl_X7_28 (mm_dec dk_X7_readNot 17 rfl) rfl rfl (Or.inl rfl) ?_
          have g21 : -2147483648 ≤ (h2_.1 63 6) ∧ (h2_.1 63 6) ≤ 2147483647 := i2_.1 63 6
          refine mm_bipush C (mm_dec dk_X7_readNot 18 rfl) ⟨by decide, by decide⟩ ?_
          refine mm_icmp_ne (tgt := 48) C (mm_dec dk_X7_readNot 19 rfl) (by decide) (fun c39 => ?_) (fun c39 => ?_)
          · skip
            exact J48
          · skip
            refine mm_aload_n C (mm_dec dk_X7_readNot 20 rfl) rfl ?_
            refine mm_iconst C (mm_dec dk_X7_readNot 21 rfl) ⟨by decide, by decide⟩ ?_
            refine mm_cVi (rest := []) C1 ev_X7_65 (mm_dec dk_X7_readNot 22 rfl) (c_X7_refuse x.2.1 hl (d - 1) (by omega) h2_ i2_ 2) rfl rfl (Nat.le_of_ble_eq_true rfl) ⟨by decide, by decide⟩ rfl (fun r44 h44c hp44 => ?_) (fun _ _ q => q.elim)
            obtain ⟨b44, i44c, g44c⟩ := hp44
            have f44c : mm_fr [(63, 4), (63, 5), (63, 6), (63, 7), (63, 8), (63, 9), (63, 10)] [64] h h44c := mm_fr_tr f2_ g44c (by decide +kernel)
            have q44c_23 : h44c.1 63 5 = h2_.1 63 5 := g44c.1 63 5 (by decide)
            have q44c_24 : h44c.1 63 6 = h2_.1 63 6 := g44c.1 63 6 (by decide)
            have q44c_25 : h44c.1 63 7 = h2_.1 63 7 := g44c.1 63 7 (by decide)
            exact mm_zret C T (mm_dec dk_X7_readNot 23 rfl) (by decide : 0 ≤ 0) (by decide : 0 ≤ 0) (by omega) ⟨_, rfl, ⟨⟨by omega, by omega⟩, i44c, f44c, by omega⟩⟩
      refine mm_icmp_ge (tgt := 27) C (mm_dec dk_X7_readNot 4 rfl) (by decide) (fun c5 => ?_) (fun c5 => ?_)
      · skip
        exact J27
      · skip
        refine mm_aload_n C (mm_dec dk_X7_readNot 5 rfl) rfl ?_
        refine mm_geti C fl_X7_28 (mm_dec dk_X7_readNot 6 rfl) rfl rfl (Or.inl rfl) ?_
        have g26 : -2147483648 ≤ (h2_.1 63 6) ∧ (h2_.1 63 6) ≤ 2147483647 := i2_.1 63 6
        refine mm_bipush C (mm_dec dk_X7_readNot 7 rfl) ⟨by decide, by decide⟩ ?_
        refine mm_icmp_ne (tgt := 27) C (mm_dec dk_X7_readNot 8 rfl) (by decide) (fun c14 => ?_) (fun c14 => ?_)
        · skip
          exact J27
        · skip
          refine mm_iincL (ls2 := [mR 63, mI p1, mI (x2_2 + 1), mU]) C (mm_dec dk_X7_readNot 9 rfl) rfl (by decide) ⟨by omega, by omega⟩ rfl ?_
          refine mm_aload_n C (mm_dec dk_X7_readNot 10 rfl) rfl ?_
          refine mm_cVv (rest := []) C1 ev_X7_52 (mm_dec dk_X7_readNot 11 rfl) (c_X7_step x.2.1 hl (d - 1) (by omega) h2_ i2_ ) rfl rfl (Nat.le_of_ble_eq_true rfl) ⟨by decide, by decide⟩ rfl (fun h21c hp21 => ?_) (fun _ _ q => q.elim)
          obtain ⟨i21c, g21c, y21_0⟩ := hp21
          have f21c : mm_fr [(63, 4), (63, 5), (63, 6), (63, 7), (63, 8), (63, 9), (63, 10)] [64] h h21c := mm_fr_tr f2_ g21c (by decide +kernel)
          have g28 : -2147483648 ≤ (h21c.1 63 5) ∧ (h21c.1 63 5) ≤ 2147483647 := i21c.1 63 5
          have g29 : 0 ≤ (h21c.1 63 7) ∧ (h21c.1 63 7) ≤ 500 := i21c.1 63 7
          refine mm_goto (tgt := 2) C (mm_dec dk_X7_readNot 12 rfl) (by decide) ?_
          exact ih2 (x2_2 + 1) ⟨by omega, by omega⟩ h21c i21c f21c (by omega) (by omega)
  refine mm_istore_nL (ls2 := [mR 63, mI p1, mI 0, mU]) C (mm_dec dk_X7_readNot 1 rfl) (by decide) rfl ?_
  exact J2 (((7 - 0) : Int) + 1).toNat 0 ⟨by omega, by omega⟩ h i0 f0 (by omega) (by omega)
set_option maxRecDepth 100000 in
set_option maxHeartbeats 4000000 in
theorem c_X7_readAnd_k3 (l : Launch) (hl : l.stackTraces = false) (d : Nat) (hd : 25 ≤ d) (h : mH) (i0 : mm_inv h) (p1 : Int) (bp1 : 3 ≤ p1 ∧ p1 ≤ 3) (t0 : (h.1 63 5 = 0 ∨ h.1 63 7 ≤ 499)) : mm_Met l d yX7_readAnd cX7_readAnd 3 (some .boolean) [mR 63, mI p1] h (mm_pi fun r h2 => (0 ≤ r ∧ r ≤ 1) ∧ mm_inv h2 ∧ mm_fr [(63, 4), (63, 5), (63, 6), (63, 7), (63, 8), (63, 9), (63, 10)] [64] h h2 ∧ (h2.1 63 5 = 0 ∨ h2.1 63 7 ≤ 499)) mm_nx 0 0 := by
  refine mm_ofW (ls := [mR 63, mI p1, mU]) hl (by decide) rfl (Nat.le_of_ble_eq_true rfl) ?_
  intro x hxl C T hnm htb
  subst hxl
  have C1 := mm_OK_le (d' := d - 1 + 1) (by omega) C
  have C8 := mm_OK_le (d' := d - 8 + 8) (by omega) C
  refine mm_rng (fun hr _ => ?_)
  have ap1 : -2147483648 ≤ p1 ∧ p1 < 2147483648 := mm_ok_at hr (i := 1) rfl
  have f0 : mm_fr [(63, 4), (63, 5), (63, 6), (63, 7), (63, 8), (63, 9), (63, 10)] [64] h h := mm_fr_rf
  have g1 : -2147483648 ≤ h.1 63 5 ∧ h.1 63 5 ≤ 2147483647 := i0.1 63 5
  have g2 : 0 ≤ h.1 63 7 ∧ h.1 63 7 ≤ 500 := i0.1 63 7
  refine mm_aload_n C (mm_dec dk_X7_readAnd 0 rfl) rfl ?_
  refine mm_iload_n C (mm_dec dk_X7_readAnd 1 rfl) rfl ?_
  refine mm_cVi (rest := []) C1 ev_X7_103 (mm_dec dk_X7_readAnd 2 rfl) (c_X7_readNot_k3 x.2.1 hl (d - 1) (by omega) h i0 p1 ⟨by omega, by omega⟩ (by omega)) rfl rfl (Nat.le_of_ble_eq_true rfl) ⟨by decide, by decide⟩ rfl (fun r2 h2c hp2 => ?_) (fun _ _ q => q.elim)
  obtain ⟨b2, i2c, g2c, y2_0⟩ := hp2
  have f2c : mm_fr [(63, 4), (63, 5), (63, 6), (63, 7), (63, 8), (63, 9), (63, 10)] [64] h h2c := mm_fr_tr f0 g2c (by decide +kernel)
  have g4 : -2147483648 ≤ (h2c.1 63 5) ∧ (h2c.1 63 5) ≤ 2147483647 := i2c.1 63 5
  have g5 : 0 ≤ (h2c.1 63 7) ∧ (h2c.1 63 7) ≤ 500 := i2c.1 63 7
  refine mm_if_ne (tgt := 10) C (mm_dec dk_X7_readAnd 3 rfl) (by decide) (fun c5 => ?_) (fun c5 => ?_)
  · skip
    refine mm_iconst C (mm_dec dk_X7_readAnd 6 rfl) ⟨by decide, by decide⟩ ?_
    have J12 : ∀ (n : Nat) (x12_2 : Int) (bx12_2 : 0 ≤ x12_2 ∧ x12_2 ≤ 500) (h12_ : mH) (i12_ : mm_inv h12_) (f12_ : mm_fr [(63, 4), (63, 5), (63, 6), (63, 7), (63, 8), (63, 9), (63, 10)] [64] h h12_) (w12_0 : (h12_.1 63 5 = 0 ∨ h12_.1 63 7 ≤ 499)), (500 - x12_2 : Int) < n → mm_W x 0 0 12 [mR 63, mI p1, mI x12_2] [] h12_ := by
      intro n
      induction n with
      | zero =>
        intro x12_2 bx12_2 h12_ i12_ f12_ w12_0 hm
        have g6 : -2147483648 ≤ h12_.1 63 5 ∧ h12_.1 63 5 ≤ 2147483647 := i12_.1 63 5
        have g7 : 0 ≤ h12_.1 63 7 ∧ h12_.1 63 7 ≤ 500 := i12_.1 63 7
        exfalso; omega
      | succ n ih12 =>
        intro x12_2 bx12_2 h12_ i12_ f12_ w12_0 hm12
        have g8 : -2147483648 ≤ h12_.1 63 5 ∧ h12_.1 63 5 ≤ 2147483647 := i12_.1 63 5
        have g9 : 0 ≤ h12_.1 63 7 ∧ h12_.1 63 7 ≤ 500 := i12_.1 63 7
        refine mm_iload_n C (mm_dec dk_X7_readAnd 8 rfl) rfl ?_
        refine mm_sipush C (mm_dec dk_X7_readAnd 9 rfl) ⟨by decide, by decide⟩ ?_
        have J53 : mm_W x 0 0 53 [mU, mU, mU] [] h12_ := by
          have g10 : -2147483648 ≤ h12_.1 63 5 ∧ h12_.1 63 5 ≤ 2147483647 := i12_.1 63 5
          have g11 : 0 ≤ h12_.1 63 7 ∧ h12_.1 63 7 ≤ 500 := i12_.1 63 7
          refine mm_iconst C (mm_dec dk_X7_readAnd 28 rfl) ⟨by decide, by decide⟩ ?_
          exact mm_zret C T (mm_dec dk_X7_readAnd 29 rfl) (by decide : 0 ≤ 0) (by decide : 0 ≤ 0) (by omega) ⟨_, rfl, ⟨⟨by omega, by omega⟩, i12_, f12_, by omega⟩⟩
        refine mm_icmp_ge (tgt := 53) C (mm_dec dk_X7_readAnd 10 rfl) (by decide) (fun c16 => ?_) (fun c16 => ?_)
        · skip
          refine mm_fgt 0 ?_
          refine mm_fgt 1 ?_
          refine mm_fgt 2 ?_
          exact J53
        · skip
          refine mm_aload_n C (mm_dec dk_X7_readAnd 11 rfl) rfl ?_
          refine mm_geti C fl_X7_28 (mm_dec dk_X7_readAnd 12 rfl) rfl rfl (Or.inl rfl) ?_
          have g12 : -2147483648 ≤ (h12_.1 63 6) ∧ (h12_.1 63 6) ≤ 2147483647 := i12_.1 63 6
          refine mm_iconst C (mm_dec dk_X7_readAnd 13 rfl) ⟨by decide, by decide⟩ ?_
          refine mm_icmp_ne (tgt := 53) C (mm_dec dk_X7_readAnd 14 rfl) (by decide) (fun c24 => ?_) (fun c24 => ?_)
          · skip
            refine mm_fgt 0 ?_
            refine mm_fgt 1 ?_
            refine mm_fgt 2 ?_
            exact J53
          · skip
            refine mm_aload_n C (mm_dec dk_X7_readAnd 15 rfl) rfl ?_
            refine mm_cVv (rest := []) C1 ev_X7_52 (mm_dec dk_X7_readAnd 16 rfl) (c_X7_step x.2.1 hl (d - 1) (by omega) h12_ i12_ ) rfl rfl (Nat.le_of_ble_eq_true rfl) ⟨by decide, by decide⟩ rfl (fun h28c hp28 => ?_) (fun _ _ q => q.elim)
            obtain ⟨i28c, g28c, y28_0⟩ := hp28
            have f28c : mm_fr [(63, 4), (63, 5), (63, 6), (63, 7), (63, 8), (63, 9), (63, 10)] [64] h h28c := mm_fr_tr f12_ g28c (by decide +kernel)
            have g14 : -2147483648 ≤ (h28c.1 63 5) ∧ (h28c.1 63 5) ≤ 2147483647 := i28c.1 63 5
            have g15 : 0 ≤ (h28c.1 63 7) ∧ (h28c.1 63 7) ≤ 500 := i28c.1 63 7
            refine mm_aload_n C (mm_dec dk_X7_readAnd 17 rfl) rfl ?_
            refine mm_iload_n C (mm_dec dk_X7_readAnd 18 rfl) rfl ?_
            refine mm_cVi (rest := []) C1 ev_X7_103 (mm_dec dk_X7_readAnd 19 rfl) (c_X7_readNot_k3 x.2.1 hl (d - 1) (by omega) h28c i28c p1 ⟨by omega, by omega⟩ (by omega)) rfl rfl (Nat.le_of_ble_eq_true rfl) ⟨by decide, by decide⟩ rfl (fun r33 h33c hp33 => ?_) (fun _ _ q => q.elim)
            obtain ⟨b33, i33c, g33c, y33_0⟩ := hp33
            have f33c : mm_fr [(63, 4), (63, 5), (63, 6), (63, 7), (63, 8), (63, 9), (63, 10)] [64] h h33c := mm_fr_tr f28c g33c (by decide +kernel)
            have g17 : -2147483648 ≤ (h33c.1 63 5) ∧ (h33c.1 63 5) ≤ 2147483647 := i33c.1 63 5
            have g18 : 0 ≤ (h33c.1 63 7) ∧ (h33c.1 63 7) ≤ 500 := i33c.1 63 7
            refine mm_if_ne (tgt := 41) C (mm_dec dk_X7_readAnd 20 rfl) (by decide) (fun c36 => ?_) (fun c36 => ?_)
            · skip
              refine mm_aload_n C (mm_dec dk_X7_readAnd 23 rfl) rfl ?_
              refine mm_ldc (z := 100012) C (mm_dec dk_X7_readAnd 24 rfl) kc_X7_106 (by decide) ?_
              refine mm_cVv (rest := []) C1 ev_X7_79 (mm_dec dk_X7_readAnd 25 rfl) (c_X7_emit x.2.1 hl (d - 1) (by omega) h33c i33c 100012) rfl rfl (Nat.le_of_ble_eq_true rfl) ⟨by decide, by decide⟩ rfl (fun h44c hp44 => ?_) (fun _ _ q => q.elim)
              obtain ⟨i44c, g44c⟩ := hp44
              have f44c : mm_fr [(63, 4), (63, 5), (63, 6), (63, 7), (63, 8), (63, 9), (63, 10)] [64] h h44c := mm_fr_tr f33c g44c (by decide +kernel)
              have q44c_20 : h44c.1 63 5 = h33c.1 63 5 := g44c.1 63 5 (by decide)
              have q44c_21 : h44c.1 63 7 = h33c.1 63 7 := g44c.1 63 7 (by decide)
              refine mm_iincL (ls2 := [mR 63, mI p1, mI (x12_2 + 1)]) C (mm_dec dk_X7_readAnd 26 rfl) rfl (by decide) ⟨by omega, by omega⟩ rfl ?_
              refine mm_goto (tgt := 12) C (mm_dec dk_X7_readAnd 27 rfl) (by decide) ?_
              exact ih12 (x12_2 + 1) ⟨by omega, by omega⟩ h44c i44c f44c (by omega) (by omega)
            · skip
              refine mm_iconst C (mm_dec dk_X7_readAnd 21 rfl) ⟨by decide, by decide⟩ ?_
              exact mm_zret C T (mm_dec dk_X7_readAnd 22 rfl) (by decide : 0 ≤ 0) (by decide : 0 ≤ 0) (by omega) ⟨_, rfl, ⟨⟨by omega, by omega⟩, i33c, f33c, by omega⟩⟩
    refine mm_istore_nL (ls2 := [mR 63, mI p1, mI 0]) C (mm_dec dk_X7_readAnd 7 rfl) (by decide) rfl ?_
    exact J12 (((500 - 0) : Int) + 1).toNat 0 ⟨by omega, by omega⟩ h2c i2c f2c (by omega) (by omega)
  · skip
    refine mm_iconst C (mm_dec dk_X7_readAnd 4 rfl) ⟨by decide, by decide⟩ ?_
    exact mm_zret C T (mm_dec dk_X7_readAnd 5 rfl) (by decide : 0 ≤ 0) (by decide : 0 ≤ 0) (by omega) ⟨_, rfl, ⟨⟨by omega, by omega⟩, i2c, f2c, by omega⟩⟩
set_option maxRecDepth 100000 in
set_option maxHeartbeats 4000000 in
theorem c_X7_readOr_k3 (l : Launch) (hl : l.stackTraces = false) (d : Nat) (hd : 26 ≤ d) (h : mH) (i0 : mm_inv h) (p1 : Int) (bp1 : 3 ≤ p1 ∧ p1 ≤ 3) (t0 : (h.1 63 5 = 0 ∨ h.1 63 7 ≤ 499)) : mm_Met l d yX7_readOr cX7_readOr 3 (some .boolean) [mR 63, mI p1] h (mm_pi fun r h2 => (0 ≤ r ∧ r ≤ 1) ∧ mm_inv h2 ∧ mm_fr [(63, 4), (63, 5), (63, 6), (63, 7), (63, 8), (63, 9), (63, 10)] [64] h h2 ∧ (h2.1 63 5 = 0 ∨ h2.1 63 7 ≤ 499)) mm_nx 0 0 := by
  refine mm_ofW (ls := [mR 63, mI p1, mU]) hl (by decide) rfl (Nat.le_of_ble_eq_true rfl) ?_
  intro x hxl C T hnm htb
  subst hxl
  have C1 := mm_OK_le (d' := d - 1 + 1) (by omega) C
  have C8 := mm_OK_le (d' := d - 8 + 8) (by omega) C
  refine mm_rng (fun hr _ => ?_)
  have ap1 : -2147483648 ≤ p1 ∧ p1 < 2147483648 := mm_ok_at hr (i := 1) rfl
  have f0 : mm_fr [(63, 4), (63, 5), (63, 6), (63, 7), (63, 8), (63, 9), (63, 10)] [64] h h := mm_fr_rf
  have g1 : -2147483648 ≤ h.1 63 5 ∧ h.1 63 5 ≤ 2147483647 := i0.1 63 5
  have g2 : 0 ≤ h.1 63 7 ∧ h.1 63 7 ≤ 500 := i0.1 63 7
  refine mm_iload_n C (mm_dec dk_X7_readOr 0 rfl) rfl ?_
  refine mm_bipush C (mm_dec dk_X7_readOr 1 rfl) ⟨by decide, by decide⟩ ?_
  refine mm_icmp_lt (tgt := 41) C (mm_dec dk_X7_readOr 2 rfl) (by decide) (fun c3 => ?_) (fun c3 => ?_)
  · skip
    refine mm_aload_n C (mm_dec dk_X7_readOr 21 rfl) rfl ?_
    refine mm_iload_n C (mm_dec dk_X7_readOr 22 rfl) rfl ?_
    refine mm_cVi (rest := []) C1 ev_X7_99 (mm_dec dk_X7_readOr 23 rfl) (c_X7_readAnd_k3 x.2.1 hl (d - 1) (by omega) h i0 p1 ⟨by omega, by omega⟩ (by omega)) rfl rfl (Nat.le_of_ble_eq_true rfl) ⟨by decide, by decide⟩ rfl (fun r43 h43c hp43 => ?_) (fun _ _ q => q.elim)
    obtain ⟨b43, i43c, g43c, y43_0⟩ := hp43
    have f43c : mm_fr [(63, 4), (63, 5), (63, 6), (63, 7), (63, 8), (63, 9), (63, 10)] [64] h h43c := mm_fr_tr f0 g43c (by decide +kernel)
    have g4 : -2147483648 ≤ (h43c.1 63 5) ∧ (h43c.1 63 5) ≤ 2147483647 := i43c.1 63 5
    have g5 : 0 ≤ (h43c.1 63 7) ∧ (h43c.1 63 7) ≤ 500 := i43c.1 63 7
    refine mm_if_ne (tgt := 51) C (mm_dec dk_X7_readOr 24 rfl) (by decide) (fun c46 => ?_) (fun c46 => ?_)
    · skip
      refine mm_iconst C (mm_dec dk_X7_readOr 27 rfl) ⟨by decide, by decide⟩ ?_
      have J53 : ∀ (n : Nat) (x53_2 : Int) (bx53_2 : 0 ≤ x53_2 ∧ x53_2 ≤ 500) (h53_ : mH) (i53_ : mm_inv h53_) (f53_ : mm_fr [(63, 4), (63, 5), (63, 6), (63, 7), (63, 8), (63, 9), (63, 10)] [64] h h53_) (w53_0 : (h53_.1 63 5 = 0 ∨ h53_.1 63 7 ≤ 499)), (500 - x53_2 : Int) < n → mm_W x 0 0 53 [mR 63, mI p1, mI x53_2] [] h53_ := by
        intro n
        induction n with
        | zero =>
          intro x53_2 bx53_2 h53_ i53_ f53_ w53_0 hm
          have g6 : -2147483648 ≤ h53_.1 63 5 ∧ h53_.1 63 5 ≤ 2147483647 := i53_.1 63 5
          have g7 : 0 ≤ h53_.1 63 7 ∧ h53_.1 63 7 ≤ 500 := i53_.1 63 7
          exfalso; omega
        | succ n ih53 =>
          intro x53_2 bx53_2 h53_ i53_ f53_ w53_0 hm53
          have g8 : -2147483648 ≤ h53_.1 63 5 ∧ h53_.1 63 5 ≤ 2147483647 := i53_.1 63 5
          have g9 : 0 ≤ h53_.1 63 7 ∧ h53_.1 63 7 ≤ 500 := i53_.1 63 7
          refine mm_iload_n C (mm_dec dk_X7_readOr 29 rfl) rfl ?_
          refine mm_sipush C (mm_dec dk_X7_readOr 30 rfl) ⟨by decide, by decide⟩ ?_
          have J94 : mm_W x 0 0 94 [mU, mU, mU] [] h53_ := by
            have g10 : -2147483648 ≤ h53_.1 63 5 ∧ h53_.1 63 5 ≤ 2147483647 := i53_.1 63 5
            have g11 : 0 ≤ h53_.1 63 7 ∧ h53_.1 63 7 ≤ 500 := i53_.1 63 7
            refine mm_iconst C (mm_dec dk_X7_readOr 49 rfl) ⟨by decide, by decide⟩ ?_
            exact mm_zret C T (mm_dec dk_X7_readOr 50 rfl) (by decide : 0 ≤ 0) (by decide : 0 ≤ 0) (by omega) ⟨_, rfl, ⟨⟨by omega, by omega⟩, i53_, f53_, by omega⟩⟩
          refine mm_icmp_ge (tgt := 94) C (mm_dec dk_X7_readOr 31 rfl) (by decide) (fun c57 => ?_) (fun c57 => ?_)
          · skip
            refine mm_fgt 0 ?_
            refine mm_fgt 1 ?_
            refine mm_fgt 2 ?_
            exact J94
          · skip
            refine mm_aload_n C (mm_dec dk_X7_readOr 32 rfl) rfl ?_
            refine mm_geti C fl_X7_28 (mm_dec dk_X7_readOr 33 rfl) rfl rfl (Or.inl rfl) ?_
            have g12 : -2147483648 ≤ (h53_.1 63 6) ∧ (h53_.1 63 6) ≤ 2147483647 := i53_.1 63 6
            refine mm_iconst C (mm_dec dk_X7_readOr 34 rfl) ⟨by decide, by decide⟩ ?_
            refine mm_icmp_ne (tgt := 94) C (mm_dec dk_X7_readOr 35 rfl) (by decide) (fun c65 => ?_) (fun c65 => ?_)
            · skip
              refine mm_fgt 0 ?_
              refine mm_fgt 1 ?_
              refine mm_fgt 2 ?_
              exact J94
            · skip
              refine mm_aload_n C (mm_dec dk_X7_readOr 36 rfl) rfl ?_
              refine mm_cVv (rest := []) C1 ev_X7_52 (mm_dec dk_X7_readOr 37 rfl) (c_X7_step x.2.1 hl (d - 1) (by omega) h53_ i53_ ) rfl rfl (Nat.le_of_ble_eq_true rfl) ⟨by decide, by decide⟩ rfl (fun h69c hp69 => ?_) (fun _ _ q => q.elim)
              obtain ⟨i69c, g69c, y69_0⟩ := hp69
              have f69c : mm_fr [(63, 4), (63, 5), (63, 6), (63, 7), (63, 8), (63, 9), (63, 10)] [64] h h69c := mm_fr_tr f53_ g69c (by decide +kernel)
              have g14 : -2147483648 ≤ (h69c.1 63 5) ∧ (h69c.1 63 5) ≤ 2147483647 := i69c.1 63 5
              have g15 : 0 ≤ (h69c.1 63 7) ∧ (h69c.1 63 7) ≤ 500 := i69c.1 63 7
              refine mm_aload_n C (mm_dec dk_X7_readOr 38 rfl) rfl ?_
              refine mm_iload_n C (mm_dec dk_X7_readOr 39 rfl) rfl ?_
              refine mm_cVi (rest := []) C1 ev_X7_99 (mm_dec dk_X7_readOr 40 rfl) (c_X7_readAnd_k3 x.2.1 hl (d - 1) (by omega) h69c i69c p1 ⟨by omega, by omega⟩ (by omega)) rfl rfl (Nat.le_of_ble_eq_true rfl) ⟨by decide, by decide⟩ rfl (fun r74 h74c hp74 => ?_) (fun _ _ q => q.elim)
              obtain ⟨b74, i74c, g74c, y74_0⟩ := hp74
              have f74c : mm_fr [(63, 4), (63, 5), (63, 6), (63, 7), (63, 8), (63, 9), (63, 10)] [64] h h74c := mm_fr_tr f69c g74c (by decide +kernel)
              have g17 : -2147483648 ≤ (h74c.1 63 5) ∧ (h74c.1 63 5) ≤ 2147483647 := i74c.1 63 5
              have g18 : 0 ≤ (h74c.1 63 7) ∧ (h74c.1 63 7) ≤ 500 := i74c.1 63 7
              refine mm_if_ne (tgt := 82) C (mm_dec dk_X7_readOr 41 rfl) (by decide) (fun c77 => ?_) (fun c77 => ?_)
              · skip
                refine mm_aload_n C (mm_dec dk_X7_readOr 44 rfl) rfl ?_
                refine mm_ldc (z := 100011) C (mm_dec dk_X7_readOr 45 rfl) kc_X7_102 (by decide) ?_
                refine mm_cVv (rest := []) C1 ev_X7_79 (mm_dec dk_X7_readOr 46 rfl) (c_X7_emit x.2.1 hl (d - 1) (by omega) h74c i74c 100011) rfl rfl (Nat.le_of_ble_eq_true rfl) ⟨by decide, by decide⟩ rfl (fun h85c hp85 => ?_) (fun _ _ q => q.elim)
                obtain ⟨i85c, g85c⟩ := hp85
                have f85c : mm_fr [(63, 4), (63, 5), (63, 6), (63, 7), (63, 8), (63, 9), (63, 10)] [64] h h85c := mm_fr_tr f74c g85c (by decide +kernel)
                have q85c_20 : h85c.1 63 5 = h74c.1 63 5 := g85c.1 63 5 (by decide)
                have q85c_21 : h85c.1 63 7 = h74c.1 63 7 := g85c.1 63 7 (by decide)
                refine mm_iincL (ls2 := [mR 63, mI p1, mI (x53_2 + 1)]) C (mm_dec dk_X7_readOr 47 rfl) rfl (by decide) ⟨by omega, by omega⟩ rfl ?_
                refine mm_goto (tgt := 53) C (mm_dec dk_X7_readOr 48 rfl) (by decide) ?_
                exact ih53 (x53_2 + 1) ⟨by omega, by omega⟩ h85c i85c f85c (by omega) (by omega)
              · skip
                refine mm_iconst C (mm_dec dk_X7_readOr 42 rfl) ⟨by decide, by decide⟩ ?_
                exact mm_zret C T (mm_dec dk_X7_readOr 43 rfl) (by decide : 0 ≤ 0) (by decide : 0 ≤ 0) (by omega) ⟨_, rfl, ⟨⟨by omega, by omega⟩, i74c, f74c, by omega⟩⟩
      refine mm_istore_nL (ls2 := [mR 63, mI p1, mI 0]) C (mm_dec dk_X7_readOr 28 rfl) (by decide) rfl ?_
      exact J53 (((500 - 0) : Int) + 1).toNat 0 ⟨by omega, by omega⟩ h43c i43c f43c (by omega) (by omega)
    · skip
      refine mm_iconst C (mm_dec dk_X7_readOr 25 rfl) ⟨by decide, by decide⟩ ?_
      exact mm_zret C T (mm_dec dk_X7_readOr 26 rfl) (by decide : 0 ≤ 0) (by decide : 0 ≤ 0) (by omega) ⟨_, rfl, ⟨⟨by omega, by omega⟩, i43c, f43c, by omega⟩⟩
  · skip
    exfalso; omega
set_option maxRecDepth 100000 in
set_option maxHeartbeats 4000000 in
theorem c_X7_readPart_k2 (l : Launch) (hl : l.stackTraces = false) (d : Nat) (hd : 27 ≤ d) (h : mH) (i0 : mm_inv h) (p1 : Int) (bp1 : 2 ≤ p1 ∧ p1 ≤ 2) (t0 : (h.1 63 5 = 0 ∨ h.1 63 7 ≤ 499)) : mm_Met l d yX7_readPart cX7_readPart 2 (some .boolean) [mR 63, mI p1] h (mm_pi fun r h2 => (0 ≤ r ∧ r ≤ 1) ∧ mm_inv h2 ∧ mm_fr [(63, 4), (63, 5), (63, 6), (63, 7), (63, 8), (63, 9), (63, 10)] [64] h h2 ∧ (h2.1 63 5 = 0 ∨ h2.1 63 7 ≤ 499)) mm_nx 0 0 := by
  refine mm_ofW (ls := [mR 63, mI p1]) hl (by decide) rfl (Nat.le_of_ble_eq_true rfl) ?_
  intro x hxl C T hnm htb
  subst hxl
  have C1 := mm_OK_le (d' := d - 1 + 1) (by omega) C
  have C8 := mm_OK_le (d' := d - 8 + 8) (by omega) C
  refine mm_rng (fun hr _ => ?_)
  have ap1 : -2147483648 ≤ p1 ∧ p1 < 2147483648 := mm_ok_at hr (i := 1) rfl
  have f0 : mm_fr [(63, 4), (63, 5), (63, 6), (63, 7), (63, 8), (63, 9), (63, 10)] [64] h h := mm_fr_rf
  have g1 : -2147483648 ≤ h.1 63 5 ∧ h.1 63 5 ≤ 2147483647 := i0.1 63 5
  have g2 : 0 ≤ h.1 63 7 ∧ h.1 63 7 ≤ 500 := i0.1 63 7
  refine mm_aload_n C (mm_dec dk_X7_readPart 0 rfl) rfl ?_
  refine mm_bipush C (mm_dec dk_X7_readPart 1 rfl) ⟨by decide, by decide⟩ ?_
  refine mm_cVi (rest := []) C1 ev_X7_96 (mm_dec dk_X7_readPart 2 rfl) (c_X7_isSign x.2.1 hl (d - 1) (by omega) h i0 40 (by omega)) rfl rfl (Nat.le_of_ble_eq_true rfl) ⟨by decide, by decide⟩ rfl (fun r3 h3c hp3 => ?_) (fun _ _ q => q.elim)
  obtain ⟨z3, y3⟩ := hp3
  rw [z3]
  have g4 : -2147483648 ≤ (h.2.1 62 (h.1 63 7)) ∧ (h.2.1 62 (h.1 63 7)) ≤ 2147483647 := i0.2.1 62 (h.1 63 7)
  refine mm_if_eq (tgt := 38) C (mm_dec dk_X7_readPart 3 rfl) (by decide) (fun c6 => ?_) (fun c6 => ?_)
  · skip
    refine mm_aload_n C (mm_dec dk_X7_readPart 20 rfl) rfl ?_
    refine mm_geti C fl_X7_25 (mm_dec dk_X7_readPart 21 rfl) rfl rfl (Or.inl rfl) ?_
    refine mm_iconst C (mm_dec dk_X7_readPart 22 rfl) ⟨by decide, by decide⟩ ?_
    have J117 : ∀ (h117_ : mH) (i117_ : mm_inv h117_) (f117_ : mm_fr [(63, 4), (63, 5), (63, 6), (63, 7), (63, 8), (63, 9), (63, 10)] [64] h h117_) (w117_0 : (h117_.1 63 5 = 0 ∨ h117_.1 63 7 ≤ 499)), mm_W x 0 0 117 [mR 63, mU] [] h117_ := by
      intro h117_ i117_ f117_ w117_0
      have g5 : -2147483648 ≤ h117_.1 63 5 ∧ h117_.1 63 5 ≤ 2147483647 := i117_.1 63 5
      have g6 : 0 ≤ h117_.1 63 7 ∧ h117_.1 63 7 ≤ 500 := i117_.1 63 7
      refine mm_aload_n C (mm_dec dk_X7_readPart 61 rfl) rfl ?_
      refine mm_cVv (rest := []) C1 ev_X7_52 (mm_dec dk_X7_readPart 62 rfl) (c_X7_step x.2.1 hl (d - 1) (by omega) h117_ i117_ ) rfl rfl (Nat.le_of_ble_eq_true rfl) ⟨by decide, by decide⟩ rfl (fun h118c hp118 => ?_) (fun _ _ q => q.elim)
      obtain ⟨i118c, g118c, y118_0⟩ := hp118
      have f118c : mm_fr [(63, 4), (63, 5), (63, 6), (63, 7), (63, 8), (63, 9), (63, 10)] [64] h h118c := mm_fr_tr f117_ g118c (by decide +kernel)
      have g8 : -2147483648 ≤ (h118c.1 63 5) ∧ (h118c.1 63 5) ≤ 2147483647 := i118c.1 63 5
      have g9 : 0 ≤ (h118c.1 63 7) ∧ (h118c.1 63 7) ≤ 500 := i118c.1 63 7
      refine mm_iconst C (mm_dec dk_X7_readPart 63 rfl) ⟨by decide, by decide⟩ ?_
      exact mm_zret C T (mm_dec dk_X7_readPart 64 rfl) (by decide : 0 ≤ 0) (by decide : 0 ≤ 0) (by omega) ⟨_, rfl, ⟨⟨by omega, by omega⟩, i118c, f118c, by omega⟩⟩
    refine mm_icmp_ne (tgt := 100) C (mm_dec dk_X7_readPart 23 rfl) (by decide) (fun c43 => ?_) (fun c43 => ?_)
    · skip
      refine mm_aload_n C (mm_dec dk_X7_readPart 52 rfl) rfl ?_
      refine mm_cVi (rest := []) C1 ev_X7_89 (mm_dec dk_X7_readPart 53 rfl) (c_X7_isNumber x.2.1 hl (d - 1) (by omega) h i0 ) rfl rfl (Nat.le_of_ble_eq_true rfl) ⟨by decide, by decide⟩ rfl (fun r101 h101c hp101 => ?_) (fun _ _ q => q.elim)
      obtain ⟨b101, i101c, g101c⟩ := hp101
      have f101c : mm_fr [(63, 4), (63, 5), (63, 6), (63, 7), (63, 8), (63, 9), (63, 10)] [64] h h101c := mm_fr_tr f0 g101c (by decide +kernel)
      have q101c_11 : h101c.1 63 5 = h.1 63 5 := g101c.1 63 5 (by decide)
      have q101c_12 : h101c.1 63 7 = h.1 63 7 := g101c.1 63 7 (by decide)
      refine mm_if_ne (tgt := 109) C (mm_dec dk_X7_readPart 54 rfl) (by decide) (fun c104 => ?_) (fun c104 => ?_)
      · skip
        refine mm_aload_n C (mm_dec dk_X7_readPart 57 rfl) rfl ?_
        refine mm_aload_n C (mm_dec dk_X7_readPart 58 rfl) rfl ?_
        refine mm_cVi (rest := [mR 63]) C1 ev_X7_92 (mm_dec dk_X7_readPart 59 rfl) (c_X7_numberOfToken x.2.1 hl (d - 1) (by omega) h101c i101c ) rfl rfl (Nat.le_of_ble_eq_true rfl) ⟨by decide, by decide⟩ rfl (fun r111 h111c hp111 => ?_) (fun _ _ q => q.elim)
        obtain ⟨b111, z111⟩ := hp111
        rw [z111]
        refine mm_cVv (rest := []) C1 ev_X7_79 (mm_dec dk_X7_readPart 60 rfl) (c_X7_emit x.2.1 hl (d - 1) (by omega) h101c i101c r111) rfl rfl (Nat.le_of_ble_eq_true rfl) ⟨by decide, by decide⟩ rfl (fun h114c hp114 => ?_) (fun _ _ q => q.elim)
        obtain ⟨i114c, g114c⟩ := hp114
        have f114c : mm_fr [(63, 4), (63, 5), (63, 6), (63, 7), (63, 8), (63, 9), (63, 10)] [64] h h114c := mm_fr_tr f101c g114c (by decide +kernel)
        have q114c_15 : h114c.1 63 5 = h101c.1 63 5 := g114c.1 63 5 (by decide)
        have q114c_16 : h114c.1 63 7 = h101c.1 63 7 := g114c.1 63 7 (by decide)
        refine mm_fgt 1 ?_
        exact J117 h114c i114c f114c (by omega)
      · skip
        refine mm_iconst C (mm_dec dk_X7_readPart 55 rfl) ⟨by decide, by decide⟩ ?_
        exact mm_zret C T (mm_dec dk_X7_readPart 56 rfl) (by decide : 0 ≤ 0) (by decide : 0 ≤ 0) (by omega) ⟨_, rfl, ⟨⟨by omega, by omega⟩, i101c, f101c, by omega⟩⟩
    · skip
      refine mm_aload_n C (mm_dec dk_X7_readPart 24 rfl) rfl ?_
      refine mm_geti C fl_X7_28 (mm_dec dk_X7_readPart 25 rfl) rfl rfl (Or.inl rfl) ?_
      have g17 : -2147483648 ≤ (h.1 63 6) ∧ (h.1 63 6) ≤ 2147483647 := i0.1 63 6
      refine mm_bipush C (mm_dec dk_X7_readPart 26 rfl) ⟨by decide, by decide⟩ ?_
      refine mm_icmp_ge (tgt := 61) C (mm_dec dk_X7_readPart 27 rfl) (by decide) (fun c52 => ?_) (fun c52 => ?_)
      · skip
        refine mm_aload_n C (mm_dec dk_X7_readPart 32 rfl) rfl ?_
        refine mm_aload_n C (mm_dec dk_X7_readPart 33 rfl) rfl ?_
        refine mm_geti C fl_X7_28 (mm_dec dk_X7_readPart 34 rfl) rfl rfl (Or.inl rfl) ?_
        refine mm_bipush C (mm_dec dk_X7_readPart 35 rfl) ⟨by decide, by decide⟩ ?_
        have J94 : ∀ (s94_1 : Int) (bs94_1 : -2147483648 ≤ s94_1 ∧ s94_1 ≤ 2147483647), mm_W x 0 0 94 [mR 63, mU] [mI s94_1, mR 63] h := by
          intro s94_1 bs94_1
          have g18 : -2147483648 ≤ h.1 63 5 ∧ h.1 63 5 ≤ 2147483647 := i0.1 63 5
          have g19 : 0 ≤ h.1 63 7 ∧ h.1 63 7 ≤ 500 := i0.1 63 7
          refine mm_cVv (rest := []) C1 ev_X7_79 (mm_dec dk_X7_readPart 50 rfl) (c_X7_emit x.2.1 hl (d - 1) (by omega) h i0 s94_1) rfl rfl (Nat.le_of_ble_eq_true rfl) ⟨by decide, by decide⟩ rfl (fun h94c hp94 => ?_) (fun _ _ q => q.elim)
          obtain ⟨i94c, g94c⟩ := hp94
          have f94c : mm_fr [(63, 4), (63, 5), (63, 6), (63, 7), (63, 8), (63, 9), (63, 10)] [64] h h94c := mm_fr_tr f0 g94c (by decide +kernel)
          have q94c_21 : h94c.1 63 5 = h.1 63 5 := g94c.1 63 5 (by decide)
          have q94c_22 : h94c.1 63 6 = h.1 63 6 := g94c.1 63 6 (by decide)
          have q94c_23 : h94c.1 63 7 = h.1 63 7 := g94c.1 63 7 (by decide)
          refine mm_goto (tgt := 117) C (mm_dec dk_X7_readPart 51 rfl) (by decide) ?_
          exact J117 h94c i94c f94c (by omega)
        refine mm_icmp_ge (tgt := 84) C (mm_dec dk_X7_readPart 36 rfl) (by decide) (fun c68 => ?_) (fun c68 => ?_)
        · skip
          refine mm_ldc (z := 100000) C (mm_dec dk_X7_readPart 44 rfl) kc_X7_127 (by decide) ?_
          refine mm_aload_n C (mm_dec dk_X7_readPart 45 rfl) rfl ?_
          refine mm_geti C fl_X7_28 (mm_dec dk_X7_readPart 46 rfl) rfl rfl (Or.inl rfl) ?_
          refine mm_iaddw C (mm_dec dk_X7_readPart 47 rfl) ?_
          have g24 : -2147483648 ≤ (mm_w (100000 + (h.1 63 6))) ∧ (mm_w (100000 + (h.1 63 6))) < 2147483648 := mm_w_rg _
          refine mm_bipush C (mm_dec dk_X7_readPart 48 rfl) ⟨by decide, by decide⟩ ?_
          refine mm_isubw C (mm_dec dk_X7_readPart 49 rfl) ?_
          have g25 : -2147483648 ≤ (mm_w ((mm_w (100000 + (h.1 63 6))) - 10)) ∧ (mm_w ((mm_w (100000 + (h.1 63 6))) - 10)) < 2147483648 := mm_w_rg _
          refine mm_fgt 1 ?_
          exact J94 (mm_w ((mm_w (100000 + (h.1 63 6))) - 10)) ⟨by omega, by omega⟩
        · skip
          refine mm_ldc (z := 100007) C (mm_dec dk_X7_readPart 37 rfl) kc_X7_126 (by decide) ?_
          refine mm_aload_n C (mm_dec dk_X7_readPart 38 rfl) rfl ?_
          refine mm_geti C fl_X7_28 (mm_dec dk_X7_readPart 39 rfl) rfl rfl (Or.inl rfl) ?_
          refine mm_iadd C (mm_dec dk_X7_readPart 40 rfl) ⟨by omega, by omega⟩ ?_
          refine mm_bipush C (mm_dec dk_X7_readPart 41 rfl) ⟨by decide, by decide⟩ ?_
          refine mm_isub C (mm_dec dk_X7_readPart 42 rfl) ⟨by omega, by omega⟩ ?_
          refine mm_goto (tgt := 94) C (mm_dec dk_X7_readPart 43 rfl) (by decide) ?_
          refine mm_fgt 1 ?_
          exact J94 ((100007 + (h.1 63 6)) - 7) ⟨by omega, by omega⟩
      · skip
        refine mm_aload_n C (mm_dec dk_X7_readPart 28 rfl) rfl ?_
        refine mm_iconst C (mm_dec dk_X7_readPart 29 rfl) ⟨by decide, by decide⟩ ?_
        refine mm_cVi (rest := []) C1 ev_X7_65 (mm_dec dk_X7_readPart 30 rfl) (c_X7_refuse x.2.1 hl (d - 1) (by omega) h i0 3) rfl rfl (Nat.le_of_ble_eq_true rfl) ⟨by decide, by decide⟩ rfl (fun r57 h57c hp57 => ?_) (fun _ _ q => q.elim)
        obtain ⟨b57, i57c, g57c⟩ := hp57
        have f57c : mm_fr [(63, 4), (63, 5), (63, 6), (63, 7), (63, 8), (63, 9), (63, 10)] [64] h h57c := mm_fr_tr f0 g57c (by decide +kernel)
        have q57c_27 : h57c.1 63 5 = h.1 63 5 := g57c.1 63 5 (by decide)
        have q57c_28 : h57c.1 63 6 = h.1 63 6 := g57c.1 63 6 (by decide)
        have q57c_29 : h57c.1 63 7 = h.1 63 7 := g57c.1 63 7 (by decide)
        exact mm_zret C T (mm_dec dk_X7_readPart 31 rfl) (by decide : 0 ≤ 0) (by decide : 0 ≤ 0) (by omega) ⟨_, rfl, ⟨⟨by omega, by omega⟩, i57c, f57c, by omega⟩⟩
  · skip
    refine mm_aload_n C (mm_dec dk_X7_readPart 4 rfl) rfl ?_
    refine mm_cVv (rest := []) C1 ev_X7_52 (mm_dec dk_X7_readPart 5 rfl) (c_X7_step x.2.1 hl (d - 1) (by omega) h i0 ) rfl rfl (Nat.le_of_ble_eq_true rfl) ⟨by decide, by decide⟩ rfl (fun h10c hp10 => ?_) (fun _ _ q => q.elim)
    obtain ⟨i10c, g10c, y10_0⟩ := hp10
    have f10c : mm_fr [(63, 4), (63, 5), (63, 6), (63, 7), (63, 8), (63, 9), (63, 10)] [64] h h10c := mm_fr_tr f0 g10c (by decide +kernel)
    have g31 : -2147483648 ≤ (h10c.1 63 5) ∧ (h10c.1 63 5) ≤ 2147483647 := i10c.1 63 5
    have g32 : 0 ≤ (h10c.1 63 7) ∧ (h10c.1 63 7) ≤ 500 := i10c.1 63 7
    refine mm_aload_n C (mm_dec dk_X7_readPart 6 rfl) rfl ?_
    refine mm_iload_n C (mm_dec dk_X7_readPart 7 rfl) rfl ?_
    refine mm_iconst C (mm_dec dk_X7_readPart 8 rfl) ⟨by decide, by decide⟩ ?_
    refine mm_iadd C (mm_dec dk_X7_readPart 9 rfl) ⟨by omega, by omega⟩ ?_
    refine mm_cVi (rest := []) C1 ev_X7_75 (mm_dec dk_X7_readPart 10 rfl) (c_X7_readOr_k3 x.2.1 hl (d - 1) (by omega) h10c i10c (p1 + 1) ⟨by omega, by omega⟩ (by omega)) rfl rfl (Nat.le_of_ble_eq_true rfl) ⟨by decide, by decide⟩ rfl (fun r17 h17c hp17 => ?_) (fun _ _ q => q.elim)
    obtain ⟨b17, i17c, g17c, y17_0⟩ := hp17
    have f17c : mm_fr [(63, 4), (63, 5), (63, 6), (63, 7), (63, 8), (63, 9), (63, 10)] [64] h h17c := mm_fr_tr f10c g17c (by decide +kernel)
    have g34 : -2147483648 ≤ (h17c.1 63 5) ∧ (h17c.1 63 5) ≤ 2147483647 := i17c.1 63 5
    have g35 : 0 ≤ (h17c.1 63 7) ∧ (h17c.1 63 7) ≤ 500 := i17c.1 63 7
    have J37 : ∀ (s37_0 : Int) (bs37_0 : 0 ≤ s37_0 ∧ s37_0 ≤ 1) (h37_ : mH) (i37_ : mm_inv h37_) (f37_ : mm_fr [(63, 4), (63, 5), (63, 6), (63, 7), (63, 8), (63, 9), (63, 10)] [64] h h37_) (w37_0 : (h37_.1 63 5 = 0 ∨ h37_.1 63 7 ≤ 499)), mm_W x 0 0 37 [mU, mU] [mI s37_0] h37_ := by
      intro s37_0 bs37_0 h37_ i37_ f37_ w37_0
      have g36 : -2147483648 ≤ h37_.1 63 5 ∧ h37_.1 63 5 ≤ 2147483647 := i37_.1 63 5
      have g37 : 0 ≤ h37_.1 63 7 ∧ h37_.1 63 7 ≤ 500 := i37_.1 63 7
      exact mm_zret C T (mm_dec dk_X7_readPart 19 rfl) (by decide : 0 ≤ 0) (by decide : 0 ≤ 0) (by omega) ⟨_, rfl, ⟨⟨by omega, by omega⟩, i37_, f37_, by omega⟩⟩
    have J36 : ∀ (h36_ : mH) (i36_ : mm_inv h36_) (f36_ : mm_fr [(63, 4), (63, 5), (63, 6), (63, 7), (63, 8), (63, 9), (63, 10)] [64] h h36_) (w36_0 : (h36_.1 63 5 = 0 ∨ h36_.1 63 7 ≤ 499)), mm_W x 0 0 36 [mU, mU] [] h36_ := by
      intro h36_ i36_ f36_ w36_0
      have g38 : -2147483648 ≤ h36_.1 63 5 ∧ h36_.1 63 5 ≤ 2147483647 := i36_.1 63 5
      have g39 : 0 ≤ h36_.1 63 7 ∧ h36_.1 63 7 ≤ 500 := i36_.1 63 7
      refine mm_iconst C (mm_dec dk_X7_readPart 18 rfl) ⟨by decide, by decide⟩ ?_
      exact J37 0 ⟨by omega, by omega⟩ h36_ i36_ f36_ (by omega)
    refine mm_if_eq (tgt := 36) C (mm_dec dk_X7_readPart 11 rfl) (by decide) (fun c20 => ?_) (fun c20 => ?_)
    · skip
      refine mm_fgt 0 ?_
      refine mm_fgt 1 ?_
      exact J36 h17c i17c f17c (by omega)
    · skip
      refine mm_aload_n C (mm_dec dk_X7_readPart 12 rfl) rfl ?_
      refine mm_bipush C (mm_dec dk_X7_readPart 13 rfl) ⟨by decide, by decide⟩ ?_
      refine mm_cVi (rest := []) C1 ev_X7_72 (mm_dec dk_X7_readPart 14 rfl) (c_X7_readSign x.2.1 hl (d - 1) (by omega) h17c i17c 41 (by omega)) rfl rfl (Nat.le_of_ble_eq_true rfl) ⟨by decide, by decide⟩ rfl (fun r26 h26c hp26 => ?_) (fun _ _ q => q.elim)
      obtain ⟨b26, i26c, g26c, y26_0⟩ := hp26
      have f26c : mm_fr [(63, 4), (63, 5), (63, 6), (63, 7), (63, 8), (63, 9), (63, 10)] [64] h h26c := mm_fr_tr f17c g26c (by decide +kernel)
      have g41 : -2147483648 ≤ (h26c.1 63 5) ∧ (h26c.1 63 5) ≤ 2147483647 := i26c.1 63 5
      have g42 : 0 ≤ (h26c.1 63 7) ∧ (h26c.1 63 7) ≤ 500 := i26c.1 63 7
      refine mm_if_eq (tgt := 36) C (mm_dec dk_X7_readPart 15 rfl) (by decide) (fun c29 => ?_) (fun c29 => ?_)
      · skip
        refine mm_fgt 0 ?_
        refine mm_fgt 1 ?_
        exact J36 h26c i26c f26c (by omega)
      · skip
        refine mm_iconst C (mm_dec dk_X7_readPart 16 rfl) ⟨by decide, by decide⟩ ?_
        refine mm_goto (tgt := 37) C (mm_dec dk_X7_readPart 17 rfl) (by decide) ?_
        refine mm_fgt 0 ?_
        refine mm_fgt 1 ?_
        exact J37 1 ⟨by omega, by omega⟩ h26c i26c f26c (by omega)
set_option maxRecDepth 100000 in
set_option maxHeartbeats 4000000 in
theorem c_X7_readProduct_k2 (l : Launch) (hl : l.stackTraces = false) (d : Nat) (hd : 28 ≤ d) (h : mH) (i0 : mm_inv h) (p1 : Int) (bp1 : 2 ≤ p1 ∧ p1 ≤ 2) (t0 : (h.1 63 5 = 0 ∨ h.1 63 7 ≤ 499)) : mm_Met l d yX7_readProduct cX7_readProduct 4 (some .boolean) [mR 63, mI p1] h (mm_pi fun r h2 => (0 ≤ r ∧ r ≤ 1) ∧ mm_inv h2 ∧ mm_fr [(63, 4), (63, 5), (63, 6), (63, 7), (63, 8), (63, 9), (63, 10)] [64] h h2 ∧ (h2.1 63 5 = 0 ∨ h2.1 63 7 ≤ 499)) mm_nx 0 0 := by
  refine mm_ofW (ls := [mR 63, mI p1, mU, mU]) hl (by decide) rfl (Nat.le_of_ble_eq_true rfl) ?_
  intro x hxl C T hnm htb
  subst hxl
  have C1 := mm_OK_le (d' := d - 1 + 1) (by omega) C
  have C8 := mm_OK_le (d' := d - 8 + 8) (by omega) C
  refine mm_rng (fun hr _ => ?_)
  have ap1 : -2147483648 ≤ p1 ∧ p1 < 2147483648 := mm_ok_at hr (i := 1) rfl
  have f0 : mm_fr [(63, 4), (63, 5), (63, 6), (63, 7), (63, 8), (63, 9), (63, 10)] [64] h h := mm_fr_rf
  have g1 : -2147483648 ≤ h.1 63 5 ∧ h.1 63 5 ≤ 2147483647 := i0.1 63 5
  have g2 : 0 ≤ h.1 63 7 ∧ h.1 63 7 ≤ 500 := i0.1 63 7
  refine mm_aload_n C (mm_dec dk_X7_readProduct 0 rfl) rfl ?_
  refine mm_iload_n C (mm_dec dk_X7_readProduct 1 rfl) rfl ?_
  refine mm_cVi (rest := []) C1 ev_X7_121 (mm_dec dk_X7_readProduct 2 rfl) (c_X7_readPart_k2 x.2.1 hl (d - 1) (by omega) h i0 p1 ⟨by omega, by omega⟩ (by omega)) rfl rfl (Nat.le_of_ble_eq_true rfl) ⟨by decide, by decide⟩ rfl (fun r2 h2c hp2 => ?_) (fun _ _ q => q.elim)
  obtain ⟨b2, i2c, g2c, y2_0⟩ := hp2
  have f2c : mm_fr [(63, 4), (63, 5), (63, 6), (63, 7), (63, 8), (63, 9), (63, 10)] [64] h h2c := mm_fr_tr f0 g2c (by decide +kernel)
  have g4 : -2147483648 ≤ (h2c.1 63 5) ∧ (h2c.1 63 5) ≤ 2147483647 := i2c.1 63 5
  have g5 : 0 ≤ (h2c.1 63 7) ∧ (h2c.1 63 7) ≤ 500 := i2c.1 63 7
  refine mm_if_ne (tgt := 10) C (mm_dec dk_X7_readProduct 3 rfl) (by decide) (fun c5 => ?_) (fun c5 => ?_)
  · skip
    refine mm_iconst C (mm_dec dk_X7_readProduct 6 rfl) ⟨by decide, by decide⟩ ?_
    have J12 : ∀ (n : Nat) (x12_2 : Int) (bx12_2 : 0 ≤ x12_2 ∧ x12_2 ≤ 500) (h12_ : mH) (i12_ : mm_inv h12_) (f12_ : mm_fr [(63, 4), (63, 5), (63, 6), (63, 7), (63, 8), (63, 9), (63, 10)] [64] h h12_) (w12_0 : (h12_.1 63 5 = 0 ∨ h12_.1 63 7 ≤ 499)), (500 - x12_2 : Int) < n → mm_W x 0 0 12 [mR 63, mI p1, mI x12_2, mU] [] h12_ := by
      intro n
      induction n with
      | zero =>
        intro x12_2 bx12_2 h12_ i12_ f12_ w12_0 hm
        have g6 : -2147483648 ≤ h12_.1 63 5 ∧ h12_.1 63 5 ≤ 2147483647 := i12_.1 63 5
        have g7 : 0 ≤ h12_.1 63 7 ∧ h12_.1 63 7 ≤ 500 := i12_.1 63 7
        exfalso; omega
      | succ n ih12 =>
        intro x12_2 bx12_2 h12_ i12_ f12_ w12_0 hm12
        have g8 : -2147483648 ≤ h12_.1 63 5 ∧ h12_.1 63 5 ≤ 2147483647 := i12_.1 63 5
        have g9 : 0 ≤ h12_.1 63 7 ∧ h12_.1 63 7 ≤ 500 := i12_.1 63 7
        refine mm_iload_n C (mm_dec dk_X7_readProduct 8 rfl) rfl ?_
        refine mm_sipush C (mm_dec dk_X7_readProduct 9 rfl) ⟨by decide, by decide⟩ ?_
        have J79 : mm_W x 0 0 79 [mU, mU, mU, mU] [] h12_ := by
          have g10 : -2147483648 ≤ h12_.1 63 5 ∧ h12_.1 63 5 ≤ 2147483647 := i12_.1 63 5
          have g11 : 0 ≤ h12_.1 63 7 ∧ h12_.1 63 7 ≤ 500 := i12_.1 63 7
          refine mm_iconst C (mm_dec dk_X7_readProduct 40 rfl) ⟨by decide, by decide⟩ ?_
          exact mm_zret C T (mm_dec dk_X7_readProduct 41 rfl) (by decide : 0 ≤ 0) (by decide : 0 ≤ 0) (by omega) ⟨_, rfl, ⟨⟨by omega, by omega⟩, i12_, f12_, by omega⟩⟩
        refine mm_icmp_ge (tgt := 79) C (mm_dec dk_X7_readProduct 10 rfl) (by decide) (fun c16 => ?_) (fun c16 => ?_)
        · skip
          refine mm_fgt 0 ?_
          refine mm_fgt 1 ?_
          refine mm_fgt 2 ?_
          exact J79
        · skip
          refine mm_aload_n C (mm_dec dk_X7_readProduct 11 rfl) rfl ?_
          refine mm_bipush C (mm_dec dk_X7_readProduct 12 rfl) ⟨by decide, by decide⟩ ?_
          refine mm_cVi (rest := []) C1 ev_X7_96 (mm_dec dk_X7_readProduct 13 rfl) (c_X7_isSign x.2.1 hl (d - 1) (by omega) h12_ i12_ 42 (by omega)) rfl rfl (Nat.le_of_ble_eq_true rfl) ⟨by decide, by decide⟩ rfl (fun r22 h22c hp22 => ?_) (fun _ _ q => q.elim)
          obtain ⟨z22, y22⟩ := hp22
          rw [z22]
          have g13 : -2147483648 ≤ (h12_.2.1 62 (h12_.1 63 7)) ∧ (h12_.2.1 62 (h12_.1 63 7)) ≤ 2147483647 := i12_.2.1 62 (h12_.1 63 7)
          have J37 : mm_W x 0 0 37 [mR 63, mI p1, mI x12_2, mU] [] h12_ := by
            have g14 : -2147483648 ≤ h12_.1 63 5 ∧ h12_.1 63 5 ≤ 2147483647 := i12_.1 63 5
            have g15 : 0 ≤ h12_.1 63 7 ∧ h12_.1 63 7 ≤ 500 := i12_.1 63 7
            refine mm_aload_n C (mm_dec dk_X7_readProduct 19 rfl) rfl ?_
            refine mm_bipush C (mm_dec dk_X7_readProduct 20 rfl) ⟨by decide, by decide⟩ ?_
            refine mm_cVi (rest := []) C1 ev_X7_96 (mm_dec dk_X7_readProduct 21 rfl) (c_X7_isSign x.2.1 hl (d - 1) (by omega) h12_ i12_ 42 (by omega)) rfl rfl (Nat.le_of_ble_eq_true rfl) ⟨by decide, by decide⟩ rfl (fun r40 h40c hp40 => ?_) (fun _ _ q => q.elim)
            obtain ⟨z40, y40⟩ := hp40
            rw [z40]
            have J53 : ∀ (s53_0 : Int) (bs53_0 : 100017 ≤ s53_0 ∧ s53_0 ≤ 100018) (vs53_0 : (r40 ≠ 0 ∧ s53_0 = 100017) ∨ (r40 = 0 ∧ s53_0 = 100018)), mm_W x 0 0 53 [mR 63, mI p1, mI x12_2, mU] [mI s53_0] h12_ := by
              intro s53_0 bs53_0 vs53_0
              have g17 : -2147483648 ≤ h12_.1 63 5 ∧ h12_.1 63 5 ≤ 2147483647 := i12_.1 63 5
              have g18 : 0 ≤ h12_.1 63 7 ∧ h12_.1 63 7 ≤ 500 := i12_.1 63 7
              refine mm_istore_nL (ls2 := [mR 63, mI p1, mI x12_2, mI s53_0]) C (mm_dec dk_X7_readProduct 26 rfl) (by decide) rfl ?_
              refine mm_aload_n C (mm_dec dk_X7_readProduct 27 rfl) rfl ?_
              refine mm_cVv (rest := []) C1 ev_X7_52 (mm_dec dk_X7_readProduct 28 rfl) (c_X7_step x.2.1 hl (d - 1) (by omega) h12_ i12_ ) rfl rfl (Nat.le_of_ble_eq_true rfl) ⟨by decide, by decide⟩ rfl (fun h55c hp55 => ?_) (fun _ _ q => q.elim)
              obtain ⟨i55c, g55c, y55_0⟩ := hp55
              have f55c : mm_fr [(63, 4), (63, 5), (63, 6), (63, 7), (63, 8), (63, 9), (63, 10)] [64] h h55c := mm_fr_tr f12_ g55c (by decide +kernel)
              have g20 : -2147483648 ≤ (h55c.1 63 5) ∧ (h55c.1 63 5) ≤ 2147483647 := i55c.1 63 5
              have g21 : 0 ≤ (h55c.1 63 7) ∧ (h55c.1 63 7) ≤ 500 := i55c.1 63 7
              refine mm_aload_n C (mm_dec dk_X7_readProduct 29 rfl) rfl ?_
              refine mm_iload_n C (mm_dec dk_X7_readProduct 30 rfl) rfl ?_
              refine mm_cVi (rest := []) C1 ev_X7_121 (mm_dec dk_X7_readProduct 31 rfl) (c_X7_readPart_k2 x.2.1 hl (d - 1) (by omega) h55c i55c p1 ⟨by omega, by omega⟩ (by omega)) rfl rfl (Nat.le_of_ble_eq_true rfl) ⟨by decide, by decide⟩ rfl (fun r60 h60c hp60 => ?_) (fun _ _ q => q.elim)
              obtain ⟨b60, i60c, g60c, y60_0⟩ := hp60
              have f60c : mm_fr [(63, 4), (63, 5), (63, 6), (63, 7), (63, 8), (63, 9), (63, 10)] [64] h h60c := mm_fr_tr f55c g60c (by decide +kernel)
              have g23 : -2147483648 ≤ (h60c.1 63 5) ∧ (h60c.1 63 5) ≤ 2147483647 := i60c.1 63 5
              have g24 : 0 ≤ (h60c.1 63 7) ∧ (h60c.1 63 7) ≤ 500 := i60c.1 63 7
              refine mm_if_ne (tgt := 68) C (mm_dec dk_X7_readProduct 32 rfl) (by decide) (fun c63 => ?_) (fun c63 => ?_)
              · skip
                refine mm_aload_n C (mm_dec dk_X7_readProduct 35 rfl) rfl ?_
                refine mm_iload_n C (mm_dec dk_X7_readProduct 36 rfl) rfl ?_
                refine mm_cVv (rest := []) C1 ev_X7_79 (mm_dec dk_X7_readProduct 37 rfl) (c_X7_emit x.2.1 hl (d - 1) (by omega) h60c i60c s53_0) rfl rfl (Nat.le_of_ble_eq_true rfl) ⟨by decide, by decide⟩ rfl (fun h70c hp70 => ?_) (fun _ _ q => q.elim)
                obtain ⟨i70c, g70c⟩ := hp70
                have f70c : mm_fr [(63, 4), (63, 5), (63, 6), (63, 7), (63, 8), (63, 9), (63, 10)] [64] h h70c := mm_fr_tr f60c g70c (by decide +kernel)
                have q70c_26 : h70c.1 63 5 = h60c.1 63 5 := g70c.1 63 5 (by decide)
                have q70c_27 : h70c.1 63 7 = h60c.1 63 7 := g70c.1 63 7 (by decide)
                refine mm_iincL (ls2 := [mR 63, mI p1, mI (x12_2 + 1), mI s53_0]) C (mm_dec dk_X7_readProduct 38 rfl) rfl (by decide) ⟨by omega, by omega⟩ rfl ?_
                refine mm_goto (tgt := 12) C (mm_dec dk_X7_readProduct 39 rfl) (by decide) ?_
                refine mm_fgt 3 ?_
                exact ih12 (x12_2 + 1) ⟨by omega, by omega⟩ h70c i70c f70c (by omega) (by omega)
              · skip
                refine mm_iconst C (mm_dec dk_X7_readProduct 33 rfl) ⟨by decide, by decide⟩ ?_
                exact mm_zret C T (mm_dec dk_X7_readProduct 34 rfl) (by decide : 0 ≤ 0) (by decide : 0 ≤ 0) (by omega) ⟨_, rfl, ⟨⟨by omega, by omega⟩, i60c, f60c, by omega⟩⟩
            refine mm_if_eq (tgt := 51) C (mm_dec dk_X7_readProduct 22 rfl) (by decide) (fun c43 => ?_) (fun c43 => ?_)
            · skip
              refine mm_ldc (z := 100018) C (mm_dec dk_X7_readProduct 25 rfl) kc_X7_125 (by decide) ?_
              exact J53 100018 ⟨by omega, by omega⟩ (Or.inr (⟨by omega, rfl⟩))
            · skip
              refine mm_ldc (z := 100017) C (mm_dec dk_X7_readProduct 23 rfl) kc_X7_124 (by decide) ?_
              refine mm_goto (tgt := 53) C (mm_dec dk_X7_readProduct 24 rfl) (by decide) ?_
              exact J53 100017 ⟨by omega, by omega⟩ (Or.inl ⟨by omega, rfl⟩)
          refine mm_if_ne (tgt := 37) C (mm_dec dk_X7_readProduct 14 rfl) (by decide) (fun c25 => ?_) (fun c25 => ?_)
          · skip
            exact J37
          · skip
            refine mm_aload_n C (mm_dec dk_X7_readProduct 15 rfl) rfl ?_
            refine mm_bipush C (mm_dec dk_X7_readProduct 16 rfl) ⟨by decide, by decide⟩ ?_
            refine mm_cVi (rest := []) C1 ev_X7_96 (mm_dec dk_X7_readProduct 17 rfl) (c_X7_isSign x.2.1 hl (d - 1) (by omega) h12_ i12_ 47 (by omega)) rfl rfl (Nat.le_of_ble_eq_true rfl) ⟨by decide, by decide⟩ rfl (fun r31 h31c hp31 => ?_) (fun _ _ q => q.elim)
            obtain ⟨z31, y31⟩ := hp31
            rw [z31]
            refine mm_if_eq (tgt := 79) C (mm_dec dk_X7_readProduct 18 rfl) (by decide) (fun c34 => ?_) (fun c34 => ?_)
            · skip
              refine mm_fgt 0 ?_
              refine mm_fgt 1 ?_
              refine mm_fgt 2 ?_
              exact J79
            · skip
              exact J37
    refine mm_istore_nL (ls2 := [mR 63, mI p1, mI 0, mU]) C (mm_dec dk_X7_readProduct 7 rfl) (by decide) rfl ?_
    exact J12 (((500 - 0) : Int) + 1).toNat 0 ⟨by omega, by omega⟩ h2c i2c f2c (by omega) (by omega)
  · skip
    refine mm_iconst C (mm_dec dk_X7_readProduct 4 rfl) ⟨by decide, by decide⟩ ?_
    exact mm_zret C T (mm_dec dk_X7_readProduct 5 rfl) (by decide : 0 ≤ 0) (by decide : 0 ≤ 0) (by omega) ⟨_, rfl, ⟨⟨by omega, by omega⟩, i2c, f2c, by omega⟩⟩
set_option maxRecDepth 100000 in
set_option maxHeartbeats 4000000 in
theorem c_X7_readSum_k2 (l : Launch) (hl : l.stackTraces = false) (d : Nat) (hd : 29 ≤ d) (h : mH) (i0 : mm_inv h) (p1 : Int) (bp1 : 2 ≤ p1 ∧ p1 ≤ 2) (t0 : (h.1 63 5 = 0 ∨ h.1 63 7 ≤ 499)) : mm_Met l d yX7_readSum cX7_readSum 4 (some .boolean) [mR 63, mI p1] h (mm_pi fun r h2 => (0 ≤ r ∧ r ≤ 1) ∧ mm_inv h2 ∧ mm_fr [(63, 4), (63, 5), (63, 6), (63, 7), (63, 8), (63, 9), (63, 10)] [64] h h2 ∧ (h2.1 63 5 = 0 ∨ h2.1 63 7 ≤ 499)) mm_nx 0 0 := by
  refine mm_ofW (ls := [mR 63, mI p1, mU, mU]) hl (by decide) rfl (Nat.le_of_ble_eq_true rfl) ?_
  intro x hxl C T hnm htb
  subst hxl
  have C1 := mm_OK_le (d' := d - 1 + 1) (by omega) C
  have C8 := mm_OK_le (d' := d - 8 + 8) (by omega) C
  refine mm_rng (fun hr _ => ?_)
  have ap1 : -2147483648 ≤ p1 ∧ p1 < 2147483648 := mm_ok_at hr (i := 1) rfl
  have f0 : mm_fr [(63, 4), (63, 5), (63, 6), (63, 7), (63, 8), (63, 9), (63, 10)] [64] h h := mm_fr_rf
  have g1 : -2147483648 ≤ h.1 63 5 ∧ h.1 63 5 ≤ 2147483647 := i0.1 63 5
  have g2 : 0 ≤ h.1 63 7 ∧ h.1 63 7 ≤ 500 := i0.1 63 7
  refine mm_aload_n C (mm_dec dk_X7_readSum 0 rfl) rfl ?_
  refine mm_iload_n C (mm_dec dk_X7_readSum 1 rfl) rfl ?_
  refine mm_cVi (rest := []) C1 ev_X7_116 (mm_dec dk_X7_readSum 2 rfl) (c_X7_readProduct_k2 x.2.1 hl (d - 1) (by omega) h i0 p1 ⟨by omega, by omega⟩ (by omega)) rfl rfl (Nat.le_of_ble_eq_true rfl) ⟨by decide, by decide⟩ rfl (fun r2 h2c hp2 => ?_) (fun _ _ q => q.elim)
  obtain ⟨b2, i2c, g2c, y2_0⟩ := hp2
  have f2c : mm_fr [(63, 4), (63, 5), (63, 6), (63, 7), (63, 8), (63, 9), (63, 10)] [64] h h2c := mm_fr_tr f0 g2c (by decide +kernel)
  have g4 : -2147483648 ≤ (h2c.1 63 5) ∧ (h2c.1 63 5) ≤ 2147483647 := i2c.1 63 5
  have g5 : 0 ≤ (h2c.1 63 7) ∧ (h2c.1 63 7) ≤ 500 := i2c.1 63 7
  refine mm_if_ne (tgt := 10) C (mm_dec dk_X7_readSum 3 rfl) (by decide) (fun c5 => ?_) (fun c5 => ?_)
  · skip
    refine mm_iconst C (mm_dec dk_X7_readSum 6 rfl) ⟨by decide, by decide⟩ ?_
    have J12 : ∀ (n : Nat) (x12_2 : Int) (bx12_2 : 0 ≤ x12_2 ∧ x12_2 ≤ 500) (h12_ : mH) (i12_ : mm_inv h12_) (f12_ : mm_fr [(63, 4), (63, 5), (63, 6), (63, 7), (63, 8), (63, 9), (63, 10)] [64] h h12_) (w12_0 : (h12_.1 63 5 = 0 ∨ h12_.1 63 7 ≤ 499)), (500 - x12_2 : Int) < n → mm_W x 0 0 12 [mR 63, mI p1, mI x12_2, mU] [] h12_ := by
      intro n
      induction n with
      | zero =>
        intro x12_2 bx12_2 h12_ i12_ f12_ w12_0 hm
        have g6 : -2147483648 ≤ h12_.1 63 5 ∧ h12_.1 63 5 ≤ 2147483647 := i12_.1 63 5
        have g7 : 0 ≤ h12_.1 63 7 ∧ h12_.1 63 7 ≤ 500 := i12_.1 63 7
        exfalso; omega
      | succ n ih12 =>
        intro x12_2 bx12_2 h12_ i12_ f12_ w12_0 hm12
        have g8 : -2147483648 ≤ h12_.1 63 5 ∧ h12_.1 63 5 ≤ 2147483647 := i12_.1 63 5
        have g9 : 0 ≤ h12_.1 63 7 ∧ h12_.1 63 7 ≤ 500 := i12_.1 63 7
        refine mm_iload_n C (mm_dec dk_X7_readSum 8 rfl) rfl ?_
        refine mm_sipush C (mm_dec dk_X7_readSum 9 rfl) ⟨by decide, by decide⟩ ?_
        have J79 : mm_W x 0 0 79 [mU, mU, mU, mU] [] h12_ := by
          have g10 : -2147483648 ≤ h12_.1 63 5 ∧ h12_.1 63 5 ≤ 2147483647 := i12_.1 63 5
          have g11 : 0 ≤ h12_.1 63 7 ∧ h12_.1 63 7 ≤ 500 := i12_.1 63 7
          refine mm_iconst C (mm_dec dk_X7_readSum 40 rfl) ⟨by decide, by decide⟩ ?_
          exact mm_zret C T (mm_dec dk_X7_readSum 41 rfl) (by decide : 0 ≤ 0) (by decide : 0 ≤ 0) (by omega) ⟨_, rfl, ⟨⟨by omega, by omega⟩, i12_, f12_, by omega⟩⟩
        refine mm_icmp_ge (tgt := 79) C (mm_dec dk_X7_readSum 10 rfl) (by decide) (fun c16 => ?_) (fun c16 => ?_)
        · skip
          refine mm_fgt 0 ?_
          refine mm_fgt 1 ?_
          refine mm_fgt 2 ?_
          exact J79
        · skip
          refine mm_aload_n C (mm_dec dk_X7_readSum 11 rfl) rfl ?_
          refine mm_bipush C (mm_dec dk_X7_readSum 12 rfl) ⟨by decide, by decide⟩ ?_
          refine mm_cVi (rest := []) C1 ev_X7_96 (mm_dec dk_X7_readSum 13 rfl) (c_X7_isSign x.2.1 hl (d - 1) (by omega) h12_ i12_ 43 (by omega)) rfl rfl (Nat.le_of_ble_eq_true rfl) ⟨by decide, by decide⟩ rfl (fun r22 h22c hp22 => ?_) (fun _ _ q => q.elim)
          obtain ⟨z22, y22⟩ := hp22
          rw [z22]
          have g13 : -2147483648 ≤ (h12_.2.1 62 (h12_.1 63 7)) ∧ (h12_.2.1 62 (h12_.1 63 7)) ≤ 2147483647 := i12_.2.1 62 (h12_.1 63 7)
          have J37 : mm_W x 0 0 37 [mR 63, mI p1, mI x12_2, mU] [] h12_ := by
            have g14 : -2147483648 ≤ h12_.1 63 5 ∧ h12_.1 63 5 ≤ 2147483647 := i12_.1 63 5
            have g15 : 0 ≤ h12_.1 63 7 ∧ h12_.1 63 7 ≤ 500 := i12_.1 63 7
            refine mm_aload_n C (mm_dec dk_X7_readSum 19 rfl) rfl ?_
            refine mm_bipush C (mm_dec dk_X7_readSum 20 rfl) ⟨by decide, by decide⟩ ?_
            refine mm_cVi (rest := []) C1 ev_X7_96 (mm_dec dk_X7_readSum 21 rfl) (c_X7_isSign x.2.1 hl (d - 1) (by omega) h12_ i12_ 43 (by omega)) rfl rfl (Nat.le_of_ble_eq_true rfl) ⟨by decide, by decide⟩ rfl (fun r40 h40c hp40 => ?_) (fun _ _ q => q.elim)
            obtain ⟨z40, y40⟩ := hp40
            rw [z40]
            have J53 : ∀ (s53_0 : Int) (bs53_0 : 100015 ≤ s53_0 ∧ s53_0 ≤ 100016) (vs53_0 : (r40 ≠ 0 ∧ s53_0 = 100015) ∨ (r40 = 0 ∧ s53_0 = 100016)), mm_W x 0 0 53 [mR 63, mI p1, mI x12_2, mU] [mI s53_0] h12_ := by
              intro s53_0 bs53_0 vs53_0
              have g17 : -2147483648 ≤ h12_.1 63 5 ∧ h12_.1 63 5 ≤ 2147483647 := i12_.1 63 5
              have g18 : 0 ≤ h12_.1 63 7 ∧ h12_.1 63 7 ≤ 500 := i12_.1 63 7
              refine mm_istore_nL (ls2 := [mR 63, mI p1, mI x12_2, mI s53_0]) C (mm_dec dk_X7_readSum 26 rfl) (by decide) rfl ?_
              refine mm_aload_n C (mm_dec dk_X7_readSum 27 rfl) rfl ?_
              refine mm_cVv (rest := []) C1 ev_X7_52 (mm_dec dk_X7_readSum 28 rfl) (c_X7_step x.2.1 hl (d - 1) (by omega) h12_ i12_ ) rfl rfl (Nat.le_of_ble_eq_true rfl) ⟨by decide, by decide⟩ rfl (fun h55c hp55 => ?_) (fun _ _ q => q.elim)
              obtain ⟨i55c, g55c, y55_0⟩ := hp55
              have f55c : mm_fr [(63, 4), (63, 5), (63, 6), (63, 7), (63, 8), (63, 9), (63, 10)] [64] h h55c := mm_fr_tr f12_ g55c (by decide +kernel)
              have g20 : -2147483648 ≤ (h55c.1 63 5) ∧ (h55c.1 63 5) ≤ 2147483647 := i55c.1 63 5
              have g21 : 0 ≤ (h55c.1 63 7) ∧ (h55c.1 63 7) ≤ 500 := i55c.1 63 7
              refine mm_aload_n C (mm_dec dk_X7_readSum 29 rfl) rfl ?_
              refine mm_iload_n C (mm_dec dk_X7_readSum 30 rfl) rfl ?_
              refine mm_cVi (rest := []) C1 ev_X7_116 (mm_dec dk_X7_readSum 31 rfl) (c_X7_readProduct_k2 x.2.1 hl (d - 1) (by omega) h55c i55c p1 ⟨by omega, by omega⟩ (by omega)) rfl rfl (Nat.le_of_ble_eq_true rfl) ⟨by decide, by decide⟩ rfl (fun r60 h60c hp60 => ?_) (fun _ _ q => q.elim)
              obtain ⟨b60, i60c, g60c, y60_0⟩ := hp60
              have f60c : mm_fr [(63, 4), (63, 5), (63, 6), (63, 7), (63, 8), (63, 9), (63, 10)] [64] h h60c := mm_fr_tr f55c g60c (by decide +kernel)
              have g23 : -2147483648 ≤ (h60c.1 63 5) ∧ (h60c.1 63 5) ≤ 2147483647 := i60c.1 63 5
              have g24 : 0 ≤ (h60c.1 63 7) ∧ (h60c.1 63 7) ≤ 500 := i60c.1 63 7
              refine mm_if_ne (tgt := 68) C (mm_dec dk_X7_readSum 32 rfl) (by decide) (fun c63 => ?_) (fun c63 => ?_)
              · skip
                refine mm_aload_n C (mm_dec dk_X7_readSum 35 rfl) rfl ?_
                refine mm_iload_n C (mm_dec dk_X7_readSum 36 rfl) rfl ?_
                refine mm_cVv (rest := []) C1 ev_X7_79 (mm_dec dk_X7_readSum 37 rfl) (c_X7_emit x.2.1 hl (d - 1) (by omega) h60c i60c s53_0) rfl rfl (Nat.le_of_ble_eq_true rfl) ⟨by decide, by decide⟩ rfl (fun h70c hp70 => ?_) (fun _ _ q => q.elim)
                obtain ⟨i70c, g70c⟩ := hp70
                have f70c : mm_fr [(63, 4), (63, 5), (63, 6), (63, 7), (63, 8), (63, 9), (63, 10)] [64] h h70c := mm_fr_tr f60c g70c (by decide +kernel)
                have q70c_26 : h70c.1 63 5 = h60c.1 63 5 := g70c.1 63 5 (by decide)
                have q70c_27 : h70c.1 63 7 = h60c.1 63 7 := g70c.1 63 7 (by decide)
                refine mm_iincL (ls2 := [mR 63, mI p1, mI (x12_2 + 1), mI s53_0]) C (mm_dec dk_X7_readSum 38 rfl) rfl (by decide) ⟨by omega, by omega⟩ rfl ?_
                refine mm_goto (tgt := 12) C (mm_dec dk_X7_readSum 39 rfl) (by decide) ?_
                refine mm_fgt 3 ?_
                exact ih12 (x12_2 + 1) ⟨by omega, by omega⟩ h70c i70c f70c (by omega) (by omega)
              · skip
                refine mm_iconst C (mm_dec dk_X7_readSum 33 rfl) ⟨by decide, by decide⟩ ?_
                exact mm_zret C T (mm_dec dk_X7_readSum 34 rfl) (by decide : 0 ≤ 0) (by decide : 0 ≤ 0) (by omega) ⟨_, rfl, ⟨⟨by omega, by omega⟩, i60c, f60c, by omega⟩⟩
            refine mm_if_eq (tgt := 51) C (mm_dec dk_X7_readSum 22 rfl) (by decide) (fun c43 => ?_) (fun c43 => ?_)
            · skip
              refine mm_ldc (z := 100016) C (mm_dec dk_X7_readSum 25 rfl) kc_X7_120 (by decide) ?_
              exact J53 100016 ⟨by omega, by omega⟩ (Or.inr (⟨by omega, rfl⟩))
            · skip
              refine mm_ldc (z := 100015) C (mm_dec dk_X7_readSum 23 rfl) kc_X7_119 (by decide) ?_
              refine mm_goto (tgt := 53) C (mm_dec dk_X7_readSum 24 rfl) (by decide) ?_
              exact J53 100015 ⟨by omega, by omega⟩ (Or.inl ⟨by omega, rfl⟩)
          refine mm_if_ne (tgt := 37) C (mm_dec dk_X7_readSum 14 rfl) (by decide) (fun c25 => ?_) (fun c25 => ?_)
          · skip
            exact J37
          · skip
            refine mm_aload_n C (mm_dec dk_X7_readSum 15 rfl) rfl ?_
            refine mm_bipush C (mm_dec dk_X7_readSum 16 rfl) ⟨by decide, by decide⟩ ?_
            refine mm_cVi (rest := []) C1 ev_X7_96 (mm_dec dk_X7_readSum 17 rfl) (c_X7_isSign x.2.1 hl (d - 1) (by omega) h12_ i12_ 45 (by omega)) rfl rfl (Nat.le_of_ble_eq_true rfl) ⟨by decide, by decide⟩ rfl (fun r31 h31c hp31 => ?_) (fun _ _ q => q.elim)
            obtain ⟨z31, y31⟩ := hp31
            rw [z31]
            refine mm_if_eq (tgt := 79) C (mm_dec dk_X7_readSum 18 rfl) (by decide) (fun c34 => ?_) (fun c34 => ?_)
            · skip
              refine mm_fgt 0 ?_
              refine mm_fgt 1 ?_
              refine mm_fgt 2 ?_
              exact J79
            · skip
              exact J37
    refine mm_istore_nL (ls2 := [mR 63, mI p1, mI 0, mU]) C (mm_dec dk_X7_readSum 7 rfl) (by decide) rfl ?_
    exact J12 (((500 - 0) : Int) + 1).toNat 0 ⟨by omega, by omega⟩ h2c i2c f2c (by omega) (by omega)
  · skip
    refine mm_iconst C (mm_dec dk_X7_readSum 4 rfl) ⟨by decide, by decide⟩ ?_
    exact mm_zret C T (mm_dec dk_X7_readSum 5 rfl) (by decide : 0 ≤ 0) (by decide : 0 ≤ 0) (by omega) ⟨_, rfl, ⟨⟨by omega, by omega⟩, i2c, f2c, by omega⟩⟩
set_option maxRecDepth 100000 in
set_option maxHeartbeats 4000000 in
theorem c_X7_readTest_k2 (l : Launch) (hl : l.stackTraces = false) (d : Nat) (hd : 30 ≤ d) (h : mH) (i0 : mm_inv h) (p1 : Int) (bp1 : 2 ≤ p1 ∧ p1 ≤ 2) (t0 : (h.1 63 5 = 0 ∨ h.1 63 7 ≤ 499)) : mm_Met l d yX7_readTest cX7_readTest 3 (some .boolean) [mR 63, mI p1] h (mm_pi fun r h2 => (0 ≤ r ∧ r ≤ 1) ∧ mm_inv h2 ∧ mm_fr [(63, 4), (63, 5), (63, 6), (63, 7), (63, 8), (63, 9), (63, 10)] [64] h h2 ∧ (h2.1 63 5 = 0 ∨ h2.1 63 7 ≤ 499)) mm_nx 0 0 := by
  refine mm_ofW (ls := [mR 63, mI p1, mU]) hl (by decide) rfl (Nat.le_of_ble_eq_true rfl) ?_
  intro x hxl C T hnm htb
  subst hxl
  have C1 := mm_OK_le (d' := d - 1 + 1) (by omega) C
  have C8 := mm_OK_le (d' := d - 8 + 8) (by omega) C
  refine mm_rng (fun hr _ => ?_)
  have ap1 : -2147483648 ≤ p1 ∧ p1 < 2147483648 := mm_ok_at hr (i := 1) rfl
  have f0 : mm_fr [(63, 4), (63, 5), (63, 6), (63, 7), (63, 8), (63, 9), (63, 10)] [64] h h := mm_fr_rf
  have g1 : -2147483648 ≤ h.1 63 5 ∧ h.1 63 5 ≤ 2147483647 := i0.1 63 5
  have g2 : 0 ≤ h.1 63 7 ∧ h.1 63 7 ≤ 500 := i0.1 63 7
  refine mm_aload_n C (mm_dec dk_X7_readTest 0 rfl) rfl ?_
  refine mm_iload_n C (mm_dec dk_X7_readTest 1 rfl) rfl ?_
  refine mm_cVi (rest := []) C1 ev_X7_111 (mm_dec dk_X7_readTest 2 rfl) (c_X7_readSum_k2 x.2.1 hl (d - 1) (by omega) h i0 p1 ⟨by omega, by omega⟩ (by omega)) rfl rfl (Nat.le_of_ble_eq_true rfl) ⟨by decide, by decide⟩ rfl (fun r2 h2c hp2 => ?_) (fun _ _ q => q.elim)
  obtain ⟨b2, i2c, g2c, y2_0⟩ := hp2
  have f2c : mm_fr [(63, 4), (63, 5), (63, 6), (63, 7), (63, 8), (63, 9), (63, 10)] [64] h h2c := mm_fr_tr f0 g2c (by decide +kernel)
  have g4 : -2147483648 ≤ (h2c.1 63 5) ∧ (h2c.1 63 5) ≤ 2147483647 := i2c.1 63 5
  have g5 : 0 ≤ (h2c.1 63 7) ∧ (h2c.1 63 7) ≤ 500 := i2c.1 63 7
  refine mm_if_ne (tgt := 10) C (mm_dec dk_X7_readTest 3 rfl) (by decide) (fun c5 => ?_) (fun c5 => ?_)
  · skip
    refine mm_aload_n C (mm_dec dk_X7_readTest 6 rfl) rfl ?_
    refine mm_bipush C (mm_dec dk_X7_readTest 7 rfl) ⟨by decide, by decide⟩ ?_
    refine mm_cVi (rest := []) C1 ev_X7_96 (mm_dec dk_X7_readTest 8 rfl) (c_X7_isSign x.2.1 hl (d - 1) (by omega) h2c i2c 60 (by omega)) rfl rfl (Nat.le_of_ble_eq_true rfl) ⟨by decide, by decide⟩ rfl (fun r13 h13c hp13 => ?_) (fun _ _ q => q.elim)
    obtain ⟨z13, y13⟩ := hp13
    rw [z13]
    have g7 : -2147483648 ≤ (h2c.2.1 62 (h2c.1 63 7)) ∧ (h2c.2.1 62 (h2c.1 63 7)) ≤ 2147483647 := i2c.2.1 62 (h2c.1 63 7)
    have J39 : ∀ (s39_0 : Int) (bs39_0 : -1 ≤ s39_0 ∧ s39_0 ≤ 100014) (vs39_0 : (r13 = 0 ∧ s39_0 = -1) ∨ (r13 ≠ 0 ∧ s39_0 = 100013) ∨ (r13 = 0 ∧ s39_0 = 100014)), mm_W x 0 0 39 [mR 63, mI p1, mU] [mI s39_0] h2c := by
      intro s39_0 bs39_0 vs39_0
      refine mm_istore_nL (ls2 := [mR 63, mI p1, mI s39_0]) C (mm_dec dk_X7_readTest 19 rfl) (by decide) rfl ?_
      refine mm_iload_n C (mm_dec dk_X7_readTest 20 rfl) rfl ?_
      refine mm_iconst C (mm_dec dk_X7_readTest 21 rfl) ⟨by decide, by decide⟩ ?_
      have J64 : ∀ (h64_ : mH) (i64_ : mm_inv h64_) (f64_ : mm_fr [(63, 4), (63, 5), (63, 6), (63, 7), (63, 8), (63, 9), (63, 10)] [64] h h64_) (w64_0 : (h64_.1 63 5 = 0 ∨ h64_.1 63 7 ≤ 499)), mm_W x 0 0 64 [mU, mU, mU] [] h64_ := by
        intro h64_ i64_ f64_ w64_0
        have g8 : -2147483648 ≤ h64_.1 63 5 ∧ h64_.1 63 5 ≤ 2147483647 := i64_.1 63 5
        have g9 : 0 ≤ h64_.1 63 7 ∧ h64_.1 63 7 ≤ 500 := i64_.1 63 7
        refine mm_iconst C (mm_dec dk_X7_readTest 34 rfl) ⟨by decide, by decide⟩ ?_
        exact mm_zret C T (mm_dec dk_X7_readTest 35 rfl) (by decide : 0 ≤ 0) (by decide : 0 ≤ 0) (by omega) ⟨_, rfl, ⟨⟨by omega, by omega⟩, i64_, f64_, by omega⟩⟩
      refine mm_icmp_eq (tgt := 64) C (mm_dec dk_X7_readTest 22 rfl) (by decide) (fun c42 => ?_) (fun c42 => ?_)
      · skip
        refine mm_fgt 0 ?_
        refine mm_fgt 1 ?_
        refine mm_fgt 2 ?_
        exact J64 h2c i2c f2c (by omega)
      · skip
        refine mm_aload_n C (mm_dec dk_X7_readTest 23 rfl) rfl ?_
        refine mm_cVv (rest := []) C1 ev_X7_52 (mm_dec dk_X7_readTest 24 rfl) (c_X7_step x.2.1 hl (d - 1) (by omega) h2c i2c ) rfl rfl (Nat.le_of_ble_eq_true rfl) ⟨by decide, by decide⟩ rfl (fun h46c hp46 => ?_) (fun _ _ q => q.elim)
        obtain ⟨i46c, g46c, y46_0⟩ := hp46
        have f46c : mm_fr [(63, 4), (63, 5), (63, 6), (63, 7), (63, 8), (63, 9), (63, 10)] [64] h h46c := mm_fr_tr f2c g46c (by decide +kernel)
        have g11 : -2147483648 ≤ (h46c.1 63 5) ∧ (h46c.1 63 5) ≤ 2147483647 := i46c.1 63 5
        have g12 : 0 ≤ (h46c.1 63 7) ∧ (h46c.1 63 7) ≤ 500 := i46c.1 63 7
        refine mm_aload_n C (mm_dec dk_X7_readTest 25 rfl) rfl ?_
        refine mm_iload_n C (mm_dec dk_X7_readTest 26 rfl) rfl ?_
        refine mm_cVi (rest := []) C1 ev_X7_111 (mm_dec dk_X7_readTest 27 rfl) (c_X7_readSum_k2 x.2.1 hl (d - 1) (by omega) h46c i46c p1 ⟨by omega, by omega⟩ (by omega)) rfl rfl (Nat.le_of_ble_eq_true rfl) ⟨by decide, by decide⟩ rfl (fun r51 h51c hp51 => ?_) (fun _ _ q => q.elim)
        obtain ⟨b51, i51c, g51c, y51_0⟩ := hp51
        have f51c : mm_fr [(63, 4), (63, 5), (63, 6), (63, 7), (63, 8), (63, 9), (63, 10)] [64] h h51c := mm_fr_tr f46c g51c (by decide +kernel)
        have g14 : -2147483648 ≤ (h51c.1 63 5) ∧ (h51c.1 63 5) ≤ 2147483647 := i51c.1 63 5
        have g15 : 0 ≤ (h51c.1 63 7) ∧ (h51c.1 63 7) ≤ 500 := i51c.1 63 7
        refine mm_if_ne (tgt := 59) C (mm_dec dk_X7_readTest 28 rfl) (by decide) (fun c54 => ?_) (fun c54 => ?_)
        · skip
          refine mm_aload_n C (mm_dec dk_X7_readTest 31 rfl) rfl ?_
          refine mm_iload_n C (mm_dec dk_X7_readTest 32 rfl) rfl ?_
          refine mm_cVv (rest := []) C1 ev_X7_79 (mm_dec dk_X7_readTest 33 rfl) (c_X7_emit x.2.1 hl (d - 1) (by omega) h51c i51c s39_0) rfl rfl (Nat.le_of_ble_eq_true rfl) ⟨by decide, by decide⟩ rfl (fun h61c hp61 => ?_) (fun _ _ q => q.elim)
          obtain ⟨i61c, g61c⟩ := hp61
          have f61c : mm_fr [(63, 4), (63, 5), (63, 6), (63, 7), (63, 8), (63, 9), (63, 10)] [64] h h61c := mm_fr_tr f51c g61c (by decide +kernel)
          have q61c_17 : h61c.1 63 5 = h51c.1 63 5 := g61c.1 63 5 (by decide)
          have q61c_18 : h61c.1 63 7 = h51c.1 63 7 := g61c.1 63 7 (by decide)
          refine mm_fgt 0 ?_
          refine mm_fgt 1 ?_
          refine mm_fgt 2 ?_
          exact J64 h61c i61c f61c (by omega)
        · skip
          refine mm_iconst C (mm_dec dk_X7_readTest 29 rfl) ⟨by decide, by decide⟩ ?_
          exact mm_zret C T (mm_dec dk_X7_readTest 30 rfl) (by decide : 0 ≤ 0) (by decide : 0 ≤ 0) (by omega) ⟨_, rfl, ⟨⟨by omega, by omega⟩, i51c, f51c, by omega⟩⟩
    refine mm_if_eq (tgt := 24) C (mm_dec dk_X7_readTest 9 rfl) (by decide) (fun c16 => ?_) (fun c16 => ?_)
    · skip
      refine mm_aload_n C (mm_dec dk_X7_readTest 12 rfl) rfl ?_
      refine mm_bipush C (mm_dec dk_X7_readTest 13 rfl) ⟨by decide, by decide⟩ ?_
      refine mm_cVi (rest := []) C1 ev_X7_96 (mm_dec dk_X7_readTest 14 rfl) (c_X7_isSign x.2.1 hl (d - 1) (by omega) h2c i2c 61 (by omega)) rfl rfl (Nat.le_of_ble_eq_true rfl) ⟨by decide, by decide⟩ rfl (fun r27 h27c hp27 => ?_) (fun _ _ q => q.elim)
      obtain ⟨z27, y27⟩ := hp27
      rw [z27]
      refine mm_if_eq (tgt := 38) C (mm_dec dk_X7_readTest 15 rfl) (by decide) (fun c30 => ?_) (fun c30 => ?_)
      · skip
        refine mm_iconst C (mm_dec dk_X7_readTest 18 rfl) ⟨by decide, by decide⟩ ?_
        exact J39 (-1) ⟨by omega, by omega⟩ (Or.inl ⟨by omega, rfl⟩)
      · skip
        refine mm_ldc (z := 100014) C (mm_dec dk_X7_readTest 16 rfl) kc_X7_115 (by decide) ?_
        refine mm_goto (tgt := 39) C (mm_dec dk_X7_readTest 17 rfl) (by decide) ?_
        exact J39 100014 ⟨by omega, by omega⟩ (Or.inr (Or.inr (⟨by omega, rfl⟩)))
    · skip
      refine mm_ldc (z := 100013) C (mm_dec dk_X7_readTest 10 rfl) kc_X7_114 (by decide) ?_
      refine mm_goto (tgt := 39) C (mm_dec dk_X7_readTest 11 rfl) (by decide) ?_
      exact J39 100013 ⟨by omega, by omega⟩ (Or.inr (Or.inl ⟨by omega, rfl⟩))
  · skip
    refine mm_iconst C (mm_dec dk_X7_readTest 4 rfl) ⟨by decide, by decide⟩ ?_
    exact mm_zret C T (mm_dec dk_X7_readTest 5 rfl) (by decide : 0 ≤ 0) (by decide : 0 ≤ 0) (by omega) ⟨_, rfl, ⟨⟨by omega, by omega⟩, i2c, f2c, by omega⟩⟩
set_option maxRecDepth 100000 in
set_option maxHeartbeats 4000000 in
theorem c_X7_readNot_k2 (l : Launch) (hl : l.stackTraces = false) (d : Nat) (hd : 31 ≤ d) (h : mH) (i0 : mm_inv h) (p1 : Int) (bp1 : 2 ≤ p1 ∧ p1 ≤ 2) (t0 : (h.1 63 5 = 0 ∨ h.1 63 7 ≤ 499)) : mm_Met l d yX7_readNot cX7_readNot 4 (some .boolean) [mR 63, mI p1] h (mm_pi fun r h2 => (0 ≤ r ∧ r ≤ 1) ∧ mm_inv h2 ∧ mm_fr [(63, 4), (63, 5), (63, 6), (63, 7), (63, 8), (63, 9), (63, 10)] [64] h h2 ∧ (h2.1 63 5 = 0 ∨ h2.1 63 7 ≤ 499)) mm_nx 0 0 := by
  refine mm_ofW (ls := [mR 63, mI p1, mU, mU]) hl (by decide) rfl (Nat.le_of_ble_eq_true rfl) ?_
  intro x hxl C T hnm htb
  subst hxl
  have C1 := mm_OK_le (d' := d - 1 + 1) (by omega) C
  have C8 := mm_OK_le (d' := d - 8 + 8) (by omega) C
  refine mm_rng (fun hr _ => ?_)
  have ap1 : -2147483648 ≤ p1 ∧ p1 < 2147483648 := mm_ok_at hr (i := 1) rfl
  have f0 : mm_fr [(63, 4), (63, 5), (63, 6), (63, 7), (63, 8), (63, 9), (63, 10)] [64] h h := mm_fr_rf
  have g1 : -2147483648 ≤ h.1 63 5 ∧ h.1 63 5 ≤ 2147483647 := i0.1 63 5
  have g2 : 0 ≤ h.1 63 7 ∧ h.1 63 7 ≤ 500 := i0.1 63 7
  refine mm_iconst C (mm_dec dk_X7_readNot 0 rfl) ⟨by decide, by decide⟩ ?_
  have J2 : ∀ (n : Nat) (x2_2 : Int) (bx2_2 : 0 ≤ x2_2 ∧ x2_2 ≤ 7) (h2_ : mH) (i2_ : mm_inv h2_) (f2_ : mm_fr [(63, 4), (63, 5), (63, 6), (63, 7), (63, 8), (63, 9), (63, 10)] [64] h h2_) (w2_0 : (h2_.1 63 5 = 0 ∨ h2_.1 63 7 ≤ 499)), (7 - x2_2 : Int) < n → mm_W x 0 0 2 [mR 63, mI p1, mI x2_2, mU] [] h2_ := by
    intro n
    induction n with
    | zero =>
      intro x2_2 bx2_2 h2_ i2_ f2_ w2_0 hm
      have g3 : -2147483648 ≤ h2_.1 63 5 ∧ h2_.1 63 5 ≤ 2147483647 := i2_.1 63 5
      have g4 : 0 ≤ h2_.1 63 7 ∧ h2_.1 63 7 ≤ 500 := i2_.1 63 7
      exfalso; omega
    | succ n ih2 =>
      intro x2_2 bx2_2 h2_ i2_ f2_ w2_0 hm2
      have g5 : -2147483648 ≤ h2_.1 63 5 ∧ h2_.1 63 5 ≤ 2147483647 := i2_.1 63 5
      have g6 : 0 ≤ h2_.1 63 7 ∧ h2_.1 63 7 ≤ 500 := i2_.1 63 7
      refine mm_iload_n C (mm_dec dk_X7_readNot 2 rfl) rfl ?_
      refine mm_bipush C (mm_dec dk_X7_readNot 3 rfl) ⟨by decide, by decide⟩ ?_
      have J27 : mm_W x 0 0 27 [mR 63, mI p1, mI x2_2, mU] [] h2_ := by
        have g7 : -2147483648 ≤ h2_.1 63 5 ∧ h2_.1 63 5 ≤ 2147483647 := i2_.1 63 5
        have g8 : 0 ≤ h2_.1 63 7 ∧ h2_.1 63 7 ≤ 500 := i2_.1 63 7
        refine mm_iload_n C (mm_dec dk_X7_readNot 13 rfl) rfl ?_
        refine mm_bipush C (mm_dec dk_X7_readNot 14 rfl) ⟨by decide, by decide⟩ ?_
        have J48 : mm_W x 0 0 48 [mR 63, mI p1, mI x2_2, mU] [] h2_ := by
          have g9 : -2147483648 ≤ h2_.1 63 5 ∧ h2_.1 63 5 ≤ 2147483647 := i2_.1 63 5
          have g10 : 0 ≤ h2_.1 63 7 ∧ h2_.1 63 7 ≤ 500 := i2_.1 63 7
          refine mm_aload_n C (mm_dec dk_X7_readNot 24 rfl) rfl ?_
          refine mm_iload_n C (mm_dec dk_X7_readNot 25 rfl) rfl ?_
          refine mm_cVi (rest := []) C1 ev_X7_107 (mm_dec dk_X7_readNot 26 rfl) (c_X7_readTest_k2 x.2.1 hl (d - 1) (by omega) h2_ i2_ p1 ⟨by omega, by omega⟩ (by omega)) rfl rfl (Nat.le_of_ble_eq_true rfl) ⟨by decide, by decide⟩ rfl (fun r50 h50c hp50 => ?_) (fun _ _ q => q.elim)
          obtain ⟨b50, i50c, g50c, y50_0⟩ := hp50
          have f50c : mm_fr [(63, 4), (63, 5), (63, 6), (63, 7), (63, 8), (63, 9), (63, 10)] [64] h h50c := mm_fr_tr f2_ g50c (by decide +kernel)
          have g12 : -2147483648 ≤ (h50c.1 63 5) ∧ (h50c.1 63 5) ≤ 2147483647 := i50c.1 63 5
          have g13 : 0 ≤ (h50c.1 63 7) ∧ (h50c.1 63 7) ≤ 500 := i50c.1 63 7
          refine mm_if_ne (tgt := 58) C (mm_dec dk_X7_readNot 27 rfl) (by decide) (fun c53 => ?_) (fun c53 => ?_)
          · skip
            refine mm_iconst C (mm_dec dk_X7_readNot 30 rfl) ⟨by decide, by decide⟩ ?_
            have J60 : ∀ (n : Nat) (x60_3 : Int) (bx60_3 : 0 ≤ x60_3 ∧ x60_3 ≤ 7) (h60_ : mH) (i60_ : mm_inv h60_) (f60_ : mm_fr [(63, 4), (63, 5), (63, 6), (63, 7), (63, 8), (63, 9), (63, 10)] [64] h h60_) (w60_0 : (h60_.1 63 5 = 0 ∨ h60_.1 63 7 ≤ 499)), (7 - x60_3 : Int) < n → mm_W x 0 0 60 [mR 63, mU, mI x2_2, mI x60_3] [] h60_ := by
              intro n
              induction n with
              | zero =>
                intro x60_3 bx60_3 h60_ i60_ f60_ w60_0 hm
                have g14 : -2147483648 ≤ h60_.1 63 5 ∧ h60_.1 63 5 ≤ 2147483647 := i60_.1 63 5
                have g15 : 0 ≤ h60_.1 63 7 ∧ h60_.1 63 7 ≤ 500 := i60_.1 63 7
                exfalso; omega
              | succ n ih60 =>
                intro x60_3 bx60_3 h60_ i60_ f60_ w60_0 hm60
                have g16 : -2147483648 ≤ h60_.1 63 5 ∧ h60_.1 63 5 ≤ 2147483647 := i60_.1 63 5
                have g17 : 0 ≤ h60_.1 63 7 ∧ h60_.1 63 7 ≤ 500 := i60_.1 63 7
                refine mm_iload_n C (mm_dec dk_X7_readNot 32 rfl) rfl ?_
                refine mm_iload_n C (mm_dec dk_X7_readNot 33 rfl) rfl ?_
                refine mm_icmp_ge (tgt := 77) C (mm_dec dk_X7_readNot 34 rfl) (by decide) (fun c62 => ?_) (fun c62 => ?_)
                · skip
                  refine mm_iconst C (mm_dec dk_X7_readNot 40 rfl) ⟨by decide, by decide⟩ ?_
                  exact mm_zret C T (mm_dec dk_X7_readNot 41 rfl) (by decide : 0 ≤ 0) (by decide : 0 ≤ 0) (by omega) ⟨_, rfl, ⟨⟨by omega, by omega⟩, i60_, f60_, by omega⟩⟩
                · skip
                  refine mm_aload_n C (mm_dec dk_X7_readNot 35 rfl) rfl ?_
                  refine mm_ldc (z := 100010) C (mm_dec dk_X7_readNot 36 rfl) kc_X7_110 (by decide) ?_
                  refine mm_cVv (rest := []) C1 ev_X7_79 (mm_dec dk_X7_readNot 37 rfl) (c_X7_emit x.2.1 hl (d - 1) (by omega) h60_ i60_ 100010) rfl rfl (Nat.le_of_ble_eq_true rfl) ⟨by decide, by decide⟩ rfl (fun h68c hp68 => ?_) (fun _ _ q => q.elim)
                  obtain ⟨i68c, g68c⟩ := hp68
                  have f68c : mm_fr [(63, 4), (63, 5), (63, 6), (63, 7), (63, 8), (63, 9), (63, 10)] [64] h h68c := mm_fr_tr f60_ g68c (by decide +kernel)
                  have q68c_19 : h68c.1 63 5 = h60_.1 63 5 := g68c.1 63 5 (by decide)
                  have q68c_20 : h68c.1 63 7 = h60_.1 63 7 := g68c.1 63 7 (by decide)
                  refine mm_iincL (ls2 := [mR 63, mU, mI x2_2, mI (x60_3 + 1)]) C (mm_dec dk_X7_readNot 38 rfl) rfl (by decide) ⟨by omega, by omega⟩ rfl ?_
                  refine mm_goto (tgt := 60) C (mm_dec dk_X7_readNot 39 rfl) (by decide) ?_
                  exact ih60 (x60_3 + 1) ⟨by omega, by omega⟩ h68c i68c f68c (by omega) (by omega)
            refine mm_istore_nL (ls2 := [mR 63, mI p1, mI x2_2, mI 0]) C (mm_dec dk_X7_readNot 31 rfl) (by decide) rfl ?_
            refine mm_fgt 1 ?_
            exact J60 (((7 - 0) : Int) + 1).toNat 0 ⟨by omega, by omega⟩ h50c i50c f50c (by omega) (by omega)
          · skip
            refine mm_iconst C (mm_dec dk_X7_readNot 28 rfl) ⟨by decide, by decide⟩ ?_
            exact mm_zret C T (mm_dec dk_X7_readNot 29 rfl) (by decide : 0 ≤ 0) (by decide : 0 ≤ 0) (by omega) ⟨_, rfl, ⟨⟨by omega, by omega⟩, i50c, f50c, by omega⟩⟩
        refine mm_icmp_ne (tgt := 48) C (mm_dec dk_X7_readNot 15 rfl) (by decide) (fun c30 => ?_) (fun c30 => ?_)
        · skip
          exact J48
        · skip
          refine mm_aload_n C (mm_dec dk_X7_readNot 16 rfl) rfl ?_
          refine mm_geti C fl_X7_28 (mm_dec dk_X7_readNot 17 rfl) rfl rfl (Or.inl rfl) ?_
          have g21 : -2147483648 ≤ (h2_.1 63 6) ∧ (h2_.1 63 6) ≤ 2147483647 := i2_.1 63 6
          refine mm_bipush C (mm_dec dk_X7_readNot 18 rfl) ⟨by decide, by decide⟩ ?_
          refine mm_icmp_ne (tgt := 48) C (mm_dec dk_X7_readNot 19 rfl) (by decide) (fun c39 => ?_) (fun c39 => ?_)
          · skip
            exact J48
          · skip
            refine mm_aload_n C (mm_dec dk_X7_readNot 20 rfl) rfl ?_
            refine mm_iconst C (mm_dec dk_X7_readNot 21 rfl) ⟨by decide, by decide⟩ ?_
            refine mm_cVi (rest := []) C1 ev_X7_65 (mm_dec dk_X7_readNot 22 rfl) (c_X7_refuse x.2.1 hl (d - 1) (by omega) h2_ i2_ 2) rfl rfl (Nat.le_of_ble_eq_true rfl) ⟨by decide, by decide⟩ rfl (fun r44 h44c hp44 => ?_) (fun _ _ q => q.elim)
            obtain ⟨b44, i44c, g44c⟩ := hp44
            have f44c : mm_fr [(63, 4), (63, 5), (63, 6), (63, 7), (63, 8), (63, 9), (63, 10)] [64] h h44c := mm_fr_tr f2_ g44c (by decide +kernel)
            have q44c_23 : h44c.1 63 5 = h2_.1 63 5 := g44c.1 63 5 (by decide)
            have q44c_24 : h44c.1 63 6 = h2_.1 63 6 := g44c.1 63 6 (by decide)
            have q44c_25 : h44c.1 63 7 = h2_.1 63 7 := g44c.1 63 7 (by decide)
            exact mm_zret C T (mm_dec dk_X7_readNot 23 rfl) (by decide : 0 ≤ 0) (by decide : 0 ≤ 0) (by omega) ⟨_, rfl, ⟨⟨by omega, by omega⟩, i44c, f44c, by omega⟩⟩
      refine mm_icmp_ge (tgt := 27) C (mm_dec dk_X7_readNot 4 rfl) (by decide) (fun c5 => ?_) (fun c5 => ?_)
      · skip
        exact J27
      · skip
        refine mm_aload_n C (mm_dec dk_X7_readNot 5 rfl) rfl ?_
        refine mm_geti C fl_X7_28 (mm_dec dk_X7_readNot 6 rfl) rfl rfl (Or.inl rfl) ?_
        have g26 : -2147483648 ≤ (h2_.1 63 6) ∧ (h2_.1 63 6) ≤ 2147483647 := i2_.1 63 6
        refine mm_bipush C (mm_dec dk_X7_readNot 7 rfl) ⟨by decide, by decide⟩ ?_
        refine mm_icmp_ne (tgt := 27) C (mm_dec dk_X7_readNot 8 rfl) (by decide) (fun c14 => ?_) (fun c14 => ?_)
        · skip
          exact J27
        · skip
          refine mm_iincL (ls2 := [mR 63, mI p1, mI (x2_2 + 1), mU]) C (mm_dec dk_X7_readNot 9 rfl) rfl (by decide) ⟨by omega, by omega⟩ rfl ?_
          refine mm_aload_n C (mm_dec dk_X7_readNot 10 rfl) rfl ?_
          refine mm_cVv (rest := []) C1 ev_X7_52 (mm_dec dk_X7_readNot 11 rfl) (c_X7_step x.2.1 hl (d - 1) (by omega) h2_ i2_ ) rfl rfl (Nat.le_of_ble_eq_true rfl) ⟨by decide, by decide⟩ rfl (fun h21c hp21 => ?_) (fun _ _ q => q.elim)
          obtain ⟨i21c, g21c, y21_0⟩ := hp21
          have f21c : mm_fr [(63, 4), (63, 5), (63, 6), (63, 7), (63, 8), (63, 9), (63, 10)] [64] h h21c := mm_fr_tr f2_ g21c (by decide +kernel)
          have g28 : -2147483648 ≤ (h21c.1 63 5) ∧ (h21c.1 63 5) ≤ 2147483647 := i21c.1 63 5
          have g29 : 0 ≤ (h21c.1 63 7) ∧ (h21c.1 63 7) ≤ 500 := i21c.1 63 7
          refine mm_goto (tgt := 2) C (mm_dec dk_X7_readNot 12 rfl) (by decide) ?_
          exact ih2 (x2_2 + 1) ⟨by omega, by omega⟩ h21c i21c f21c (by omega) (by omega)
  refine mm_istore_nL (ls2 := [mR 63, mI p1, mI 0, mU]) C (mm_dec dk_X7_readNot 1 rfl) (by decide) rfl ?_
  exact J2 (((7 - 0) : Int) + 1).toNat 0 ⟨by omega, by omega⟩ h i0 f0 (by omega) (by omega)
set_option maxRecDepth 100000 in
set_option maxHeartbeats 4000000 in
theorem c_X7_readAnd_k2 (l : Launch) (hl : l.stackTraces = false) (d : Nat) (hd : 32 ≤ d) (h : mH) (i0 : mm_inv h) (p1 : Int) (bp1 : 2 ≤ p1 ∧ p1 ≤ 2) (t0 : (h.1 63 5 = 0 ∨ h.1 63 7 ≤ 499)) : mm_Met l d yX7_readAnd cX7_readAnd 3 (some .boolean) [mR 63, mI p1] h (mm_pi fun r h2 => (0 ≤ r ∧ r ≤ 1) ∧ mm_inv h2 ∧ mm_fr [(63, 4), (63, 5), (63, 6), (63, 7), (63, 8), (63, 9), (63, 10)] [64] h h2 ∧ (h2.1 63 5 = 0 ∨ h2.1 63 7 ≤ 499)) mm_nx 0 0 := by
  refine mm_ofW (ls := [mR 63, mI p1, mU]) hl (by decide) rfl (Nat.le_of_ble_eq_true rfl) ?_
  intro x hxl C T hnm htb
  subst hxl
  have C1 := mm_OK_le (d' := d - 1 + 1) (by omega) C
  have C8 := mm_OK_le (d' := d - 8 + 8) (by omega) C
  refine mm_rng (fun hr _ => ?_)
  have ap1 : -2147483648 ≤ p1 ∧ p1 < 2147483648 := mm_ok_at hr (i := 1) rfl
  have f0 : mm_fr [(63, 4), (63, 5), (63, 6), (63, 7), (63, 8), (63, 9), (63, 10)] [64] h h := mm_fr_rf
  have g1 : -2147483648 ≤ h.1 63 5 ∧ h.1 63 5 ≤ 2147483647 := i0.1 63 5
  have g2 : 0 ≤ h.1 63 7 ∧ h.1 63 7 ≤ 500 := i0.1 63 7
  refine mm_aload_n C (mm_dec dk_X7_readAnd 0 rfl) rfl ?_
  refine mm_iload_n C (mm_dec dk_X7_readAnd 1 rfl) rfl ?_
  refine mm_cVi (rest := []) C1 ev_X7_103 (mm_dec dk_X7_readAnd 2 rfl) (c_X7_readNot_k2 x.2.1 hl (d - 1) (by omega) h i0 p1 ⟨by omega, by omega⟩ (by omega)) rfl rfl (Nat.le_of_ble_eq_true rfl) ⟨by decide, by decide⟩ rfl (fun r2 h2c hp2 => ?_) (fun _ _ q => q.elim)
  obtain ⟨b2, i2c, g2c, y2_0⟩ := hp2
  have f2c : mm_fr [(63, 4), (63, 5), (63, 6), (63, 7), (63, 8), (63, 9), (63, 10)] [64] h h2c := mm_fr_tr f0 g2c (by decide +kernel)
  have g4 : -2147483648 ≤ (h2c.1 63 5) ∧ (h2c.1 63 5) ≤ 2147483647 := i2c.1 63 5
  have g5 : 0 ≤ (h2c.1 63 7) ∧ (h2c.1 63 7) ≤ 500 := i2c.1 63 7
  refine mm_if_ne (tgt := 10) C (mm_dec dk_X7_readAnd 3 rfl) (by decide) (fun c5 => ?_) (fun c5 => ?_)
  · skip
    refine mm_iconst C (mm_dec dk_X7_readAnd 6 rfl) ⟨by decide, by decide⟩ ?_
    have J12 : ∀ (n : Nat) (x12_2 : Int) (bx12_2 : 0 ≤ x12_2 ∧ x12_2 ≤ 500) (h12_ : mH) (i12_ : mm_inv h12_) (f12_ : mm_fr [(63, 4), (63, 5), (63, 6), (63, 7), (63, 8), (63, 9), (63, 10)] [64] h h12_) (w12_0 : (h12_.1 63 5 = 0 ∨ h12_.1 63 7 ≤ 499)), (500 - x12_2 : Int) < n → mm_W x 0 0 12 [mR 63, mI p1, mI x12_2] [] h12_ := by
      intro n
      induction n with
      | zero =>
        intro x12_2 bx12_2 h12_ i12_ f12_ w12_0 hm
        have g6 : -2147483648 ≤ h12_.1 63 5 ∧ h12_.1 63 5 ≤ 2147483647 := i12_.1 63 5
        have g7 : 0 ≤ h12_.1 63 7 ∧ h12_.1 63 7 ≤ 500 := i12_.1 63 7
        exfalso; omega
      | succ n ih12 =>
        intro x12_2 bx12_2 h12_ i12_ f12_ w12_0 hm12
        have g8 : -2147483648 ≤ h12_.1 63 5 ∧ h12_.1 63 5 ≤ 2147483647 := i12_.1 63 5
        have g9 : 0 ≤ h12_.1 63 7 ∧ h12_.1 63 7 ≤ 500 := i12_.1 63 7
        refine mm_iload_n C (mm_dec dk_X7_readAnd 8 rfl) rfl ?_
        refine mm_sipush C (mm_dec dk_X7_readAnd 9 rfl) ⟨by decide, by decide⟩ ?_
        have J53 : mm_W x 0 0 53 [mU, mU, mU] [] h12_ := by
          have g10 : -2147483648 ≤ h12_.1 63 5 ∧ h12_.1 63 5 ≤ 2147483647 := i12_.1 63 5
          have g11 : 0 ≤ h12_.1 63 7 ∧ h12_.1 63 7 ≤ 500 := i12_.1 63 7
          refine mm_iconst C (mm_dec dk_X7_readAnd 28 rfl) ⟨by decide, by decide⟩ ?_
          exact mm_zret C T (mm_dec dk_X7_readAnd 29 rfl) (by decide : 0 ≤ 0) (by decide : 0 ≤ 0) (by omega) ⟨_, rfl, ⟨⟨by omega, by omega⟩, i12_, f12_, by omega⟩⟩
        refine mm_icmp_ge (tgt := 53) C (mm_dec dk_X7_readAnd 10 rfl) (by decide) (fun c16 => ?_) (fun c16 => ?_)
        · skip
          refine mm_fgt 0 ?_
          refine mm_fgt 1 ?_
          refine mm_fgt 2 ?_
          exact J53
        · skip
          refine mm_aload_n C (mm_dec dk_X7_readAnd 11 rfl) rfl ?_
          refine mm_geti C fl_X7_28 (mm_dec dk_X7_readAnd 12 rfl) rfl rfl (Or.inl rfl) ?_
          have g12 : -2147483648 ≤ (h12_.1 63 6) ∧ (h12_.1 63 6) ≤ 2147483647 := i12_.1 63 6
          refine mm_iconst C (mm_dec dk_X7_readAnd 13 rfl) ⟨by decide, by decide⟩ ?_
          refine mm_icmp_ne (tgt := 53) C (mm_dec dk_X7_readAnd 14 rfl) (by decide) (fun c24 => ?_) (fun c24 => ?_)
          · skip
            refine mm_fgt 0 ?_
            refine mm_fgt 1 ?_
            refine mm_fgt 2 ?_
            exact J53
          · skip
            refine mm_aload_n C (mm_dec dk_X7_readAnd 15 rfl) rfl ?_
            refine mm_cVv (rest := []) C1 ev_X7_52 (mm_dec dk_X7_readAnd 16 rfl) (c_X7_step x.2.1 hl (d - 1) (by omega) h12_ i12_ ) rfl rfl (Nat.le_of_ble_eq_true rfl) ⟨by decide, by decide⟩ rfl (fun h28c hp28 => ?_) (fun _ _ q => q.elim)
            obtain ⟨i28c, g28c, y28_0⟩ := hp28
            have f28c : mm_fr [(63, 4), (63, 5), (63, 6), (63, 7), (63, 8), (63, 9), (63, 10)] [64] h h28c := mm_fr_tr f12_ g28c (by decide +kernel)
            have g14 : -2147483648 ≤ (h28c.1 63 5) ∧ (h28c.1 63 5) ≤ 2147483647 := i28c.1 63 5
            have g15 : 0 ≤ (h28c.1 63 7) ∧ (h28c.1 63 7) ≤ 500 := i28c.1 63 7
            refine mm_aload_n C (mm_dec dk_X7_readAnd 17 rfl) rfl ?_
            refine mm_iload_n C (mm_dec dk_X7_readAnd 18 rfl) rfl ?_
            refine mm_cVi (rest := []) C1 ev_X7_103 (mm_dec dk_X7_readAnd 19 rfl) (c_X7_readNot_k2 x.2.1 hl (d - 1) (by omega) h28c i28c p1 ⟨by omega, by omega⟩ (by omega)) rfl rfl (Nat.le_of_ble_eq_true rfl) ⟨by decide, by decide⟩ rfl (fun r33 h33c hp33 => ?_) (fun _ _ q => q.elim)
            obtain ⟨b33, i33c, g33c, y33_0⟩ := hp33
            have f33c : mm_fr [(63, 4), (63, 5), (63, 6), (63, 7), (63, 8), (63, 9), (63, 10)] [64] h h33c := mm_fr_tr f28c g33c (by decide +kernel)
            have g17 : -2147483648 ≤ (h33c.1 63 5) ∧ (h33c.1 63 5) ≤ 2147483647 := i33c.1 63 5
            have g18 : 0 ≤ (h33c.1 63 7) ∧ (h33c.1 63 7) ≤ 500 := i33c.1 63 7
            refine mm_if_ne (tgt := 41) C (mm_dec dk_X7_readAnd 20 rfl) (by decide) (fun c36 => ?_) (fun c36 => ?_)
            · skip
              refine mm_aload_n C (mm_dec dk_X7_readAnd 23 rfl) rfl ?_
              refine mm_ldc (z := 100012) C (mm_dec dk_X7_readAnd 24 rfl) kc_X7_106 (by decide) ?_
              refine mm_cVv (rest := []) C1 ev_X7_79 (mm_dec dk_X7_readAnd 25 rfl) (c_X7_emit x.2.1 hl (d - 1) (by omega) h33c i33c 100012) rfl rfl (Nat.le_of_ble_eq_true rfl) ⟨by decide, by decide⟩ rfl (fun h44c hp44 => ?_) (fun _ _ q => q.elim)
              obtain ⟨i44c, g44c⟩ := hp44
              have f44c : mm_fr [(63, 4), (63, 5), (63, 6), (63, 7), (63, 8), (63, 9), (63, 10)] [64] h h44c := mm_fr_tr f33c g44c (by decide +kernel)
              have q44c_20 : h44c.1 63 5 = h33c.1 63 5 := g44c.1 63 5 (by decide)
              have q44c_21 : h44c.1 63 7 = h33c.1 63 7 := g44c.1 63 7 (by decide)
              refine mm_iincL (ls2 := [mR 63, mI p1, mI (x12_2 + 1)]) C (mm_dec dk_X7_readAnd 26 rfl) rfl (by decide) ⟨by omega, by omega⟩ rfl ?_
              refine mm_goto (tgt := 12) C (mm_dec dk_X7_readAnd 27 rfl) (by decide) ?_
              exact ih12 (x12_2 + 1) ⟨by omega, by omega⟩ h44c i44c f44c (by omega) (by omega)
            · skip
              refine mm_iconst C (mm_dec dk_X7_readAnd 21 rfl) ⟨by decide, by decide⟩ ?_
              exact mm_zret C T (mm_dec dk_X7_readAnd 22 rfl) (by decide : 0 ≤ 0) (by decide : 0 ≤ 0) (by omega) ⟨_, rfl, ⟨⟨by omega, by omega⟩, i33c, f33c, by omega⟩⟩
    refine mm_istore_nL (ls2 := [mR 63, mI p1, mI 0]) C (mm_dec dk_X7_readAnd 7 rfl) (by decide) rfl ?_
    exact J12 (((500 - 0) : Int) + 1).toNat 0 ⟨by omega, by omega⟩ h2c i2c f2c (by omega) (by omega)
  · skip
    refine mm_iconst C (mm_dec dk_X7_readAnd 4 rfl) ⟨by decide, by decide⟩ ?_
    exact mm_zret C T (mm_dec dk_X7_readAnd 5 rfl) (by decide : 0 ≤ 0) (by decide : 0 ≤ 0) (by omega) ⟨_, rfl, ⟨⟨by omega, by omega⟩, i2c, f2c, by omega⟩⟩
set_option maxRecDepth 100000 in
set_option maxHeartbeats 4000000 in
theorem c_X7_readOr_k2 (l : Launch) (hl : l.stackTraces = false) (d : Nat) (hd : 33 ≤ d) (h : mH) (i0 : mm_inv h) (p1 : Int) (bp1 : 2 ≤ p1 ∧ p1 ≤ 2) (t0 : (h.1 63 5 = 0 ∨ h.1 63 7 ≤ 499)) : mm_Met l d yX7_readOr cX7_readOr 3 (some .boolean) [mR 63, mI p1] h (mm_pi fun r h2 => (0 ≤ r ∧ r ≤ 1) ∧ mm_inv h2 ∧ mm_fr [(63, 4), (63, 5), (63, 6), (63, 7), (63, 8), (63, 9), (63, 10)] [64] h h2 ∧ (h2.1 63 5 = 0 ∨ h2.1 63 7 ≤ 499)) mm_nx 0 0 := by
  refine mm_ofW (ls := [mR 63, mI p1, mU]) hl (by decide) rfl (Nat.le_of_ble_eq_true rfl) ?_
  intro x hxl C T hnm htb
  subst hxl
  have C1 := mm_OK_le (d' := d - 1 + 1) (by omega) C
  have C8 := mm_OK_le (d' := d - 8 + 8) (by omega) C
  refine mm_rng (fun hr _ => ?_)
  have ap1 : -2147483648 ≤ p1 ∧ p1 < 2147483648 := mm_ok_at hr (i := 1) rfl
  have f0 : mm_fr [(63, 4), (63, 5), (63, 6), (63, 7), (63, 8), (63, 9), (63, 10)] [64] h h := mm_fr_rf
  have g1 : -2147483648 ≤ h.1 63 5 ∧ h.1 63 5 ≤ 2147483647 := i0.1 63 5
  have g2 : 0 ≤ h.1 63 7 ∧ h.1 63 7 ≤ 500 := i0.1 63 7
  refine mm_iload_n C (mm_dec dk_X7_readOr 0 rfl) rfl ?_
  refine mm_bipush C (mm_dec dk_X7_readOr 1 rfl) ⟨by decide, by decide⟩ ?_
  refine mm_icmp_lt (tgt := 41) C (mm_dec dk_X7_readOr 2 rfl) (by decide) (fun c3 => ?_) (fun c3 => ?_)
  · skip
    refine mm_aload_n C (mm_dec dk_X7_readOr 21 rfl) rfl ?_
    refine mm_iload_n C (mm_dec dk_X7_readOr 22 rfl) rfl ?_
    refine mm_cVi (rest := []) C1 ev_X7_99 (mm_dec dk_X7_readOr 23 rfl) (c_X7_readAnd_k2 x.2.1 hl (d - 1) (by omega) h i0 p1 ⟨by omega, by omega⟩ (by omega)) rfl rfl (Nat.le_of_ble_eq_true rfl) ⟨by decide, by decide⟩ rfl (fun r43 h43c hp43 => ?_) (fun _ _ q => q.elim)
    obtain ⟨b43, i43c, g43c, y43_0⟩ := hp43
    have f43c : mm_fr [(63, 4), (63, 5), (63, 6), (63, 7), (63, 8), (63, 9), (63, 10)] [64] h h43c := mm_fr_tr f0 g43c (by decide +kernel)
    have g4 : -2147483648 ≤ (h43c.1 63 5) ∧ (h43c.1 63 5) ≤ 2147483647 := i43c.1 63 5
    have g5 : 0 ≤ (h43c.1 63 7) ∧ (h43c.1 63 7) ≤ 500 := i43c.1 63 7
    refine mm_if_ne (tgt := 51) C (mm_dec dk_X7_readOr 24 rfl) (by decide) (fun c46 => ?_) (fun c46 => ?_)
    · skip
      refine mm_iconst C (mm_dec dk_X7_readOr 27 rfl) ⟨by decide, by decide⟩ ?_
      have J53 : ∀ (n : Nat) (x53_2 : Int) (bx53_2 : 0 ≤ x53_2 ∧ x53_2 ≤ 500) (h53_ : mH) (i53_ : mm_inv h53_) (f53_ : mm_fr [(63, 4), (63, 5), (63, 6), (63, 7), (63, 8), (63, 9), (63, 10)] [64] h h53_) (w53_0 : (h53_.1 63 5 = 0 ∨ h53_.1 63 7 ≤ 499)), (500 - x53_2 : Int) < n → mm_W x 0 0 53 [mR 63, mI p1, mI x53_2] [] h53_ := by
        intro n
        induction n with
        | zero =>
          intro x53_2 bx53_2 h53_ i53_ f53_ w53_0 hm
          have g6 : -2147483648 ≤ h53_.1 63 5 ∧ h53_.1 63 5 ≤ 2147483647 := i53_.1 63 5
          have g7 : 0 ≤ h53_.1 63 7 ∧ h53_.1 63 7 ≤ 500 := i53_.1 63 7
          exfalso; omega
        | succ n ih53 =>
          intro x53_2 bx53_2 h53_ i53_ f53_ w53_0 hm53
          have g8 : -2147483648 ≤ h53_.1 63 5 ∧ h53_.1 63 5 ≤ 2147483647 := i53_.1 63 5
          have g9 : 0 ≤ h53_.1 63 7 ∧ h53_.1 63 7 ≤ 500 := i53_.1 63 7
          refine mm_iload_n C (mm_dec dk_X7_readOr 29 rfl) rfl ?_
          refine mm_sipush C (mm_dec dk_X7_readOr 30 rfl) ⟨by decide, by decide⟩ ?_
          have J94 : mm_W x 0 0 94 [mU, mU, mU] [] h53_ := by
            have g10 : -2147483648 ≤ h53_.1 63 5 ∧ h53_.1 63 5 ≤ 2147483647 := i53_.1 63 5
            have g11 : 0 ≤ h53_.1 63 7 ∧ h53_.1 63 7 ≤ 500 := i53_.1 63 7
            refine mm_iconst C (mm_dec dk_X7_readOr 49 rfl) ⟨by decide, by decide⟩ ?_
            exact mm_zret C T (mm_dec dk_X7_readOr 50 rfl) (by decide : 0 ≤ 0) (by decide : 0 ≤ 0) (by omega) ⟨_, rfl, ⟨⟨by omega, by omega⟩, i53_, f53_, by omega⟩⟩
          refine mm_icmp_ge (tgt := 94) C (mm_dec dk_X7_readOr 31 rfl) (by decide) (fun c57 => ?_) (fun c57 => ?_)
          · skip
            refine mm_fgt 0 ?_
            refine mm_fgt 1 ?_
            refine mm_fgt 2 ?_
            exact J94
          · skip
            refine mm_aload_n C (mm_dec dk_X7_readOr 32 rfl) rfl ?_
            refine mm_geti C fl_X7_28 (mm_dec dk_X7_readOr 33 rfl) rfl rfl (Or.inl rfl) ?_
            have g12 : -2147483648 ≤ (h53_.1 63 6) ∧ (h53_.1 63 6) ≤ 2147483647 := i53_.1 63 6
            refine mm_iconst C (mm_dec dk_X7_readOr 34 rfl) ⟨by decide, by decide⟩ ?_
            refine mm_icmp_ne (tgt := 94) C (mm_dec dk_X7_readOr 35 rfl) (by decide) (fun c65 => ?_) (fun c65 => ?_)
            · skip
              refine mm_fgt 0 ?_
              refine mm_fgt 1 ?_
              refine mm_fgt 2 ?_
              exact J94
            · skip
              refine mm_aload_n C (mm_dec dk_X7_readOr 36 rfl) rfl ?_
              refine mm_cVv (rest := []) C1 ev_X7_52 (mm_dec dk_X7_readOr 37 rfl) (c_X7_step x.2.1 hl (d - 1) (by omega) h53_ i53_ ) rfl rfl (Nat.le_of_ble_eq_true rfl) ⟨by decide, by decide⟩ rfl (fun h69c hp69 => ?_) (fun _ _ q => q.elim)
              obtain ⟨i69c, g69c, y69_0⟩ := hp69
              have f69c : mm_fr [(63, 4), (63, 5), (63, 6), (63, 7), (63, 8), (63, 9), (63, 10)] [64] h h69c := mm_fr_tr f53_ g69c (by decide +kernel)
              have g14 : -2147483648 ≤ (h69c.1 63 5) ∧ (h69c.1 63 5) ≤ 2147483647 := i69c.1 63 5
              have g15 : 0 ≤ (h69c.1 63 7) ∧ (h69c.1 63 7) ≤ 500 := i69c.1 63 7
              refine mm_aload_n C (mm_dec dk_X7_readOr 38 rfl) rfl ?_
              refine mm_iload_n C (mm_dec dk_X7_readOr 39 rfl) rfl ?_
              refine mm_cVi (rest := []) C1 ev_X7_99 (mm_dec dk_X7_readOr 40 rfl) (c_X7_readAnd_k2 x.2.1 hl (d - 1) (by omega) h69c i69c p1 ⟨by omega, by omega⟩ (by omega)) rfl rfl (Nat.le_of_ble_eq_true rfl) ⟨by decide, by decide⟩ rfl (fun r74 h74c hp74 => ?_) (fun _ _ q => q.elim)
              obtain ⟨b74, i74c, g74c, y74_0⟩ := hp74
              have f74c : mm_fr [(63, 4), (63, 5), (63, 6), (63, 7), (63, 8), (63, 9), (63, 10)] [64] h h74c := mm_fr_tr f69c g74c (by decide +kernel)
              have g17 : -2147483648 ≤ (h74c.1 63 5) ∧ (h74c.1 63 5) ≤ 2147483647 := i74c.1 63 5
              have g18 : 0 ≤ (h74c.1 63 7) ∧ (h74c.1 63 7) ≤ 500 := i74c.1 63 7
              refine mm_if_ne (tgt := 82) C (mm_dec dk_X7_readOr 41 rfl) (by decide) (fun c77 => ?_) (fun c77 => ?_)
              · skip
                refine mm_aload_n C (mm_dec dk_X7_readOr 44 rfl) rfl ?_
                refine mm_ldc (z := 100011) C (mm_dec dk_X7_readOr 45 rfl) kc_X7_102 (by decide) ?_
                refine mm_cVv (rest := []) C1 ev_X7_79 (mm_dec dk_X7_readOr 46 rfl) (c_X7_emit x.2.1 hl (d - 1) (by omega) h74c i74c 100011) rfl rfl (Nat.le_of_ble_eq_true rfl) ⟨by decide, by decide⟩ rfl (fun h85c hp85 => ?_) (fun _ _ q => q.elim)
                obtain ⟨i85c, g85c⟩ := hp85
                have f85c : mm_fr [(63, 4), (63, 5), (63, 6), (63, 7), (63, 8), (63, 9), (63, 10)] [64] h h85c := mm_fr_tr f74c g85c (by decide +kernel)
                have q85c_20 : h85c.1 63 5 = h74c.1 63 5 := g85c.1 63 5 (by decide)
                have q85c_21 : h85c.1 63 7 = h74c.1 63 7 := g85c.1 63 7 (by decide)
                refine mm_iincL (ls2 := [mR 63, mI p1, mI (x53_2 + 1)]) C (mm_dec dk_X7_readOr 47 rfl) rfl (by decide) ⟨by omega, by omega⟩ rfl ?_
                refine mm_goto (tgt := 53) C (mm_dec dk_X7_readOr 48 rfl) (by decide) ?_
                exact ih53 (x53_2 + 1) ⟨by omega, by omega⟩ h85c i85c f85c (by omega) (by omega)
              · skip
                refine mm_iconst C (mm_dec dk_X7_readOr 42 rfl) ⟨by decide, by decide⟩ ?_
                exact mm_zret C T (mm_dec dk_X7_readOr 43 rfl) (by decide : 0 ≤ 0) (by decide : 0 ≤ 0) (by omega) ⟨_, rfl, ⟨⟨by omega, by omega⟩, i74c, f74c, by omega⟩⟩
      refine mm_istore_nL (ls2 := [mR 63, mI p1, mI 0]) C (mm_dec dk_X7_readOr 28 rfl) (by decide) rfl ?_
      exact J53 (((500 - 0) : Int) + 1).toNat 0 ⟨by omega, by omega⟩ h43c i43c f43c (by omega) (by omega)
    · skip
      refine mm_iconst C (mm_dec dk_X7_readOr 25 rfl) ⟨by decide, by decide⟩ ?_
      exact mm_zret C T (mm_dec dk_X7_readOr 26 rfl) (by decide : 0 ≤ 0) (by decide : 0 ≤ 0) (by omega) ⟨_, rfl, ⟨⟨by omega, by omega⟩, i43c, f43c, by omega⟩⟩
  · skip
    exfalso; omega
set_option maxRecDepth 100000 in
set_option maxHeartbeats 4000000 in
theorem c_X7_readPart_k1 (l : Launch) (hl : l.stackTraces = false) (d : Nat) (hd : 34 ≤ d) (h : mH) (i0 : mm_inv h) (p1 : Int) (bp1 : 1 ≤ p1 ∧ p1 ≤ 1) (t0 : (h.1 63 5 = 0 ∨ h.1 63 7 ≤ 499)) : mm_Met l d yX7_readPart cX7_readPart 2 (some .boolean) [mR 63, mI p1] h (mm_pi fun r h2 => (0 ≤ r ∧ r ≤ 1) ∧ mm_inv h2 ∧ mm_fr [(63, 4), (63, 5), (63, 6), (63, 7), (63, 8), (63, 9), (63, 10)] [64] h h2 ∧ (h2.1 63 5 = 0 ∨ h2.1 63 7 ≤ 499)) mm_nx 0 0 := by
  refine mm_ofW (ls := [mR 63, mI p1]) hl (by decide) rfl (Nat.le_of_ble_eq_true rfl) ?_
  intro x hxl C T hnm htb
  subst hxl
  have C1 := mm_OK_le (d' := d - 1 + 1) (by omega) C
  have C8 := mm_OK_le (d' := d - 8 + 8) (by omega) C
  refine mm_rng (fun hr _ => ?_)
  have ap1 : -2147483648 ≤ p1 ∧ p1 < 2147483648 := mm_ok_at hr (i := 1) rfl
  have f0 : mm_fr [(63, 4), (63, 5), (63, 6), (63, 7), (63, 8), (63, 9), (63, 10)] [64] h h := mm_fr_rf
  have g1 : -2147483648 ≤ h.1 63 5 ∧ h.1 63 5 ≤ 2147483647 := i0.1 63 5
  have g2 : 0 ≤ h.1 63 7 ∧ h.1 63 7 ≤ 500 := i0.1 63 7
  refine mm_aload_n C (mm_dec dk_X7_readPart 0 rfl) rfl ?_
  refine mm_bipush C (mm_dec dk_X7_readPart 1 rfl) ⟨by decide, by decide⟩ ?_
  refine mm_cVi (rest := []) C1 ev_X7_96 (mm_dec dk_X7_readPart 2 rfl) (c_X7_isSign x.2.1 hl (d - 1) (by omega) h i0 40 (by omega)) rfl rfl (Nat.le_of_ble_eq_true rfl) ⟨by decide, by decide⟩ rfl (fun r3 h3c hp3 => ?_) (fun _ _ q => q.elim)
  obtain ⟨z3, y3⟩ := hp3
  rw [z3]
  have g4 : -2147483648 ≤ (h.2.1 62 (h.1 63 7)) ∧ (h.2.1 62 (h.1 63 7)) ≤ 2147483647 := i0.2.1 62 (h.1 63 7)
  refine mm_if_eq (tgt := 38) C (mm_dec dk_X7_readPart 3 rfl) (by decide) (fun c6 => ?_) (fun c6 => ?_)
  · skip
    refine mm_aload_n C (mm_dec dk_X7_readPart 20 rfl) rfl ?_
    refine mm_geti C fl_X7_25 (mm_dec dk_X7_readPart 21 rfl) rfl rfl (Or.inl rfl) ?_
    refine mm_iconst C (mm_dec dk_X7_readPart 22 rfl) ⟨by decide, by decide⟩ ?_
    have J117 : ∀ (h117_ : mH) (i117_ : mm_inv h117_) (f117_ : mm_fr [(63, 4), (63, 5), (63, 6), (63, 7), (63, 8), (63, 9), (63, 10)] [64] h h117_) (w117_0 : (h117_.1 63 5 = 0 ∨ h117_.1 63 7 ≤ 499)), mm_W x 0 0 117 [mR 63, mU] [] h117_ := by
      intro h117_ i117_ f117_ w117_0
      have g5 : -2147483648 ≤ h117_.1 63 5 ∧ h117_.1 63 5 ≤ 2147483647 := i117_.1 63 5
      have g6 : 0 ≤ h117_.1 63 7 ∧ h117_.1 63 7 ≤ 500 := i117_.1 63 7
      refine mm_aload_n C (mm_dec dk_X7_readPart 61 rfl) rfl ?_
      refine mm_cVv (rest := []) C1 ev_X7_52 (mm_dec dk_X7_readPart 62 rfl) (c_X7_step x.2.1 hl (d - 1) (by omega) h117_ i117_ ) rfl rfl (Nat.le_of_ble_eq_true rfl) ⟨by decide, by decide⟩ rfl (fun h118c hp118 => ?_) (fun _ _ q => q.elim)
      obtain ⟨i118c, g118c, y118_0⟩ := hp118
      have f118c : mm_fr [(63, 4), (63, 5), (63, 6), (63, 7), (63, 8), (63, 9), (63, 10)] [64] h h118c := mm_fr_tr f117_ g118c (by decide +kernel)
      have g8 : -2147483648 ≤ (h118c.1 63 5) ∧ (h118c.1 63 5) ≤ 2147483647 := i118c.1 63 5
      have g9 : 0 ≤ (h118c.1 63 7) ∧ (h118c.1 63 7) ≤ 500 := i118c.1 63 7
      refine mm_iconst C (mm_dec dk_X7_readPart 63 rfl) ⟨by decide, by decide⟩ ?_
      exact mm_zret C T (mm_dec dk_X7_readPart 64 rfl) (by decide : 0 ≤ 0) (by decide : 0 ≤ 0) (by omega) ⟨_, rfl, ⟨⟨by omega, by omega⟩, i118c, f118c, by omega⟩⟩
    refine mm_icmp_ne (tgt := 100) C (mm_dec dk_X7_readPart 23 rfl) (by decide) (fun c43 => ?_) (fun c43 => ?_)
    · skip
      refine mm_aload_n C (mm_dec dk_X7_readPart 52 rfl) rfl ?_
      refine mm_cVi (rest := []) C1 ev_X7_89 (mm_dec dk_X7_readPart 53 rfl) (c_X7_isNumber x.2.1 hl (d - 1) (by omega) h i0 ) rfl rfl (Nat.le_of_ble_eq_true rfl) ⟨by decide, by decide⟩ rfl (fun r101 h101c hp101 => ?_) (fun _ _ q => q.elim)
      obtain ⟨b101, i101c, g101c⟩ := hp101
      have f101c : mm_fr [(63, 4), (63, 5), (63, 6), (63, 7), (63, 8), (63, 9), (63, 10)] [64] h h101c := mm_fr_tr f0 g101c (by decide +kernel)
      have q101c_11 : h101c.1 63 5 = h.1 63 5 := g101c.1 63 5 (by decide)
      have q101c_12 : h101c.1 63 7 = h.1 63 7 := g101c.1 63 7 (by decide)
      refine mm_if_ne (tgt := 109) C (mm_dec dk_X7_readPart 54 rfl) (by decide) (fun c104 => ?_) (fun c104 => ?_)
      · skip
        refine mm_aload_n C (mm_dec dk_X7_readPart 57 rfl) rfl ?_
        refine mm_aload_n C (mm_dec dk_X7_readPart 58 rfl) rfl ?_
        refine mm_cVi (rest := [mR 63]) C1 ev_X7_92 (mm_dec dk_X7_readPart 59 rfl) (c_X7_numberOfToken x.2.1 hl (d - 1) (by omega) h101c i101c ) rfl rfl (Nat.le_of_ble_eq_true rfl) ⟨by decide, by decide⟩ rfl (fun r111 h111c hp111 => ?_) (fun _ _ q => q.elim)
        obtain ⟨b111, z111⟩ := hp111
        rw [z111]
        refine mm_cVv (rest := []) C1 ev_X7_79 (mm_dec dk_X7_readPart 60 rfl) (c_X7_emit x.2.1 hl (d - 1) (by omega) h101c i101c r111) rfl rfl (Nat.le_of_ble_eq_true rfl) ⟨by decide, by decide⟩ rfl (fun h114c hp114 => ?_) (fun _ _ q => q.elim)
        obtain ⟨i114c, g114c⟩ := hp114
        have f114c : mm_fr [(63, 4), (63, 5), (63, 6), (63, 7), (63, 8), (63, 9), (63, 10)] [64] h h114c := mm_fr_tr f101c g114c (by decide +kernel)
        have q114c_15 : h114c.1 63 5 = h101c.1 63 5 := g114c.1 63 5 (by decide)
        have q114c_16 : h114c.1 63 7 = h101c.1 63 7 := g114c.1 63 7 (by decide)
        refine mm_fgt 1 ?_
        exact J117 h114c i114c f114c (by omega)
      · skip
        refine mm_iconst C (mm_dec dk_X7_readPart 55 rfl) ⟨by decide, by decide⟩ ?_
        exact mm_zret C T (mm_dec dk_X7_readPart 56 rfl) (by decide : 0 ≤ 0) (by decide : 0 ≤ 0) (by omega) ⟨_, rfl, ⟨⟨by omega, by omega⟩, i101c, f101c, by omega⟩⟩
    · skip
      refine mm_aload_n C (mm_dec dk_X7_readPart 24 rfl) rfl ?_
      refine mm_geti C fl_X7_28 (mm_dec dk_X7_readPart 25 rfl) rfl rfl (Or.inl rfl) ?_
      have g17 : -2147483648 ≤ (h.1 63 6) ∧ (h.1 63 6) ≤ 2147483647 := i0.1 63 6
      refine mm_bipush C (mm_dec dk_X7_readPart 26 rfl) ⟨by decide, by decide⟩ ?_
      refine mm_icmp_ge (tgt := 61) C (mm_dec dk_X7_readPart 27 rfl) (by decide) (fun c52 => ?_) (fun c52 => ?_)
      · skip
        refine mm_aload_n C (mm_dec dk_X7_readPart 32 rfl) rfl ?_
        refine mm_aload_n C (mm_dec dk_X7_readPart 33 rfl) rfl ?_
        refine mm_geti C fl_X7_28 (mm_dec dk_X7_readPart 34 rfl) rfl rfl (Or.inl rfl) ?_
        refine mm_bipush C (mm_dec dk_X7_readPart 35 rfl) ⟨by decide, by decide⟩ ?_
        have J94 : ∀ (s94_1 : Int) (bs94_1 : -2147483648 ≤ s94_1 ∧ s94_1 ≤ 2147483647), mm_W x 0 0 94 [mR 63, mU] [mI s94_1, mR 63] h := by
          intro s94_1 bs94_1
          have g18 : -2147483648 ≤ h.1 63 5 ∧ h.1 63 5 ≤ 2147483647 := i0.1 63 5
          have g19 : 0 ≤ h.1 63 7 ∧ h.1 63 7 ≤ 500 := i0.1 63 7
          refine mm_cVv (rest := []) C1 ev_X7_79 (mm_dec dk_X7_readPart 50 rfl) (c_X7_emit x.2.1 hl (d - 1) (by omega) h i0 s94_1) rfl rfl (Nat.le_of_ble_eq_true rfl) ⟨by decide, by decide⟩ rfl (fun h94c hp94 => ?_) (fun _ _ q => q.elim)
          obtain ⟨i94c, g94c⟩ := hp94
          have f94c : mm_fr [(63, 4), (63, 5), (63, 6), (63, 7), (63, 8), (63, 9), (63, 10)] [64] h h94c := mm_fr_tr f0 g94c (by decide +kernel)
          have q94c_21 : h94c.1 63 5 = h.1 63 5 := g94c.1 63 5 (by decide)
          have q94c_22 : h94c.1 63 6 = h.1 63 6 := g94c.1 63 6 (by decide)
          have q94c_23 : h94c.1 63 7 = h.1 63 7 := g94c.1 63 7 (by decide)
          refine mm_goto (tgt := 117) C (mm_dec dk_X7_readPart 51 rfl) (by decide) ?_
          exact J117 h94c i94c f94c (by omega)
        refine mm_icmp_ge (tgt := 84) C (mm_dec dk_X7_readPart 36 rfl) (by decide) (fun c68 => ?_) (fun c68 => ?_)
        · skip
          refine mm_ldc (z := 100000) C (mm_dec dk_X7_readPart 44 rfl) kc_X7_127 (by decide) ?_
          refine mm_aload_n C (mm_dec dk_X7_readPart 45 rfl) rfl ?_
          refine mm_geti C fl_X7_28 (mm_dec dk_X7_readPart 46 rfl) rfl rfl (Or.inl rfl) ?_
          refine mm_iaddw C (mm_dec dk_X7_readPart 47 rfl) ?_
          have g24 : -2147483648 ≤ (mm_w (100000 + (h.1 63 6))) ∧ (mm_w (100000 + (h.1 63 6))) < 2147483648 := mm_w_rg _
          refine mm_bipush C (mm_dec dk_X7_readPart 48 rfl) ⟨by decide, by decide⟩ ?_
          refine mm_isubw C (mm_dec dk_X7_readPart 49 rfl) ?_
          have g25 : -2147483648 ≤ (mm_w ((mm_w (100000 + (h.1 63 6))) - 10)) ∧ (mm_w ((mm_w (100000 + (h.1 63 6))) - 10)) < 2147483648 := mm_w_rg _
          refine mm_fgt 1 ?_
          exact J94 (mm_w ((mm_w (100000 + (h.1 63 6))) - 10)) ⟨by omega, by omega⟩
        · skip
          refine mm_ldc (z := 100007) C (mm_dec dk_X7_readPart 37 rfl) kc_X7_126 (by decide) ?_
          refine mm_aload_n C (mm_dec dk_X7_readPart 38 rfl) rfl ?_
          refine mm_geti C fl_X7_28 (mm_dec dk_X7_readPart 39 rfl) rfl rfl (Or.inl rfl) ?_
          refine mm_iadd C (mm_dec dk_X7_readPart 40 rfl) ⟨by omega, by omega⟩ ?_
          refine mm_bipush C (mm_dec dk_X7_readPart 41 rfl) ⟨by decide, by decide⟩ ?_
          refine mm_isub C (mm_dec dk_X7_readPart 42 rfl) ⟨by omega, by omega⟩ ?_
          refine mm_goto (tgt := 94) C (mm_dec dk_X7_readPart 43 rfl) (by decide) ?_
          refine mm_fgt 1 ?_
          exact J94 ((100007 + (h.1 63 6)) - 7) ⟨by omega, by omega⟩
      · skip
        refine mm_aload_n C (mm_dec dk_X7_readPart 28 rfl) rfl ?_
        refine mm_iconst C (mm_dec dk_X7_readPart 29 rfl) ⟨by decide, by decide⟩ ?_
        refine mm_cVi (rest := []) C1 ev_X7_65 (mm_dec dk_X7_readPart 30 rfl) (c_X7_refuse x.2.1 hl (d - 1) (by omega) h i0 3) rfl rfl (Nat.le_of_ble_eq_true rfl) ⟨by decide, by decide⟩ rfl (fun r57 h57c hp57 => ?_) (fun _ _ q => q.elim)
        obtain ⟨b57, i57c, g57c⟩ := hp57
        have f57c : mm_fr [(63, 4), (63, 5), (63, 6), (63, 7), (63, 8), (63, 9), (63, 10)] [64] h h57c := mm_fr_tr f0 g57c (by decide +kernel)
        have q57c_27 : h57c.1 63 5 = h.1 63 5 := g57c.1 63 5 (by decide)
        have q57c_28 : h57c.1 63 6 = h.1 63 6 := g57c.1 63 6 (by decide)
        have q57c_29 : h57c.1 63 7 = h.1 63 7 := g57c.1 63 7 (by decide)
        exact mm_zret C T (mm_dec dk_X7_readPart 31 rfl) (by decide : 0 ≤ 0) (by decide : 0 ≤ 0) (by omega) ⟨_, rfl, ⟨⟨by omega, by omega⟩, i57c, f57c, by omega⟩⟩
  · skip
    refine mm_aload_n C (mm_dec dk_X7_readPart 4 rfl) rfl ?_
    refine mm_cVv (rest := []) C1 ev_X7_52 (mm_dec dk_X7_readPart 5 rfl) (c_X7_step x.2.1 hl (d - 1) (by omega) h i0 ) rfl rfl (Nat.le_of_ble_eq_true rfl) ⟨by decide, by decide⟩ rfl (fun h10c hp10 => ?_) (fun _ _ q => q.elim)
    obtain ⟨i10c, g10c, y10_0⟩ := hp10
    have f10c : mm_fr [(63, 4), (63, 5), (63, 6), (63, 7), (63, 8), (63, 9), (63, 10)] [64] h h10c := mm_fr_tr f0 g10c (by decide +kernel)
    have g31 : -2147483648 ≤ (h10c.1 63 5) ∧ (h10c.1 63 5) ≤ 2147483647 := i10c.1 63 5
    have g32 : 0 ≤ (h10c.1 63 7) ∧ (h10c.1 63 7) ≤ 500 := i10c.1 63 7
    refine mm_aload_n C (mm_dec dk_X7_readPart 6 rfl) rfl ?_
    refine mm_iload_n C (mm_dec dk_X7_readPart 7 rfl) rfl ?_
    refine mm_iconst C (mm_dec dk_X7_readPart 8 rfl) ⟨by decide, by decide⟩ ?_
    refine mm_iadd C (mm_dec dk_X7_readPart 9 rfl) ⟨by omega, by omega⟩ ?_
    refine mm_cVi (rest := []) C1 ev_X7_75 (mm_dec dk_X7_readPart 10 rfl) (c_X7_readOr_k2 x.2.1 hl (d - 1) (by omega) h10c i10c (p1 + 1) ⟨by omega, by omega⟩ (by omega)) rfl rfl (Nat.le_of_ble_eq_true rfl) ⟨by decide, by decide⟩ rfl (fun r17 h17c hp17 => ?_) (fun _ _ q => q.elim)
    obtain ⟨b17, i17c, g17c, y17_0⟩ := hp17
    have f17c : mm_fr [(63, 4), (63, 5), (63, 6), (63, 7), (63, 8), (63, 9), (63, 10)] [64] h h17c := mm_fr_tr f10c g17c (by decide +kernel)
    have g34 : -2147483648 ≤ (h17c.1 63 5) ∧ (h17c.1 63 5) ≤ 2147483647 := i17c.1 63 5
    have g35 : 0 ≤ (h17c.1 63 7) ∧ (h17c.1 63 7) ≤ 500 := i17c.1 63 7
    have J37 : ∀ (s37_0 : Int) (bs37_0 : 0 ≤ s37_0 ∧ s37_0 ≤ 1) (h37_ : mH) (i37_ : mm_inv h37_) (f37_ : mm_fr [(63, 4), (63, 5), (63, 6), (63, 7), (63, 8), (63, 9), (63, 10)] [64] h h37_) (w37_0 : (h37_.1 63 5 = 0 ∨ h37_.1 63 7 ≤ 499)), mm_W x 0 0 37 [mU, mU] [mI s37_0] h37_ := by
      intro s37_0 bs37_0 h37_ i37_ f37_ w37_0
      have g36 : -2147483648 ≤ h37_.1 63 5 ∧ h37_.1 63 5 ≤ 2147483647 := i37_.1 63 5
      have g37 : 0 ≤ h37_.1 63 7 ∧ h37_.1 63 7 ≤ 500 := i37_.1 63 7
      exact mm_zret C T (mm_dec dk_X7_readPart 19 rfl) (by decide : 0 ≤ 0) (by decide : 0 ≤ 0) (by omega) ⟨_, rfl, ⟨⟨by omega, by omega⟩, i37_, f37_, by omega⟩⟩
    have J36 : ∀ (h36_ : mH) (i36_ : mm_inv h36_) (f36_ : mm_fr [(63, 4), (63, 5), (63, 6), (63, 7), (63, 8), (63, 9), (63, 10)] [64] h h36_) (w36_0 : (h36_.1 63 5 = 0 ∨ h36_.1 63 7 ≤ 499)), mm_W x 0 0 36 [mU, mU] [] h36_ := by
      intro h36_ i36_ f36_ w36_0
      have g38 : -2147483648 ≤ h36_.1 63 5 ∧ h36_.1 63 5 ≤ 2147483647 := i36_.1 63 5
      have g39 : 0 ≤ h36_.1 63 7 ∧ h36_.1 63 7 ≤ 500 := i36_.1 63 7
      refine mm_iconst C (mm_dec dk_X7_readPart 18 rfl) ⟨by decide, by decide⟩ ?_
      exact J37 0 ⟨by omega, by omega⟩ h36_ i36_ f36_ (by omega)
    refine mm_if_eq (tgt := 36) C (mm_dec dk_X7_readPart 11 rfl) (by decide) (fun c20 => ?_) (fun c20 => ?_)
    · skip
      refine mm_fgt 0 ?_
      refine mm_fgt 1 ?_
      exact J36 h17c i17c f17c (by omega)
    · skip
      refine mm_aload_n C (mm_dec dk_X7_readPart 12 rfl) rfl ?_
      refine mm_bipush C (mm_dec dk_X7_readPart 13 rfl) ⟨by decide, by decide⟩ ?_
      refine mm_cVi (rest := []) C1 ev_X7_72 (mm_dec dk_X7_readPart 14 rfl) (c_X7_readSign x.2.1 hl (d - 1) (by omega) h17c i17c 41 (by omega)) rfl rfl (Nat.le_of_ble_eq_true rfl) ⟨by decide, by decide⟩ rfl (fun r26 h26c hp26 => ?_) (fun _ _ q => q.elim)
      obtain ⟨b26, i26c, g26c, y26_0⟩ := hp26
      have f26c : mm_fr [(63, 4), (63, 5), (63, 6), (63, 7), (63, 8), (63, 9), (63, 10)] [64] h h26c := mm_fr_tr f17c g26c (by decide +kernel)
      have g41 : -2147483648 ≤ (h26c.1 63 5) ∧ (h26c.1 63 5) ≤ 2147483647 := i26c.1 63 5
      have g42 : 0 ≤ (h26c.1 63 7) ∧ (h26c.1 63 7) ≤ 500 := i26c.1 63 7
      refine mm_if_eq (tgt := 36) C (mm_dec dk_X7_readPart 15 rfl) (by decide) (fun c29 => ?_) (fun c29 => ?_)
      · skip
        refine mm_fgt 0 ?_
        refine mm_fgt 1 ?_
        exact J36 h26c i26c f26c (by omega)
      · skip
        refine mm_iconst C (mm_dec dk_X7_readPart 16 rfl) ⟨by decide, by decide⟩ ?_
        refine mm_goto (tgt := 37) C (mm_dec dk_X7_readPart 17 rfl) (by decide) ?_
        refine mm_fgt 0 ?_
        refine mm_fgt 1 ?_
        exact J37 1 ⟨by omega, by omega⟩ h26c i26c f26c (by omega)
set_option maxRecDepth 100000 in
set_option maxHeartbeats 4000000 in
theorem c_X7_readProduct_k1 (l : Launch) (hl : l.stackTraces = false) (d : Nat) (hd : 35 ≤ d) (h : mH) (i0 : mm_inv h) (p1 : Int) (bp1 : 1 ≤ p1 ∧ p1 ≤ 1) (t0 : (h.1 63 5 = 0 ∨ h.1 63 7 ≤ 499)) : mm_Met l d yX7_readProduct cX7_readProduct 4 (some .boolean) [mR 63, mI p1] h (mm_pi fun r h2 => (0 ≤ r ∧ r ≤ 1) ∧ mm_inv h2 ∧ mm_fr [(63, 4), (63, 5), (63, 6), (63, 7), (63, 8), (63, 9), (63, 10)] [64] h h2 ∧ (h2.1 63 5 = 0 ∨ h2.1 63 7 ≤ 499)) mm_nx 0 0 := by
  refine mm_ofW (ls := [mR 63, mI p1, mU, mU]) hl (by decide) rfl (Nat.le_of_ble_eq_true rfl) ?_
  intro x hxl C T hnm htb
  subst hxl
  have C1 := mm_OK_le (d' := d - 1 + 1) (by omega) C
  have C8 := mm_OK_le (d' := d - 8 + 8) (by omega) C
  refine mm_rng (fun hr _ => ?_)
  have ap1 : -2147483648 ≤ p1 ∧ p1 < 2147483648 := mm_ok_at hr (i := 1) rfl
  have f0 : mm_fr [(63, 4), (63, 5), (63, 6), (63, 7), (63, 8), (63, 9), (63, 10)] [64] h h := mm_fr_rf
  have g1 : -2147483648 ≤ h.1 63 5 ∧ h.1 63 5 ≤ 2147483647 := i0.1 63 5
  have g2 : 0 ≤ h.1 63 7 ∧ h.1 63 7 ≤ 500 := i0.1 63 7
  refine mm_aload_n C (mm_dec dk_X7_readProduct 0 rfl) rfl ?_
  refine mm_iload_n C (mm_dec dk_X7_readProduct 1 rfl) rfl ?_
  refine mm_cVi (rest := []) C1 ev_X7_121 (mm_dec dk_X7_readProduct 2 rfl) (c_X7_readPart_k1 x.2.1 hl (d - 1) (by omega) h i0 p1 ⟨by omega, by omega⟩ (by omega)) rfl rfl (Nat.le_of_ble_eq_true rfl) ⟨by decide, by decide⟩ rfl (fun r2 h2c hp2 => ?_) (fun _ _ q => q.elim)
  obtain ⟨b2, i2c, g2c, y2_0⟩ := hp2
  have f2c : mm_fr [(63, 4), (63, 5), (63, 6), (63, 7), (63, 8), (63, 9), (63, 10)] [64] h h2c := mm_fr_tr f0 g2c (by decide +kernel)
  have g4 : -2147483648 ≤ (h2c.1 63 5) ∧ (h2c.1 63 5) ≤ 2147483647 := i2c.1 63 5
  have g5 : 0 ≤ (h2c.1 63 7) ∧ (h2c.1 63 7) ≤ 500 := i2c.1 63 7
  refine mm_if_ne (tgt := 10) C (mm_dec dk_X7_readProduct 3 rfl) (by decide) (fun c5 => ?_) (fun c5 => ?_)
  · skip
    refine mm_iconst C (mm_dec dk_X7_readProduct 6 rfl) ⟨by decide, by decide⟩ ?_
    have J12 : ∀ (n : Nat) (x12_2 : Int) (bx12_2 : 0 ≤ x12_2 ∧ x12_2 ≤ 500) (h12_ : mH) (i12_ : mm_inv h12_) (f12_ : mm_fr [(63, 4), (63, 5), (63, 6), (63, 7), (63, 8), (63, 9), (63, 10)] [64] h h12_) (w12_0 : (h12_.1 63 5 = 0 ∨ h12_.1 63 7 ≤ 499)), (500 - x12_2 : Int) < n → mm_W x 0 0 12 [mR 63, mI p1, mI x12_2, mU] [] h12_ := by
      intro n
      induction n with
      | zero =>
        intro x12_2 bx12_2 h12_ i12_ f12_ w12_0 hm
        have g6 : -2147483648 ≤ h12_.1 63 5 ∧ h12_.1 63 5 ≤ 2147483647 := i12_.1 63 5
        have g7 : 0 ≤ h12_.1 63 7 ∧ h12_.1 63 7 ≤ 500 := i12_.1 63 7
        exfalso; omega
      | succ n ih12 =>
        intro x12_2 bx12_2 h12_ i12_ f12_ w12_0 hm12
        have g8 : -2147483648 ≤ h12_.1 63 5 ∧ h12_.1 63 5 ≤ 2147483647 := i12_.1 63 5
        have g9 : 0 ≤ h12_.1 63 7 ∧ h12_.1 63 7 ≤ 500 := i12_.1 63 7
        refine mm_iload_n C (mm_dec dk_X7_readProduct 8 rfl) rfl ?_
        refine mm_sipush C (mm_dec dk_X7_readProduct 9 rfl) ⟨by decide, by decide⟩ ?_
        have J79 : mm_W x 0 0 79 [mU, mU, mU, mU] [] h12_ := by
          have g10 : -2147483648 ≤ h12_.1 63 5 ∧ h12_.1 63 5 ≤ 2147483647 := i12_.1 63 5
          have g11 : 0 ≤ h12_.1 63 7 ∧ h12_.1 63 7 ≤ 500 := i12_.1 63 7
          refine mm_iconst C (mm_dec dk_X7_readProduct 40 rfl) ⟨by decide, by decide⟩ ?_
          exact mm_zret C T (mm_dec dk_X7_readProduct 41 rfl) (by decide : 0 ≤ 0) (by decide : 0 ≤ 0) (by omega) ⟨_, rfl, ⟨⟨by omega, by omega⟩, i12_, f12_, by omega⟩⟩
        refine mm_icmp_ge (tgt := 79) C (mm_dec dk_X7_readProduct 10 rfl) (by decide) (fun c16 => ?_) (fun c16 => ?_)
        · skip
          refine mm_fgt 0 ?_
          refine mm_fgt 1 ?_
          refine mm_fgt 2 ?_
          exact J79
        · skip
          refine mm_aload_n C (mm_dec dk_X7_readProduct 11 rfl) rfl ?_
          refine mm_bipush C (mm_dec dk_X7_readProduct 12 rfl) ⟨by decide, by decide⟩ ?_
          refine mm_cVi (rest := []) C1 ev_X7_96 (mm_dec dk_X7_readProduct 13 rfl) (c_X7_isSign x.2.1 hl (d - 1) (by omega) h12_ i12_ 42 (by omega)) rfl rfl (Nat.le_of_ble_eq_true rfl) ⟨by decide, by decide⟩ rfl (fun r22 h22c hp22 => ?_) (fun _ _ q => q.elim)
          obtain ⟨z22, y22⟩ := hp22
          rw [z22]
          have g13 : -2147483648 ≤ (h12_.2.1 62 (h12_.1 63 7)) ∧ (h12_.2.1 62 (h12_.1 63 7)) ≤ 2147483647 := i12_.2.1 62 (h12_.1 63 7)
          have J37 : mm_W x 0 0 37 [mR 63, mI p1, mI x12_2, mU] [] h12_ := by
            have g14 : -2147483648 ≤ h12_.1 63 5 ∧ h12_.1 63 5 ≤ 2147483647 := i12_.1 63 5
            have g15 : 0 ≤ h12_.1 63 7 ∧ h12_.1 63 7 ≤ 500 := i12_.1 63 7
            refine mm_aload_n C (mm_dec dk_X7_readProduct 19 rfl) rfl ?_
            refine mm_bipush C (mm_dec dk_X7_readProduct 20 rfl) ⟨by decide, by decide⟩ ?_
            refine mm_cVi (rest := []) C1 ev_X7_96 (mm_dec dk_X7_readProduct 21 rfl) (c_X7_isSign x.2.1 hl (d - 1) (by omega) h12_ i12_ 42 (by omega)) rfl rfl (Nat.le_of_ble_eq_true rfl) ⟨by decide, by decide⟩ rfl (fun r40 h40c hp40 => ?_) (fun _ _ q => q.elim)
            obtain ⟨z40, y40⟩ := hp40
            rw [z40]
            have J53 : ∀ (s53_0 : Int) (bs53_0 : 100017 ≤ s53_0 ∧ s53_0 ≤ 100018) (vs53_0 : (r40 ≠ 0 ∧ s53_0 = 100017) ∨ (r40 = 0 ∧ s53_0 = 100018)), mm_W x 0 0 53 [mR 63, mI p1, mI x12_2, mU] [mI s53_0] h12_ := by
              intro s53_0 bs53_0 vs53_0
              have g17 : -2147483648 ≤ h12_.1 63 5 ∧ h12_.1 63 5 ≤ 2147483647 := i12_.1 63 5
              have g18 : 0 ≤ h12_.1 63 7 ∧ h12_.1 63 7 ≤ 500 := i12_.1 63 7
              refine mm_istore_nL (ls2 := [mR 63, mI p1, mI x12_2, mI s53_0]) C (mm_dec dk_X7_readProduct 26 rfl) (by decide) rfl ?_
              refine mm_aload_n C (mm_dec dk_X7_readProduct 27 rfl) rfl ?_
              refine mm_cVv (rest := []) C1 ev_X7_52 (mm_dec dk_X7_readProduct 28 rfl) (c_X7_step x.2.1 hl (d - 1) (by omega) h12_ i12_ ) rfl rfl (Nat.le_of_ble_eq_true rfl) ⟨by decide, by decide⟩ rfl (fun h55c hp55 => ?_) (fun _ _ q => q.elim)
              obtain ⟨i55c, g55c, y55_0⟩ := hp55
              have f55c : mm_fr [(63, 4), (63, 5), (63, 6), (63, 7), (63, 8), (63, 9), (63, 10)] [64] h h55c := mm_fr_tr f12_ g55c (by decide +kernel)
              have g20 : -2147483648 ≤ (h55c.1 63 5) ∧ (h55c.1 63 5) ≤ 2147483647 := i55c.1 63 5
              have g21 : 0 ≤ (h55c.1 63 7) ∧ (h55c.1 63 7) ≤ 500 := i55c.1 63 7
              refine mm_aload_n C (mm_dec dk_X7_readProduct 29 rfl) rfl ?_
              refine mm_iload_n C (mm_dec dk_X7_readProduct 30 rfl) rfl ?_
              refine mm_cVi (rest := []) C1 ev_X7_121 (mm_dec dk_X7_readProduct 31 rfl) (c_X7_readPart_k1 x.2.1 hl (d - 1) (by omega) h55c i55c p1 ⟨by omega, by omega⟩ (by omega)) rfl rfl (Nat.le_of_ble_eq_true rfl) ⟨by decide, by decide⟩ rfl (fun r60 h60c hp60 => ?_) (fun _ _ q => q.elim)
              obtain ⟨b60, i60c, g60c, y60_0⟩ := hp60
              have f60c : mm_fr [(63, 4), (63, 5), (63, 6), (63, 7), (63, 8), (63, 9), (63, 10)] [64] h h60c := mm_fr_tr f55c g60c (by decide +kernel)
              have g23 : -2147483648 ≤ (h60c.1 63 5) ∧ (h60c.1 63 5) ≤ 2147483647 := i60c.1 63 5
              have g24 : 0 ≤ (h60c.1 63 7) ∧ (h60c.1 63 7) ≤ 500 := i60c.1 63 7
              refine mm_if_ne (tgt := 68) C (mm_dec dk_X7_readProduct 32 rfl) (by decide) (fun c63 => ?_) (fun c63 => ?_)
              · skip
                refine mm_aload_n C (mm_dec dk_X7_readProduct 35 rfl) rfl ?_
                refine mm_iload_n C (mm_dec dk_X7_readProduct 36 rfl) rfl ?_
                refine mm_cVv (rest := []) C1 ev_X7_79 (mm_dec dk_X7_readProduct 37 rfl) (c_X7_emit x.2.1 hl (d - 1) (by omega) h60c i60c s53_0) rfl rfl (Nat.le_of_ble_eq_true rfl) ⟨by decide, by decide⟩ rfl (fun h70c hp70 => ?_) (fun _ _ q => q.elim)
                obtain ⟨i70c, g70c⟩ := hp70
                have f70c : mm_fr [(63, 4), (63, 5), (63, 6), (63, 7), (63, 8), (63, 9), (63, 10)] [64] h h70c := mm_fr_tr f60c g70c (by decide +kernel)
                have q70c_26 : h70c.1 63 5 = h60c.1 63 5 := g70c.1 63 5 (by decide)
                have q70c_27 : h70c.1 63 7 = h60c.1 63 7 := g70c.1 63 7 (by decide)
                refine mm_iincL (ls2 := [mR 63, mI p1, mI (x12_2 + 1), mI s53_0]) C (mm_dec dk_X7_readProduct 38 rfl) rfl (by decide) ⟨by omega, by omega⟩ rfl ?_
                refine mm_goto (tgt := 12) C (mm_dec dk_X7_readProduct 39 rfl) (by decide) ?_
                refine mm_fgt 3 ?_
                exact ih12 (x12_2 + 1) ⟨by omega, by omega⟩ h70c i70c f70c (by omega) (by omega)
              · skip
                refine mm_iconst C (mm_dec dk_X7_readProduct 33 rfl) ⟨by decide, by decide⟩ ?_
                exact mm_zret C T (mm_dec dk_X7_readProduct 34 rfl) (by decide : 0 ≤ 0) (by decide : 0 ≤ 0) (by omega) ⟨_, rfl, ⟨⟨by omega, by omega⟩, i60c, f60c, by omega⟩⟩
            refine mm_if_eq (tgt := 51) C (mm_dec dk_X7_readProduct 22 rfl) (by decide) (fun c43 => ?_) (fun c43 => ?_)
            · skip
              refine mm_ldc (z := 100018) C (mm_dec dk_X7_readProduct 25 rfl) kc_X7_125 (by decide) ?_
              exact J53 100018 ⟨by omega, by omega⟩ (Or.inr (⟨by omega, rfl⟩))
            · skip
              refine mm_ldc (z := 100017) C (mm_dec dk_X7_readProduct 23 rfl) kc_X7_124 (by decide) ?_
              refine mm_goto (tgt := 53) C (mm_dec dk_X7_readProduct 24 rfl) (by decide) ?_
              exact J53 100017 ⟨by omega, by omega⟩ (Or.inl ⟨by omega, rfl⟩)
          refine mm_if_ne (tgt := 37) C (mm_dec dk_X7_readProduct 14 rfl) (by decide) (fun c25 => ?_) (fun c25 => ?_)
          · skip
            exact J37
          · skip
            refine mm_aload_n C (mm_dec dk_X7_readProduct 15 rfl) rfl ?_
            refine mm_bipush C (mm_dec dk_X7_readProduct 16 rfl) ⟨by decide, by decide⟩ ?_
            refine mm_cVi (rest := []) C1 ev_X7_96 (mm_dec dk_X7_readProduct 17 rfl) (c_X7_isSign x.2.1 hl (d - 1) (by omega) h12_ i12_ 47 (by omega)) rfl rfl (Nat.le_of_ble_eq_true rfl) ⟨by decide, by decide⟩ rfl (fun r31 h31c hp31 => ?_) (fun _ _ q => q.elim)
            obtain ⟨z31, y31⟩ := hp31
            rw [z31]
            refine mm_if_eq (tgt := 79) C (mm_dec dk_X7_readProduct 18 rfl) (by decide) (fun c34 => ?_) (fun c34 => ?_)
            · skip
              refine mm_fgt 0 ?_
              refine mm_fgt 1 ?_
              refine mm_fgt 2 ?_
              exact J79
            · skip
              exact J37
    refine mm_istore_nL (ls2 := [mR 63, mI p1, mI 0, mU]) C (mm_dec dk_X7_readProduct 7 rfl) (by decide) rfl ?_
    exact J12 (((500 - 0) : Int) + 1).toNat 0 ⟨by omega, by omega⟩ h2c i2c f2c (by omega) (by omega)
  · skip
    refine mm_iconst C (mm_dec dk_X7_readProduct 4 rfl) ⟨by decide, by decide⟩ ?_
    exact mm_zret C T (mm_dec dk_X7_readProduct 5 rfl) (by decide : 0 ≤ 0) (by decide : 0 ≤ 0) (by omega) ⟨_, rfl, ⟨⟨by omega, by omega⟩, i2c, f2c, by omega⟩⟩
set_option maxRecDepth 100000 in
set_option maxHeartbeats 4000000 in
theorem c_X7_readSum_k1 (l : Launch) (hl : l.stackTraces = false) (d : Nat) (hd : 36 ≤ d) (h : mH) (i0 : mm_inv h) (p1 : Int) (bp1 : 1 ≤ p1 ∧ p1 ≤ 1) (t0 : (h.1 63 5 = 0 ∨ h.1 63 7 ≤ 499)) : mm_Met l d yX7_readSum cX7_readSum 4 (some .boolean) [mR 63, mI p1] h (mm_pi fun r h2 => (0 ≤ r ∧ r ≤ 1) ∧ mm_inv h2 ∧ mm_fr [(63, 4), (63, 5), (63, 6), (63, 7), (63, 8), (63, 9), (63, 10)] [64] h h2 ∧ (h2.1 63 5 = 0 ∨ h2.1 63 7 ≤ 499)) mm_nx 0 0 := by
  refine mm_ofW (ls := [mR 63, mI p1, mU, mU]) hl (by decide) rfl (Nat.le_of_ble_eq_true rfl) ?_
  intro x hxl C T hnm htb
  subst hxl
  have C1 := mm_OK_le (d' := d - 1 + 1) (by omega) C
  have C8 := mm_OK_le (d' := d - 8 + 8) (by omega) C
  refine mm_rng (fun hr _ => ?_)
  have ap1 : -2147483648 ≤ p1 ∧ p1 < 2147483648 := mm_ok_at hr (i := 1) rfl
  have f0 : mm_fr [(63, 4), (63, 5), (63, 6), (63, 7), (63, 8), (63, 9), (63, 10)] [64] h h := mm_fr_rf
  have g1 : -2147483648 ≤ h.1 63 5 ∧ h.1 63 5 ≤ 2147483647 := i0.1 63 5
  have g2 : 0 ≤ h.1 63 7 ∧ h.1 63 7 ≤ 500 := i0.1 63 7
  refine mm_aload_n C (mm_dec dk_X7_readSum 0 rfl) rfl ?_
  refine mm_iload_n C (mm_dec dk_X7_readSum 1 rfl) rfl ?_
  refine mm_cVi (rest := []) C1 ev_X7_116 (mm_dec dk_X7_readSum 2 rfl) (c_X7_readProduct_k1 x.2.1 hl (d - 1) (by omega) h i0 p1 ⟨by omega, by omega⟩ (by omega)) rfl rfl (Nat.le_of_ble_eq_true rfl) ⟨by decide, by decide⟩ rfl (fun r2 h2c hp2 => ?_) (fun _ _ q => q.elim)
  obtain ⟨b2, i2c, g2c, y2_0⟩ := hp2
  have f2c : mm_fr [(63, 4), (63, 5), (63, 6), (63, 7), (63, 8), (63, 9), (63, 10)] [64] h h2c := mm_fr_tr f0 g2c (by decide +kernel)
  have g4 : -2147483648 ≤ (h2c.1 63 5) ∧ (h2c.1 63 5) ≤ 2147483647 := i2c.1 63 5
  have g5 : 0 ≤ (h2c.1 63 7) ∧ (h2c.1 63 7) ≤ 500 := i2c.1 63 7
  refine mm_if_ne (tgt := 10) C (mm_dec dk_X7_readSum 3 rfl) (by decide) (fun c5 => ?_) (fun c5 => ?_)
  · skip
    refine mm_iconst C (mm_dec dk_X7_readSum 6 rfl) ⟨by decide, by decide⟩ ?_
    have J12 : ∀ (n : Nat) (x12_2 : Int) (bx12_2 : 0 ≤ x12_2 ∧ x12_2 ≤ 500) (h12_ : mH) (i12_ : mm_inv h12_) (f12_ : mm_fr [(63, 4), (63, 5), (63, 6), (63, 7), (63, 8), (63, 9), (63, 10)] [64] h h12_) (w12_0 : (h12_.1 63 5 = 0 ∨ h12_.1 63 7 ≤ 499)), (500 - x12_2 : Int) < n → mm_W x 0 0 12 [mR 63, mI p1, mI x12_2, mU] [] h12_ := by
      intro n
      induction n with
      | zero =>
        intro x12_2 bx12_2 h12_ i12_ f12_ w12_0 hm
        have g6 : -2147483648 ≤ h12_.1 63 5 ∧ h12_.1 63 5 ≤ 2147483647 := i12_.1 63 5
        have g7 : 0 ≤ h12_.1 63 7 ∧ h12_.1 63 7 ≤ 500 := i12_.1 63 7
        exfalso; omega
      | succ n ih12 =>
        intro x12_2 bx12_2 h12_ i12_ f12_ w12_0 hm12
        have g8 : -2147483648 ≤ h12_.1 63 5 ∧ h12_.1 63 5 ≤ 2147483647 := i12_.1 63 5
        have g9 : 0 ≤ h12_.1 63 7 ∧ h12_.1 63 7 ≤ 500 := i12_.1 63 7
        refine mm_iload_n C (mm_dec dk_X7_readSum 8 rfl) rfl ?_
        refine mm_sipush C (mm_dec dk_X7_readSum 9 rfl) ⟨by decide, by decide⟩ ?_
        have J79 : mm_W x 0 0 79 [mU, mU, mU, mU] [] h12_ := by
          have g10 : -2147483648 ≤ h12_.1 63 5 ∧ h12_.1 63 5 ≤ 2147483647 := i12_.1 63 5
          have g11 : 0 ≤ h12_.1 63 7 ∧ h12_.1 63 7 ≤ 500 := i12_.1 63 7
          refine mm_iconst C (mm_dec dk_X7_readSum 40 rfl) ⟨by decide, by decide⟩ ?_
          exact mm_zret C T (mm_dec dk_X7_readSum 41 rfl) (by decide : 0 ≤ 0) (by decide : 0 ≤ 0) (by omega) ⟨_, rfl, ⟨⟨by omega, by omega⟩, i12_, f12_, by omega⟩⟩
        refine mm_icmp_ge (tgt := 79) C (mm_dec dk_X7_readSum 10 rfl) (by decide) (fun c16 => ?_) (fun c16 => ?_)
        · skip
          refine mm_fgt 0 ?_
          refine mm_fgt 1 ?_
          refine mm_fgt 2 ?_
          exact J79
        · skip
          refine mm_aload_n C (mm_dec dk_X7_readSum 11 rfl) rfl ?_
          refine mm_bipush C (mm_dec dk_X7_readSum 12 rfl) ⟨by decide, by decide⟩ ?_
          refine mm_cVi (rest := []) C1 ev_X7_96 (mm_dec dk_X7_readSum 13 rfl) (c_X7_isSign x.2.1 hl (d - 1) (by omega) h12_ i12_ 43 (by omega)) rfl rfl (Nat.le_of_ble_eq_true rfl) ⟨by decide, by decide⟩ rfl (fun r22 h22c hp22 => ?_) (fun _ _ q => q.elim)
          obtain ⟨z22, y22⟩ := hp22
          rw [z22]
          have g13 : -2147483648 ≤ (h12_.2.1 62 (h12_.1 63 7)) ∧ (h12_.2.1 62 (h12_.1 63 7)) ≤ 2147483647 := i12_.2.1 62 (h12_.1 63 7)
          have J37 : mm_W x 0 0 37 [mR 63, mI p1, mI x12_2, mU] [] h12_ := by
            have g14 : -2147483648 ≤ h12_.1 63 5 ∧ h12_.1 63 5 ≤ 2147483647 := i12_.1 63 5
            have g15 : 0 ≤ h12_.1 63 7 ∧ h12_.1 63 7 ≤ 500 := i12_.1 63 7
            refine mm_aload_n C (mm_dec dk_X7_readSum 19 rfl) rfl ?_
            refine mm_bipush C (mm_dec dk_X7_readSum 20 rfl) ⟨by decide, by decide⟩ ?_
            refine mm_cVi (rest := []) C1 ev_X7_96 (mm_dec dk_X7_readSum 21 rfl) (c_X7_isSign x.2.1 hl (d - 1) (by omega) h12_ i12_ 43 (by omega)) rfl rfl (Nat.le_of_ble_eq_true rfl) ⟨by decide, by decide⟩ rfl (fun r40 h40c hp40 => ?_) (fun _ _ q => q.elim)
            obtain ⟨z40, y40⟩ := hp40
            rw [z40]
            have J53 : ∀ (s53_0 : Int) (bs53_0 : 100015 ≤ s53_0 ∧ s53_0 ≤ 100016) (vs53_0 : (r40 ≠ 0 ∧ s53_0 = 100015) ∨ (r40 = 0 ∧ s53_0 = 100016)), mm_W x 0 0 53 [mR 63, mI p1, mI x12_2, mU] [mI s53_0] h12_ := by
              intro s53_0 bs53_0 vs53_0
              have g17 : -2147483648 ≤ h12_.1 63 5 ∧ h12_.1 63 5 ≤ 2147483647 := i12_.1 63 5
              have g18 : 0 ≤ h12_.1 63 7 ∧ h12_.1 63 7 ≤ 500 := i12_.1 63 7
              refine mm_istore_nL (ls2 := [mR 63, mI p1, mI x12_2, mI s53_0]) C (mm_dec dk_X7_readSum 26 rfl) (by decide) rfl ?_
              refine mm_aload_n C (mm_dec dk_X7_readSum 27 rfl) rfl ?_
              refine mm_cVv (rest := []) C1 ev_X7_52 (mm_dec dk_X7_readSum 28 rfl) (c_X7_step x.2.1 hl (d - 1) (by omega) h12_ i12_ ) rfl rfl (Nat.le_of_ble_eq_true rfl) ⟨by decide, by decide⟩ rfl (fun h55c hp55 => ?_) (fun _ _ q => q.elim)
              obtain ⟨i55c, g55c, y55_0⟩ := hp55
              have f55c : mm_fr [(63, 4), (63, 5), (63, 6), (63, 7), (63, 8), (63, 9), (63, 10)] [64] h h55c := mm_fr_tr f12_ g55c (by decide +kernel)
              have g20 : -2147483648 ≤ (h55c.1 63 5) ∧ (h55c.1 63 5) ≤ 2147483647 := i55c.1 63 5
              have g21 : 0 ≤ (h55c.1 63 7) ∧ (h55c.1 63 7) ≤ 500 := i55c.1 63 7
              refine mm_aload_n C (mm_dec dk_X7_readSum 29 rfl) rfl ?_
              refine mm_iload_n C (mm_dec dk_X7_readSum 30 rfl) rfl ?_
              refine mm_cVi (rest := []) C1 ev_X7_116 (mm_dec dk_X7_readSum 31 rfl) (c_X7_readProduct_k1 x.2.1 hl (d - 1) (by omega) h55c i55c p1 ⟨by omega, by omega⟩ (by omega)) rfl rfl (Nat.le_of_ble_eq_true rfl) ⟨by decide, by decide⟩ rfl (fun r60 h60c hp60 => ?_) (fun _ _ q => q.elim)
              obtain ⟨b60, i60c, g60c, y60_0⟩ := hp60
              have f60c : mm_fr [(63, 4), (63, 5), (63, 6), (63, 7), (63, 8), (63, 9), (63, 10)] [64] h h60c := mm_fr_tr f55c g60c (by decide +kernel)
              have g23 : -2147483648 ≤ (h60c.1 63 5) ∧ (h60c.1 63 5) ≤ 2147483647 := i60c.1 63 5
              have g24 : 0 ≤ (h60c.1 63 7) ∧ (h60c.1 63 7) ≤ 500 := i60c.1 63 7
              refine mm_if_ne (tgt := 68) C (mm_dec dk_X7_readSum 32 rfl) (by decide) (fun c63 => ?_) (fun c63 => ?_)
              · skip
                refine mm_aload_n C (mm_dec dk_X7_readSum 35 rfl) rfl ?_
                refine mm_iload_n C (mm_dec dk_X7_readSum 36 rfl) rfl ?_
                refine mm_cVv (rest := []) C1 ev_X7_79 (mm_dec dk_X7_readSum 37 rfl) (c_X7_emit x.2.1 hl (d - 1) (by omega) h60c i60c s53_0) rfl rfl (Nat.le_of_ble_eq_true rfl) ⟨by decide, by decide⟩ rfl (fun h70c hp70 => ?_) (fun _ _ q => q.elim)
                obtain ⟨i70c, g70c⟩ := hp70
                have f70c : mm_fr [(63, 4), (63, 5), (63, 6), (63, 7), (63, 8), (63, 9), (63, 10)] [64] h h70c := mm_fr_tr f60c g70c (by decide +kernel)
                have q70c_26 : h70c.1 63 5 = h60c.1 63 5 := g70c.1 63 5 (by decide)
                have q70c_27 : h70c.1 63 7 = h60c.1 63 7 := g70c.1 63 7 (by decide)
                refine mm_iincL (ls2 := [mR 63, mI p1, mI (x12_2 + 1), mI s53_0]) C (mm_dec dk_X7_readSum 38 rfl) rfl (by decide) ⟨by omega, by omega⟩ rfl ?_
                refine mm_goto (tgt := 12) C (mm_dec dk_X7_readSum 39 rfl) (by decide) ?_
                refine mm_fgt 3 ?_
                exact ih12 (x12_2 + 1) ⟨by omega, by omega⟩ h70c i70c f70c (by omega) (by omega)
              · skip
                refine mm_iconst C (mm_dec dk_X7_readSum 33 rfl) ⟨by decide, by decide⟩ ?_
                exact mm_zret C T (mm_dec dk_X7_readSum 34 rfl) (by decide : 0 ≤ 0) (by decide : 0 ≤ 0) (by omega) ⟨_, rfl, ⟨⟨by omega, by omega⟩, i60c, f60c, by omega⟩⟩
            refine mm_if_eq (tgt := 51) C (mm_dec dk_X7_readSum 22 rfl) (by decide) (fun c43 => ?_) (fun c43 => ?_)
            · skip
              refine mm_ldc (z := 100016) C (mm_dec dk_X7_readSum 25 rfl) kc_X7_120 (by decide) ?_
              exact J53 100016 ⟨by omega, by omega⟩ (Or.inr (⟨by omega, rfl⟩))
            · skip
              refine mm_ldc (z := 100015) C (mm_dec dk_X7_readSum 23 rfl) kc_X7_119 (by decide) ?_
              refine mm_goto (tgt := 53) C (mm_dec dk_X7_readSum 24 rfl) (by decide) ?_
              exact J53 100015 ⟨by omega, by omega⟩ (Or.inl ⟨by omega, rfl⟩)
          refine mm_if_ne (tgt := 37) C (mm_dec dk_X7_readSum 14 rfl) (by decide) (fun c25 => ?_) (fun c25 => ?_)
          · skip
            exact J37
          · skip
            refine mm_aload_n C (mm_dec dk_X7_readSum 15 rfl) rfl ?_
            refine mm_bipush C (mm_dec dk_X7_readSum 16 rfl) ⟨by decide, by decide⟩ ?_
            refine mm_cVi (rest := []) C1 ev_X7_96 (mm_dec dk_X7_readSum 17 rfl) (c_X7_isSign x.2.1 hl (d - 1) (by omega) h12_ i12_ 45 (by omega)) rfl rfl (Nat.le_of_ble_eq_true rfl) ⟨by decide, by decide⟩ rfl (fun r31 h31c hp31 => ?_) (fun _ _ q => q.elim)
            obtain ⟨z31, y31⟩ := hp31
            rw [z31]
            refine mm_if_eq (tgt := 79) C (mm_dec dk_X7_readSum 18 rfl) (by decide) (fun c34 => ?_) (fun c34 => ?_)
            · skip
              refine mm_fgt 0 ?_
              refine mm_fgt 1 ?_
              refine mm_fgt 2 ?_
              exact J79
            · skip
              exact J37
    refine mm_istore_nL (ls2 := [mR 63, mI p1, mI 0, mU]) C (mm_dec dk_X7_readSum 7 rfl) (by decide) rfl ?_
    exact J12 (((500 - 0) : Int) + 1).toNat 0 ⟨by omega, by omega⟩ h2c i2c f2c (by omega) (by omega)
  · skip
    refine mm_iconst C (mm_dec dk_X7_readSum 4 rfl) ⟨by decide, by decide⟩ ?_
    exact mm_zret C T (mm_dec dk_X7_readSum 5 rfl) (by decide : 0 ≤ 0) (by decide : 0 ≤ 0) (by omega) ⟨_, rfl, ⟨⟨by omega, by omega⟩, i2c, f2c, by omega⟩⟩
set_option maxRecDepth 100000 in
set_option maxHeartbeats 4000000 in
theorem c_X7_readTest_k1 (l : Launch) (hl : l.stackTraces = false) (d : Nat) (hd : 37 ≤ d) (h : mH) (i0 : mm_inv h) (p1 : Int) (bp1 : 1 ≤ p1 ∧ p1 ≤ 1) (t0 : (h.1 63 5 = 0 ∨ h.1 63 7 ≤ 499)) : mm_Met l d yX7_readTest cX7_readTest 3 (some .boolean) [mR 63, mI p1] h (mm_pi fun r h2 => (0 ≤ r ∧ r ≤ 1) ∧ mm_inv h2 ∧ mm_fr [(63, 4), (63, 5), (63, 6), (63, 7), (63, 8), (63, 9), (63, 10)] [64] h h2 ∧ (h2.1 63 5 = 0 ∨ h2.1 63 7 ≤ 499)) mm_nx 0 0 := by
  refine mm_ofW (ls := [mR 63, mI p1, mU]) hl (by decide) rfl (Nat.le_of_ble_eq_true rfl) ?_
  intro x hxl C T hnm htb
  subst hxl
  have C1 := mm_OK_le (d' := d - 1 + 1) (by omega) C
  have C8 := mm_OK_le (d' := d - 8 + 8) (by omega) C
  refine mm_rng (fun hr _ => ?_)
  have ap1 : -2147483648 ≤ p1 ∧ p1 < 2147483648 := mm_ok_at hr (i := 1) rfl
  have f0 : mm_fr [(63, 4), (63, 5), (63, 6), (63, 7), (63, 8), (63, 9), (63, 10)] [64] h h := mm_fr_rf
  have g1 : -2147483648 ≤ h.1 63 5 ∧ h.1 63 5 ≤ 2147483647 := i0.1 63 5
  have g2 : 0 ≤ h.1 63 7 ∧ h.1 63 7 ≤ 500 := i0.1 63 7
  refine mm_aload_n C (mm_dec dk_X7_readTest 0 rfl) rfl ?_
  refine mm_iload_n C (mm_dec dk_X7_readTest 1 rfl) rfl ?_
  refine mm_cVi (rest := []) C1 ev_X7_111 (mm_dec dk_X7_readTest 2 rfl) (c_X7_readSum_k1 x.2.1 hl (d - 1) (by omega) h i0 p1 ⟨by omega, by omega⟩ (by omega)) rfl rfl (Nat.le_of_ble_eq_true rfl) ⟨by decide, by decide⟩ rfl (fun r2 h2c hp2 => ?_) (fun _ _ q => q.elim)
  obtain ⟨b2, i2c, g2c, y2_0⟩ := hp2
  have f2c : mm_fr [(63, 4), (63, 5), (63, 6), (63, 7), (63, 8), (63, 9), (63, 10)] [64] h h2c := mm_fr_tr f0 g2c (by decide +kernel)
  have g4 : -2147483648 ≤ (h2c.1 63 5) ∧ (h2c.1 63 5) ≤ 2147483647 := i2c.1 63 5
  have g5 : 0 ≤ (h2c.1 63 7) ∧ (h2c.1 63 7) ≤ 500 := i2c.1 63 7
  refine mm_if_ne (tgt := 10) C (mm_dec dk_X7_readTest 3 rfl) (by decide) (fun c5 => ?_) (fun c5 => ?_)
  · skip
    refine mm_aload_n C (mm_dec dk_X7_readTest 6 rfl) rfl ?_
    refine mm_bipush C (mm_dec dk_X7_readTest 7 rfl) ⟨by decide, by decide⟩ ?_
    refine mm_cVi (rest := []) C1 ev_X7_96 (mm_dec dk_X7_readTest 8 rfl) (c_X7_isSign x.2.1 hl (d - 1) (by omega) h2c i2c 60 (by omega)) rfl rfl (Nat.le_of_ble_eq_true rfl) ⟨by decide, by decide⟩ rfl (fun r13 h13c hp13 => ?_) (fun _ _ q => q.elim)
    obtain ⟨z13, y13⟩ := hp13
    rw [z13]
    have g7 : -2147483648 ≤ (h2c.2.1 62 (h2c.1 63 7)) ∧ (h2c.2.1 62 (h2c.1 63 7)) ≤ 2147483647 := i2c.2.1 62 (h2c.1 63 7)
    have J39 : ∀ (s39_0 : Int) (bs39_0 : -1 ≤ s39_0 ∧ s39_0 ≤ 100014) (vs39_0 : (r13 = 0 ∧ s39_0 = -1) ∨ (r13 ≠ 0 ∧ s39_0 = 100013) ∨ (r13 = 0 ∧ s39_0 = 100014)), mm_W x 0 0 39 [mR 63, mI p1, mU] [mI s39_0] h2c := by
      intro s39_0 bs39_0 vs39_0
      refine mm_istore_nL (ls2 := [mR 63, mI p1, mI s39_0]) C (mm_dec dk_X7_readTest 19 rfl) (by decide) rfl ?_
      refine mm_iload_n C (mm_dec dk_X7_readTest 20 rfl) rfl ?_
      refine mm_iconst C (mm_dec dk_X7_readTest 21 rfl) ⟨by decide, by decide⟩ ?_
      have J64 : ∀ (h64_ : mH) (i64_ : mm_inv h64_) (f64_ : mm_fr [(63, 4), (63, 5), (63, 6), (63, 7), (63, 8), (63, 9), (63, 10)] [64] h h64_) (w64_0 : (h64_.1 63 5 = 0 ∨ h64_.1 63 7 ≤ 499)), mm_W x 0 0 64 [mU, mU, mU] [] h64_ := by
        intro h64_ i64_ f64_ w64_0
        have g8 : -2147483648 ≤ h64_.1 63 5 ∧ h64_.1 63 5 ≤ 2147483647 := i64_.1 63 5
        have g9 : 0 ≤ h64_.1 63 7 ∧ h64_.1 63 7 ≤ 500 := i64_.1 63 7
        refine mm_iconst C (mm_dec dk_X7_readTest 34 rfl) ⟨by decide, by decide⟩ ?_
        exact mm_zret C T (mm_dec dk_X7_readTest 35 rfl) (by decide : 0 ≤ 0) (by decide : 0 ≤ 0) (by omega) ⟨_, rfl, ⟨⟨by omega, by omega⟩, i64_, f64_, by omega⟩⟩
      refine mm_icmp_eq (tgt := 64) C (mm_dec dk_X7_readTest 22 rfl) (by decide) (fun c42 => ?_) (fun c42 => ?_)
      · skip
        refine mm_fgt 0 ?_
        refine mm_fgt 1 ?_
        refine mm_fgt 2 ?_
        exact J64 h2c i2c f2c (by omega)
      · skip
        refine mm_aload_n C (mm_dec dk_X7_readTest 23 rfl) rfl ?_
        refine mm_cVv (rest := []) C1 ev_X7_52 (mm_dec dk_X7_readTest 24 rfl) (c_X7_step x.2.1 hl (d - 1) (by omega) h2c i2c ) rfl rfl (Nat.le_of_ble_eq_true rfl) ⟨by decide, by decide⟩ rfl (fun h46c hp46 => ?_) (fun _ _ q => q.elim)
        obtain ⟨i46c, g46c, y46_0⟩ := hp46
        have f46c : mm_fr [(63, 4), (63, 5), (63, 6), (63, 7), (63, 8), (63, 9), (63, 10)] [64] h h46c := mm_fr_tr f2c g46c (by decide +kernel)
        have g11 : -2147483648 ≤ (h46c.1 63 5) ∧ (h46c.1 63 5) ≤ 2147483647 := i46c.1 63 5
        have g12 : 0 ≤ (h46c.1 63 7) ∧ (h46c.1 63 7) ≤ 500 := i46c.1 63 7
        refine mm_aload_n C (mm_dec dk_X7_readTest 25 rfl) rfl ?_
        refine mm_iload_n C (mm_dec dk_X7_readTest 26 rfl) rfl ?_
        refine mm_cVi (rest := []) C1 ev_X7_111 (mm_dec dk_X7_readTest 27 rfl) (c_X7_readSum_k1 x.2.1 hl (d - 1) (by omega) h46c i46c p1 ⟨by omega, by omega⟩ (by omega)) rfl rfl (Nat.le_of_ble_eq_true rfl) ⟨by decide, by decide⟩ rfl (fun r51 h51c hp51 => ?_) (fun _ _ q => q.elim)
        obtain ⟨b51, i51c, g51c, y51_0⟩ := hp51
        have f51c : mm_fr [(63, 4), (63, 5), (63, 6), (63, 7), (63, 8), (63, 9), (63, 10)] [64] h h51c := mm_fr_tr f46c g51c (by decide +kernel)
        have g14 : -2147483648 ≤ (h51c.1 63 5) ∧ (h51c.1 63 5) ≤ 2147483647 := i51c.1 63 5
        have g15 : 0 ≤ (h51c.1 63 7) ∧ (h51c.1 63 7) ≤ 500 := i51c.1 63 7
        refine mm_if_ne (tgt := 59) C (mm_dec dk_X7_readTest 28 rfl) (by decide) (fun c54 => ?_) (fun c54 => ?_)
        · skip
          refine mm_aload_n C (mm_dec dk_X7_readTest 31 rfl) rfl ?_
          refine mm_iload_n C (mm_dec dk_X7_readTest 32 rfl) rfl ?_
          refine mm_cVv (rest := []) C1 ev_X7_79 (mm_dec dk_X7_readTest 33 rfl) (c_X7_emit x.2.1 hl (d - 1) (by omega) h51c i51c s39_0) rfl rfl (Nat.le_of_ble_eq_true rfl) ⟨by decide, by decide⟩ rfl (fun h61c hp61 => ?_) (fun _ _ q => q.elim)
          obtain ⟨i61c, g61c⟩ := hp61
          have f61c : mm_fr [(63, 4), (63, 5), (63, 6), (63, 7), (63, 8), (63, 9), (63, 10)] [64] h h61c := mm_fr_tr f51c g61c (by decide +kernel)
          have q61c_17 : h61c.1 63 5 = h51c.1 63 5 := g61c.1 63 5 (by decide)
          have q61c_18 : h61c.1 63 7 = h51c.1 63 7 := g61c.1 63 7 (by decide)
          refine mm_fgt 0 ?_
          refine mm_fgt 1 ?_
          refine mm_fgt 2 ?_
          exact J64 h61c i61c f61c (by omega)
        · skip
          refine mm_iconst C (mm_dec dk_X7_readTest 29 rfl) ⟨by decide, by decide⟩ ?_
          exact mm_zret C T (mm_dec dk_X7_readTest 30 rfl) (by decide : 0 ≤ 0) (by decide : 0 ≤ 0) (by omega) ⟨_, rfl, ⟨⟨by omega, by omega⟩, i51c, f51c, by omega⟩⟩
    refine mm_if_eq (tgt := 24) C (mm_dec dk_X7_readTest 9 rfl) (by decide) (fun c16 => ?_) (fun c16 => ?_)
    · skip
      refine mm_aload_n C (mm_dec dk_X7_readTest 12 rfl) rfl ?_
      refine mm_bipush C (mm_dec dk_X7_readTest 13 rfl) ⟨by decide, by decide⟩ ?_
      refine mm_cVi (rest := []) C1 ev_X7_96 (mm_dec dk_X7_readTest 14 rfl) (c_X7_isSign x.2.1 hl (d - 1) (by omega) h2c i2c 61 (by omega)) rfl rfl (Nat.le_of_ble_eq_true rfl) ⟨by decide, by decide⟩ rfl (fun r27 h27c hp27 => ?_) (fun _ _ q => q.elim)
      obtain ⟨z27, y27⟩ := hp27
      rw [z27]
      refine mm_if_eq (tgt := 38) C (mm_dec dk_X7_readTest 15 rfl) (by decide) (fun c30 => ?_) (fun c30 => ?_)
      · skip
        refine mm_iconst C (mm_dec dk_X7_readTest 18 rfl) ⟨by decide, by decide⟩ ?_
        exact J39 (-1) ⟨by omega, by omega⟩ (Or.inl ⟨by omega, rfl⟩)
      · skip
        refine mm_ldc (z := 100014) C (mm_dec dk_X7_readTest 16 rfl) kc_X7_115 (by decide) ?_
        refine mm_goto (tgt := 39) C (mm_dec dk_X7_readTest 17 rfl) (by decide) ?_
        exact J39 100014 ⟨by omega, by omega⟩ (Or.inr (Or.inr (⟨by omega, rfl⟩)))
    · skip
      refine mm_ldc (z := 100013) C (mm_dec dk_X7_readTest 10 rfl) kc_X7_114 (by decide) ?_
      refine mm_goto (tgt := 39) C (mm_dec dk_X7_readTest 11 rfl) (by decide) ?_
      exact J39 100013 ⟨by omega, by omega⟩ (Or.inr (Or.inl ⟨by omega, rfl⟩))
  · skip
    refine mm_iconst C (mm_dec dk_X7_readTest 4 rfl) ⟨by decide, by decide⟩ ?_
    exact mm_zret C T (mm_dec dk_X7_readTest 5 rfl) (by decide : 0 ≤ 0) (by decide : 0 ≤ 0) (by omega) ⟨_, rfl, ⟨⟨by omega, by omega⟩, i2c, f2c, by omega⟩⟩
set_option maxRecDepth 100000 in
set_option maxHeartbeats 4000000 in
theorem c_X7_readNot_k1 (l : Launch) (hl : l.stackTraces = false) (d : Nat) (hd : 38 ≤ d) (h : mH) (i0 : mm_inv h) (p1 : Int) (bp1 : 1 ≤ p1 ∧ p1 ≤ 1) (t0 : (h.1 63 5 = 0 ∨ h.1 63 7 ≤ 499)) : mm_Met l d yX7_readNot cX7_readNot 4 (some .boolean) [mR 63, mI p1] h (mm_pi fun r h2 => (0 ≤ r ∧ r ≤ 1) ∧ mm_inv h2 ∧ mm_fr [(63, 4), (63, 5), (63, 6), (63, 7), (63, 8), (63, 9), (63, 10)] [64] h h2 ∧ (h2.1 63 5 = 0 ∨ h2.1 63 7 ≤ 499)) mm_nx 0 0 := by
  refine mm_ofW (ls := [mR 63, mI p1, mU, mU]) hl (by decide) rfl (Nat.le_of_ble_eq_true rfl) ?_
  intro x hxl C T hnm htb
  subst hxl
  have C1 := mm_OK_le (d' := d - 1 + 1) (by omega) C
  have C8 := mm_OK_le (d' := d - 8 + 8) (by omega) C
  refine mm_rng (fun hr _ => ?_)
  have ap1 : -2147483648 ≤ p1 ∧ p1 < 2147483648 := mm_ok_at hr (i := 1) rfl
  have f0 : mm_fr [(63, 4), (63, 5), (63, 6), (63, 7), (63, 8), (63, 9), (63, 10)] [64] h h := mm_fr_rf
  have g1 : -2147483648 ≤ h.1 63 5 ∧ h.1 63 5 ≤ 2147483647 := i0.1 63 5
  have g2 : 0 ≤ h.1 63 7 ∧ h.1 63 7 ≤ 500 := i0.1 63 7
  refine mm_iconst C (mm_dec dk_X7_readNot 0 rfl) ⟨by decide, by decide⟩ ?_
  have J2 : ∀ (n : Nat) (x2_2 : Int) (bx2_2 : 0 ≤ x2_2 ∧ x2_2 ≤ 7) (h2_ : mH) (i2_ : mm_inv h2_) (f2_ : mm_fr [(63, 4), (63, 5), (63, 6), (63, 7), (63, 8), (63, 9), (63, 10)] [64] h h2_) (w2_0 : (h2_.1 63 5 = 0 ∨ h2_.1 63 7 ≤ 499)), (7 - x2_2 : Int) < n → mm_W x 0 0 2 [mR 63, mI p1, mI x2_2, mU] [] h2_ := by
    intro n
    induction n with
    | zero =>
      intro x2_2 bx2_2 h2_ i2_ f2_ w2_0 hm
      have g3 : -2147483648 ≤ h2_.1 63 5 ∧ h2_.1 63 5 ≤ 2147483647 := i2_.1 63 5
      have g4 : 0 ≤ h2_.1 63 7 ∧ h2_.1 63 7 ≤ 500 := i2_.1 63 7
      exfalso; omega
    | succ n ih2 =>
      intro x2_2 bx2_2 h2_ i2_ f2_ w2_0 hm2
      have g5 : -2147483648 ≤ h2_.1 63 5 ∧ h2_.1 63 5 ≤ 2147483647 := i2_.1 63 5
      have g6 : 0 ≤ h2_.1 63 7 ∧ h2_.1 63 7 ≤ 500 := i2_.1 63 7
      refine mm_iload_n C (mm_dec dk_X7_readNot 2 rfl) rfl ?_
      refine mm_bipush C (mm_dec dk_X7_readNot 3 rfl) ⟨by decide, by decide⟩ ?_
      have J27 : mm_W x 0 0 27 [mR 63, mI p1, mI x2_2, mU] [] h2_ := by
        have g7 : -2147483648 ≤ h2_.1 63 5 ∧ h2_.1 63 5 ≤ 2147483647 := i2_.1 63 5
        have g8 : 0 ≤ h2_.1 63 7 ∧ h2_.1 63 7 ≤ 500 := i2_.1 63 7
        refine mm_iload_n C (mm_dec dk_X7_readNot 13 rfl) rfl ?_
        refine mm_bipush C (mm_dec dk_X7_readNot 14 rfl) ⟨by decide, by decide⟩ ?_
        have J48 : mm_W x 0 0 48 [mR 63, mI p1, mI x2_2, mU] [] h2_ := by
          have g9 : -2147483648 ≤ h2_.1 63 5 ∧ h2_.1 63 5 ≤ 2147483647 := i2_.1 63 5
          have g10 : 0 ≤ h2_.1 63 7 ∧ h2_.1 63 7 ≤ 500 := i2_.1 63 7
          refine mm_aload_n C (mm_dec dk_X7_readNot 24 rfl) rfl ?_
          refine mm_iload_n C (mm_dec dk_X7_readNot 25 rfl) rfl ?_
          refine mm_cVi (rest := []) C1 ev_X7_107 (mm_dec dk_X7_readNot 26 rfl) (c_X7_readTest_k1 x.2.1 hl (d - 1) (by omega) h2_ i2_ p1 ⟨by omega, by omega⟩ (by omega)) rfl rfl (Nat.le_of_ble_eq_true rfl) ⟨by decide, by decide⟩ rfl (fun r50 h50c hp50 => ?_) (fun _ _ q => q.elim)
          obtain ⟨b50, i50c, g50c, y50_0⟩ := hp50
          have f50c : mm_fr [(63, 4), (63, 5), (63, 6), (63, 7), (63, 8), (63, 9), (63, 10)] [64] h h50c := mm_fr_tr f2_ g50c (by decide +kernel)
          have g12 : -2147483648 ≤ (h50c.1 63 5) ∧ (h50c.1 63 5) ≤ 2147483647 := i50c.1 63 5
          have g13 : 0 ≤ (h50c.1 63 7) ∧ (h50c.1 63 7) ≤ 500 := i50c.1 63 7
          refine mm_if_ne (tgt := 58) C (mm_dec dk_X7_readNot 27 rfl) (by decide) (fun c53 => ?_) (fun c53 => ?_)
          · skip
            refine mm_iconst C (mm_dec dk_X7_readNot 30 rfl) ⟨by decide, by decide⟩ ?_
            have J60 : ∀ (n : Nat) (x60_3 : Int) (bx60_3 : 0 ≤ x60_3 ∧ x60_3 ≤ 7) (h60_ : mH) (i60_ : mm_inv h60_) (f60_ : mm_fr [(63, 4), (63, 5), (63, 6), (63, 7), (63, 8), (63, 9), (63, 10)] [64] h h60_) (w60_0 : (h60_.1 63 5 = 0 ∨ h60_.1 63 7 ≤ 499)), (7 - x60_3 : Int) < n → mm_W x 0 0 60 [mR 63, mU, mI x2_2, mI x60_3] [] h60_ := by
              intro n
              induction n with
              | zero =>
                intro x60_3 bx60_3 h60_ i60_ f60_ w60_0 hm
                have g14 : -2147483648 ≤ h60_.1 63 5 ∧ h60_.1 63 5 ≤ 2147483647 := i60_.1 63 5
                have g15 : 0 ≤ h60_.1 63 7 ∧ h60_.1 63 7 ≤ 500 := i60_.1 63 7
                exfalso; omega
              | succ n ih60 =>
                intro x60_3 bx60_3 h60_ i60_ f60_ w60_0 hm60
                have g16 : -2147483648 ≤ h60_.1 63 5 ∧ h60_.1 63 5 ≤ 2147483647 := i60_.1 63 5
                have g17 : 0 ≤ h60_.1 63 7 ∧ h60_.1 63 7 ≤ 500 := i60_.1 63 7
                refine mm_iload_n C (mm_dec dk_X7_readNot 32 rfl) rfl ?_
                refine mm_iload_n C (mm_dec dk_X7_readNot 33 rfl) rfl ?_
                refine mm_icmp_ge (tgt := 77) C (mm_dec dk_X7_readNot 34 rfl) (by decide) (fun c62 => ?_) (fun c62 => ?_)
                · skip
                  refine mm_iconst C (mm_dec dk_X7_readNot 40 rfl) ⟨by decide, by decide⟩ ?_
                  exact mm_zret C T (mm_dec dk_X7_readNot 41 rfl) (by decide : 0 ≤ 0) (by decide : 0 ≤ 0) (by omega) ⟨_, rfl, ⟨⟨by omega, by omega⟩, i60_, f60_, by omega⟩⟩
                · skip
                  refine mm_aload_n C (mm_dec dk_X7_readNot 35 rfl) rfl ?_
                  refine mm_ldc (z := 100010) C (mm_dec dk_X7_readNot 36 rfl) kc_X7_110 (by decide) ?_
                  refine mm_cVv (rest := []) C1 ev_X7_79 (mm_dec dk_X7_readNot 37 rfl) (c_X7_emit x.2.1 hl (d - 1) (by omega) h60_ i60_ 100010) rfl rfl (Nat.le_of_ble_eq_true rfl) ⟨by decide, by decide⟩ rfl (fun h68c hp68 => ?_) (fun _ _ q => q.elim)
                  obtain ⟨i68c, g68c⟩ := hp68
                  have f68c : mm_fr [(63, 4), (63, 5), (63, 6), (63, 7), (63, 8), (63, 9), (63, 10)] [64] h h68c := mm_fr_tr f60_ g68c (by decide +kernel)
                  have q68c_19 : h68c.1 63 5 = h60_.1 63 5 := g68c.1 63 5 (by decide)
                  have q68c_20 : h68c.1 63 7 = h60_.1 63 7 := g68c.1 63 7 (by decide)
                  refine mm_iincL (ls2 := [mR 63, mU, mI x2_2, mI (x60_3 + 1)]) C (mm_dec dk_X7_readNot 38 rfl) rfl (by decide) ⟨by omega, by omega⟩ rfl ?_
                  refine mm_goto (tgt := 60) C (mm_dec dk_X7_readNot 39 rfl) (by decide) ?_
                  exact ih60 (x60_3 + 1) ⟨by omega, by omega⟩ h68c i68c f68c (by omega) (by omega)
            refine mm_istore_nL (ls2 := [mR 63, mI p1, mI x2_2, mI 0]) C (mm_dec dk_X7_readNot 31 rfl) (by decide) rfl ?_
            refine mm_fgt 1 ?_
            exact J60 (((7 - 0) : Int) + 1).toNat 0 ⟨by omega, by omega⟩ h50c i50c f50c (by omega) (by omega)
          · skip
            refine mm_iconst C (mm_dec dk_X7_readNot 28 rfl) ⟨by decide, by decide⟩ ?_
            exact mm_zret C T (mm_dec dk_X7_readNot 29 rfl) (by decide : 0 ≤ 0) (by decide : 0 ≤ 0) (by omega) ⟨_, rfl, ⟨⟨by omega, by omega⟩, i50c, f50c, by omega⟩⟩
        refine mm_icmp_ne (tgt := 48) C (mm_dec dk_X7_readNot 15 rfl) (by decide) (fun c30 => ?_) (fun c30 => ?_)
        · skip
          exact J48
        · skip
          refine mm_aload_n C (mm_dec dk_X7_readNot 16 rfl) rfl ?_
          refine mm_geti C fl_X7_28 (mm_dec dk_X7_readNot 17 rfl) rfl rfl (Or.inl rfl) ?_
          have g21 : -2147483648 ≤ (h2_.1 63 6) ∧ (h2_.1 63 6) ≤ 2147483647 := i2_.1 63 6
          refine mm_bipush C (mm_dec dk_X7_readNot 18 rfl) ⟨by decide, by decide⟩ ?_
          refine mm_icmp_ne (tgt := 48) C (mm_dec dk_X7_readNot 19 rfl) (by decide) (fun c39 => ?_) (fun c39 => ?_)
          · skip
            exact J48
          · skip
            refine mm_aload_n C (mm_dec dk_X7_readNot 20 rfl) rfl ?_
            refine mm_iconst C (mm_dec dk_X7_readNot 21 rfl) ⟨by decide, by decide⟩ ?_
            refine mm_cVi (rest := []) C1 ev_X7_65 (mm_dec dk_X7_readNot 22 rfl) (c_X7_refuse x.2.1 hl (d - 1) (by omega) h2_ i2_ 2) rfl rfl (Nat.le_of_ble_eq_true rfl) ⟨by decide, by decide⟩ rfl (fun r44 h44c hp44 => ?_) (fun _ _ q => q.elim)
            obtain ⟨b44, i44c, g44c⟩ := hp44
            have f44c : mm_fr [(63, 4), (63, 5), (63, 6), (63, 7), (63, 8), (63, 9), (63, 10)] [64] h h44c := mm_fr_tr f2_ g44c (by decide +kernel)
            have q44c_23 : h44c.1 63 5 = h2_.1 63 5 := g44c.1 63 5 (by decide)
            have q44c_24 : h44c.1 63 6 = h2_.1 63 6 := g44c.1 63 6 (by decide)
            have q44c_25 : h44c.1 63 7 = h2_.1 63 7 := g44c.1 63 7 (by decide)
            exact mm_zret C T (mm_dec dk_X7_readNot 23 rfl) (by decide : 0 ≤ 0) (by decide : 0 ≤ 0) (by omega) ⟨_, rfl, ⟨⟨by omega, by omega⟩, i44c, f44c, by omega⟩⟩
      refine mm_icmp_ge (tgt := 27) C (mm_dec dk_X7_readNot 4 rfl) (by decide) (fun c5 => ?_) (fun c5 => ?_)
      · skip
        exact J27
      · skip
        refine mm_aload_n C (mm_dec dk_X7_readNot 5 rfl) rfl ?_
        refine mm_geti C fl_X7_28 (mm_dec dk_X7_readNot 6 rfl) rfl rfl (Or.inl rfl) ?_
        have g26 : -2147483648 ≤ (h2_.1 63 6) ∧ (h2_.1 63 6) ≤ 2147483647 := i2_.1 63 6
        refine mm_bipush C (mm_dec dk_X7_readNot 7 rfl) ⟨by decide, by decide⟩ ?_
        refine mm_icmp_ne (tgt := 27) C (mm_dec dk_X7_readNot 8 rfl) (by decide) (fun c14 => ?_) (fun c14 => ?_)
        · skip
          exact J27
        · skip
          refine mm_iincL (ls2 := [mR 63, mI p1, mI (x2_2 + 1), mU]) C (mm_dec dk_X7_readNot 9 rfl) rfl (by decide) ⟨by omega, by omega⟩ rfl ?_
          refine mm_aload_n C (mm_dec dk_X7_readNot 10 rfl) rfl ?_
          refine mm_cVv (rest := []) C1 ev_X7_52 (mm_dec dk_X7_readNot 11 rfl) (c_X7_step x.2.1 hl (d - 1) (by omega) h2_ i2_ ) rfl rfl (Nat.le_of_ble_eq_true rfl) ⟨by decide, by decide⟩ rfl (fun h21c hp21 => ?_) (fun _ _ q => q.elim)
          obtain ⟨i21c, g21c, y21_0⟩ := hp21
          have f21c : mm_fr [(63, 4), (63, 5), (63, 6), (63, 7), (63, 8), (63, 9), (63, 10)] [64] h h21c := mm_fr_tr f2_ g21c (by decide +kernel)
          have g28 : -2147483648 ≤ (h21c.1 63 5) ∧ (h21c.1 63 5) ≤ 2147483647 := i21c.1 63 5
          have g29 : 0 ≤ (h21c.1 63 7) ∧ (h21c.1 63 7) ≤ 500 := i21c.1 63 7
          refine mm_goto (tgt := 2) C (mm_dec dk_X7_readNot 12 rfl) (by decide) ?_
          exact ih2 (x2_2 + 1) ⟨by omega, by omega⟩ h21c i21c f21c (by omega) (by omega)
  refine mm_istore_nL (ls2 := [mR 63, mI p1, mI 0, mU]) C (mm_dec dk_X7_readNot 1 rfl) (by decide) rfl ?_
  exact J2 (((7 - 0) : Int) + 1).toNat 0 ⟨by omega, by omega⟩ h i0 f0 (by omega) (by omega)
set_option maxRecDepth 100000 in
set_option maxHeartbeats 4000000 in
theorem c_X7_readAnd_k1 (l : Launch) (hl : l.stackTraces = false) (d : Nat) (hd : 39 ≤ d) (h : mH) (i0 : mm_inv h) (p1 : Int) (bp1 : 1 ≤ p1 ∧ p1 ≤ 1) (t0 : (h.1 63 5 = 0 ∨ h.1 63 7 ≤ 499)) : mm_Met l d yX7_readAnd cX7_readAnd 3 (some .boolean) [mR 63, mI p1] h (mm_pi fun r h2 => (0 ≤ r ∧ r ≤ 1) ∧ mm_inv h2 ∧ mm_fr [(63, 4), (63, 5), (63, 6), (63, 7), (63, 8), (63, 9), (63, 10)] [64] h h2 ∧ (h2.1 63 5 = 0 ∨ h2.1 63 7 ≤ 499)) mm_nx 0 0 := by
  refine mm_ofW (ls := [mR 63, mI p1, mU]) hl (by decide) rfl (Nat.le_of_ble_eq_true rfl) ?_
  intro x hxl C T hnm htb
  subst hxl
  have C1 := mm_OK_le (d' := d - 1 + 1) (by omega) C
  have C8 := mm_OK_le (d' := d - 8 + 8) (by omega) C
  refine mm_rng (fun hr _ => ?_)
  have ap1 : -2147483648 ≤ p1 ∧ p1 < 2147483648 := mm_ok_at hr (i := 1) rfl
  have f0 : mm_fr [(63, 4), (63, 5), (63, 6), (63, 7), (63, 8), (63, 9), (63, 10)] [64] h h := mm_fr_rf
  have g1 : -2147483648 ≤ h.1 63 5 ∧ h.1 63 5 ≤ 2147483647 := i0.1 63 5
  have g2 : 0 ≤ h.1 63 7 ∧ h.1 63 7 ≤ 500 := i0.1 63 7
  refine mm_aload_n C (mm_dec dk_X7_readAnd 0 rfl) rfl ?_
  refine mm_iload_n C (mm_dec dk_X7_readAnd 1 rfl) rfl ?_
  refine mm_cVi (rest := []) C1 ev_X7_103 (mm_dec dk_X7_readAnd 2 rfl) (c_X7_readNot_k1 x.2.1 hl (d - 1) (by omega) h i0 p1 ⟨by omega, by omega⟩ (by omega)) rfl rfl (Nat.le_of_ble_eq_true rfl) ⟨by decide, by decide⟩ rfl (fun r2 h2c hp2 => ?_) (fun _ _ q => q.elim)
  obtain ⟨b2, i2c, g2c, y2_0⟩ := hp2
  have f2c : mm_fr [(63, 4), (63, 5), (63, 6), (63, 7), (63, 8), (63, 9), (63, 10)] [64] h h2c := mm_fr_tr f0 g2c (by decide +kernel)
  have g4 : -2147483648 ≤ (h2c.1 63 5) ∧ (h2c.1 63 5) ≤ 2147483647 := i2c.1 63 5
  have g5 : 0 ≤ (h2c.1 63 7) ∧ (h2c.1 63 7) ≤ 500 := i2c.1 63 7
  refine mm_if_ne (tgt := 10) C (mm_dec dk_X7_readAnd 3 rfl) (by decide) (fun c5 => ?_) (fun c5 => ?_)
  · skip
    refine mm_iconst C (mm_dec dk_X7_readAnd 6 rfl) ⟨by decide, by decide⟩ ?_
    have J12 : ∀ (n : Nat) (x12_2 : Int) (bx12_2 : 0 ≤ x12_2 ∧ x12_2 ≤ 500) (h12_ : mH) (i12_ : mm_inv h12_) (f12_ : mm_fr [(63, 4), (63, 5), (63, 6), (63, 7), (63, 8), (63, 9), (63, 10)] [64] h h12_) (w12_0 : (h12_.1 63 5 = 0 ∨ h12_.1 63 7 ≤ 499)), (500 - x12_2 : Int) < n → mm_W x 0 0 12 [mR 63, mI p1, mI x12_2] [] h12_ := by
      intro n
      induction n with
      | zero =>
        intro x12_2 bx12_2 h12_ i12_ f12_ w12_0 hm
        have g6 : -2147483648 ≤ h12_.1 63 5 ∧ h12_.1 63 5 ≤ 2147483647 := i12_.1 63 5
        have g7 : 0 ≤ h12_.1 63 7 ∧ h12_.1 63 7 ≤ 500 := i12_.1 63 7
        exfalso; omega
      | succ n ih12 =>
        intro x12_2 bx12_2 h12_ i12_ f12_ w12_0 hm12
        have g8 : -2147483648 ≤ h12_.1 63 5 ∧ h12_.1 63 5 ≤ 2147483647 := i12_.1 63 5
        have g9 : 0 ≤ h12_.1 63 7 ∧ h12_.1 63 7 ≤ 500 := i12_.1 63 7
        refine mm_iload_n C (mm_dec dk_X7_readAnd 8 rfl) rfl ?_
        refine mm_sipush C (mm_dec dk_X7_readAnd 9 rfl) ⟨by decide, by decide⟩ ?_
        have J53 : mm_W x 0 0 53 [mU, mU, mU] [] h12_ := by
          have g10 : -2147483648 ≤ h12_.1 63 5 ∧ h12_.1 63 5 ≤ 2147483647 := i12_.1 63 5
          have g11 : 0 ≤ h12_.1 63 7 ∧ h12_.1 63 7 ≤ 500 := i12_.1 63 7
          refine mm_iconst C (mm_dec dk_X7_readAnd 28 rfl) ⟨by decide, by decide⟩ ?_
          exact mm_zret C T (mm_dec dk_X7_readAnd 29 rfl) (by decide : 0 ≤ 0) (by decide : 0 ≤ 0) (by omega) ⟨_, rfl, ⟨⟨by omega, by omega⟩, i12_, f12_, by omega⟩⟩
        refine mm_icmp_ge (tgt := 53) C (mm_dec dk_X7_readAnd 10 rfl) (by decide) (fun c16 => ?_) (fun c16 => ?_)
        · skip
          refine mm_fgt 0 ?_
          refine mm_fgt 1 ?_
          refine mm_fgt 2 ?_
          exact J53
        · skip
          refine mm_aload_n C (mm_dec dk_X7_readAnd 11 rfl) rfl ?_
          refine mm_geti C fl_X7_28 (mm_dec dk_X7_readAnd 12 rfl) rfl rfl (Or.inl rfl) ?_
          have g12 : -2147483648 ≤ (h12_.1 63 6) ∧ (h12_.1 63 6) ≤ 2147483647 := i12_.1 63 6
          refine mm_iconst C (mm_dec dk_X7_readAnd 13 rfl) ⟨by decide, by decide⟩ ?_
          refine mm_icmp_ne (tgt := 53) C (mm_dec dk_X7_readAnd 14 rfl) (by decide) (fun c24 => ?_) (fun c24 => ?_)
          · skip
            refine mm_fgt 0 ?_
            refine mm_fgt 1 ?_
            refine mm_fgt 2 ?_
            exact J53
          · skip
            refine mm_aload_n C (mm_dec dk_X7_readAnd 15 rfl) rfl ?_
            refine mm_cVv (rest := []) C1 ev_X7_52 (mm_dec dk_X7_readAnd 16 rfl) (c_X7_step x.2.1 hl (d - 1) (by omega) h12_ i12_ ) rfl rfl (Nat.le_of_ble_eq_true rfl) ⟨by decide, by decide⟩ rfl (fun h28c hp28 => ?_) (fun _ _ q => q.elim)
            obtain ⟨i28c, g28c, y28_0⟩ := hp28
            have f28c : mm_fr [(63, 4), (63, 5), (63, 6), (63, 7), (63, 8), (63, 9), (63, 10)] [64] h h28c := mm_fr_tr f12_ g28c (by decide +kernel)
            have g14 : -2147483648 ≤ (h28c.1 63 5) ∧ (h28c.1 63 5) ≤ 2147483647 := i28c.1 63 5
            have g15 : 0 ≤ (h28c.1 63 7) ∧ (h28c.1 63 7) ≤ 500 := i28c.1 63 7
            refine mm_aload_n C (mm_dec dk_X7_readAnd 17 rfl) rfl ?_
            refine mm_iload_n C (mm_dec dk_X7_readAnd 18 rfl) rfl ?_
            refine mm_cVi (rest := []) C1 ev_X7_103 (mm_dec dk_X7_readAnd 19 rfl) (c_X7_readNot_k1 x.2.1 hl (d - 1) (by omega) h28c i28c p1 ⟨by omega, by omega⟩ (by omega)) rfl rfl (Nat.le_of_ble_eq_true rfl) ⟨by decide, by decide⟩ rfl (fun r33 h33c hp33 => ?_) (fun _ _ q => q.elim)
            obtain ⟨b33, i33c, g33c, y33_0⟩ := hp33
            have f33c : mm_fr [(63, 4), (63, 5), (63, 6), (63, 7), (63, 8), (63, 9), (63, 10)] [64] h h33c := mm_fr_tr f28c g33c (by decide +kernel)
            have g17 : -2147483648 ≤ (h33c.1 63 5) ∧ (h33c.1 63 5) ≤ 2147483647 := i33c.1 63 5
            have g18 : 0 ≤ (h33c.1 63 7) ∧ (h33c.1 63 7) ≤ 500 := i33c.1 63 7
            refine mm_if_ne (tgt := 41) C (mm_dec dk_X7_readAnd 20 rfl) (by decide) (fun c36 => ?_) (fun c36 => ?_)
            · skip
              refine mm_aload_n C (mm_dec dk_X7_readAnd 23 rfl) rfl ?_
              refine mm_ldc (z := 100012) C (mm_dec dk_X7_readAnd 24 rfl) kc_X7_106 (by decide) ?_
              refine mm_cVv (rest := []) C1 ev_X7_79 (mm_dec dk_X7_readAnd 25 rfl) (c_X7_emit x.2.1 hl (d - 1) (by omega) h33c i33c 100012) rfl rfl (Nat.le_of_ble_eq_true rfl) ⟨by decide, by decide⟩ rfl (fun h44c hp44 => ?_) (fun _ _ q => q.elim)
              obtain ⟨i44c, g44c⟩ := hp44
              have f44c : mm_fr [(63, 4), (63, 5), (63, 6), (63, 7), (63, 8), (63, 9), (63, 10)] [64] h h44c := mm_fr_tr f33c g44c (by decide +kernel)
              have q44c_20 : h44c.1 63 5 = h33c.1 63 5 := g44c.1 63 5 (by decide)
              have q44c_21 : h44c.1 63 7 = h33c.1 63 7 := g44c.1 63 7 (by decide)
              refine mm_iincL (ls2 := [mR 63, mI p1, mI (x12_2 + 1)]) C (mm_dec dk_X7_readAnd 26 rfl) rfl (by decide) ⟨by omega, by omega⟩ rfl ?_
              refine mm_goto (tgt := 12) C (mm_dec dk_X7_readAnd 27 rfl) (by decide) ?_
              exact ih12 (x12_2 + 1) ⟨by omega, by omega⟩ h44c i44c f44c (by omega) (by omega)
            · skip
              refine mm_iconst C (mm_dec dk_X7_readAnd 21 rfl) ⟨by decide, by decide⟩ ?_
              exact mm_zret C T (mm_dec dk_X7_readAnd 22 rfl) (by decide : 0 ≤ 0) (by decide : 0 ≤ 0) (by omega) ⟨_, rfl, ⟨⟨by omega, by omega⟩, i33c, f33c, by omega⟩⟩
    refine mm_istore_nL (ls2 := [mR 63, mI p1, mI 0]) C (mm_dec dk_X7_readAnd 7 rfl) (by decide) rfl ?_
    exact J12 (((500 - 0) : Int) + 1).toNat 0 ⟨by omega, by omega⟩ h2c i2c f2c (by omega) (by omega)
  · skip
    refine mm_iconst C (mm_dec dk_X7_readAnd 4 rfl) ⟨by decide, by decide⟩ ?_
    exact mm_zret C T (mm_dec dk_X7_readAnd 5 rfl) (by decide : 0 ≤ 0) (by decide : 0 ≤ 0) (by omega) ⟨_, rfl, ⟨⟨by omega, by omega⟩, i2c, f2c, by omega⟩⟩
set_option maxRecDepth 100000 in
set_option maxHeartbeats 4000000 in
theorem c_X7_readOr_k1 (l : Launch) (hl : l.stackTraces = false) (d : Nat) (hd : 40 ≤ d) (h : mH) (i0 : mm_inv h) (p1 : Int) (bp1 : 1 ≤ p1 ∧ p1 ≤ 1) (t0 : (h.1 63 5 = 0 ∨ h.1 63 7 ≤ 499)) : mm_Met l d yX7_readOr cX7_readOr 3 (some .boolean) [mR 63, mI p1] h (mm_pi fun r h2 => (0 ≤ r ∧ r ≤ 1) ∧ mm_inv h2 ∧ mm_fr [(63, 4), (63, 5), (63, 6), (63, 7), (63, 8), (63, 9), (63, 10)] [64] h h2 ∧ (h2.1 63 5 = 0 ∨ h2.1 63 7 ≤ 499)) mm_nx 0 0 := by
  refine mm_ofW (ls := [mR 63, mI p1, mU]) hl (by decide) rfl (Nat.le_of_ble_eq_true rfl) ?_
  intro x hxl C T hnm htb
  subst hxl
  have C1 := mm_OK_le (d' := d - 1 + 1) (by omega) C
  have C8 := mm_OK_le (d' := d - 8 + 8) (by omega) C
  refine mm_rng (fun hr _ => ?_)
  have ap1 : -2147483648 ≤ p1 ∧ p1 < 2147483648 := mm_ok_at hr (i := 1) rfl
  have f0 : mm_fr [(63, 4), (63, 5), (63, 6), (63, 7), (63, 8), (63, 9), (63, 10)] [64] h h := mm_fr_rf
  have g1 : -2147483648 ≤ h.1 63 5 ∧ h.1 63 5 ≤ 2147483647 := i0.1 63 5
  have g2 : 0 ≤ h.1 63 7 ∧ h.1 63 7 ≤ 500 := i0.1 63 7
  refine mm_iload_n C (mm_dec dk_X7_readOr 0 rfl) rfl ?_
  refine mm_bipush C (mm_dec dk_X7_readOr 1 rfl) ⟨by decide, by decide⟩ ?_
  refine mm_icmp_lt (tgt := 41) C (mm_dec dk_X7_readOr 2 rfl) (by decide) (fun c3 => ?_) (fun c3 => ?_)
  · skip
    refine mm_aload_n C (mm_dec dk_X7_readOr 21 rfl) rfl ?_
    refine mm_iload_n C (mm_dec dk_X7_readOr 22 rfl) rfl ?_
    refine mm_cVi (rest := []) C1 ev_X7_99 (mm_dec dk_X7_readOr 23 rfl) (c_X7_readAnd_k1 x.2.1 hl (d - 1) (by omega) h i0 p1 ⟨by omega, by omega⟩ (by omega)) rfl rfl (Nat.le_of_ble_eq_true rfl) ⟨by decide, by decide⟩ rfl (fun r43 h43c hp43 => ?_) (fun _ _ q => q.elim)
    obtain ⟨b43, i43c, g43c, y43_0⟩ := hp43
    have f43c : mm_fr [(63, 4), (63, 5), (63, 6), (63, 7), (63, 8), (63, 9), (63, 10)] [64] h h43c := mm_fr_tr f0 g43c (by decide +kernel)
    have g4 : -2147483648 ≤ (h43c.1 63 5) ∧ (h43c.1 63 5) ≤ 2147483647 := i43c.1 63 5
    have g5 : 0 ≤ (h43c.1 63 7) ∧ (h43c.1 63 7) ≤ 500 := i43c.1 63 7
    refine mm_if_ne (tgt := 51) C (mm_dec dk_X7_readOr 24 rfl) (by decide) (fun c46 => ?_) (fun c46 => ?_)
    · skip
      refine mm_iconst C (mm_dec dk_X7_readOr 27 rfl) ⟨by decide, by decide⟩ ?_
      have J53 : ∀ (n : Nat) (x53_2 : Int) (bx53_2 : 0 ≤ x53_2 ∧ x53_2 ≤ 500) (h53_ : mH) (i53_ : mm_inv h53_) (f53_ : mm_fr [(63, 4), (63, 5), (63, 6), (63, 7), (63, 8), (63, 9), (63, 10)] [64] h h53_) (w53_0 : (h53_.1 63 5 = 0 ∨ h53_.1 63 7 ≤ 499)), (500 - x53_2 : Int) < n → mm_W x 0 0 53 [mR 63, mI p1, mI x53_2] [] h53_ := by
        intro n
        induction n with
        | zero =>
          intro x53_2 bx53_2 h53_ i53_ f53_ w53_0 hm
          have g6 : -2147483648 ≤ h53_.1 63 5 ∧ h53_.1 63 5 ≤ 2147483647 := i53_.1 63 5
          have g7 : 0 ≤ h53_.1 63 7 ∧ h53_.1 63 7 ≤ 500 := i53_.1 63 7
          exfalso; omega
        | succ n ih53 =>
          intro x53_2 bx53_2 h53_ i53_ f53_ w53_0 hm53
          have g8 : -2147483648 ≤ h53_.1 63 5 ∧ h53_.1 63 5 ≤ 2147483647 := i53_.1 63 5
          have g9 : 0 ≤ h53_.1 63 7 ∧ h53_.1 63 7 ≤ 500 := i53_.1 63 7
          refine mm_iload_n C (mm_dec dk_X7_readOr 29 rfl) rfl ?_
          refine mm_sipush C (mm_dec dk_X7_readOr 30 rfl) ⟨by decide, by decide⟩ ?_
          have J94 : mm_W x 0 0 94 [mU, mU, mU] [] h53_ := by
            have g10 : -2147483648 ≤ h53_.1 63 5 ∧ h53_.1 63 5 ≤ 2147483647 := i53_.1 63 5
            have g11 : 0 ≤ h53_.1 63 7 ∧ h53_.1 63 7 ≤ 500 := i53_.1 63 7
            refine mm_iconst C (mm_dec dk_X7_readOr 49 rfl) ⟨by decide, by decide⟩ ?_
            exact mm_zret C T (mm_dec dk_X7_readOr 50 rfl) (by decide : 0 ≤ 0) (by decide : 0 ≤ 0) (by omega) ⟨_, rfl, ⟨⟨by omega, by omega⟩, i53_, f53_, by omega⟩⟩
          refine mm_icmp_ge (tgt := 94) C (mm_dec dk_X7_readOr 31 rfl) (by decide) (fun c57 => ?_) (fun c57 => ?_)
          · skip
            refine mm_fgt 0 ?_
            refine mm_fgt 1 ?_
            refine mm_fgt 2 ?_
            exact J94
          · skip
            refine mm_aload_n C (mm_dec dk_X7_readOr 32 rfl) rfl ?_
            refine mm_geti C fl_X7_28 (mm_dec dk_X7_readOr 33 rfl) rfl rfl (Or.inl rfl) ?_
            have g12 : -2147483648 ≤ (h53_.1 63 6) ∧ (h53_.1 63 6) ≤ 2147483647 := i53_.1 63 6
            refine mm_iconst C (mm_dec dk_X7_readOr 34 rfl) ⟨by decide, by decide⟩ ?_
            refine mm_icmp_ne (tgt := 94) C (mm_dec dk_X7_readOr 35 rfl) (by decide) (fun c65 => ?_) (fun c65 => ?_)
            · skip
              refine mm_fgt 0 ?_
              refine mm_fgt 1 ?_
              refine mm_fgt 2 ?_
              exact J94
            · skip
              refine mm_aload_n C (mm_dec dk_X7_readOr 36 rfl) rfl ?_
              refine mm_cVv (rest := []) C1 ev_X7_52 (mm_dec dk_X7_readOr 37 rfl) (c_X7_step x.2.1 hl (d - 1) (by omega) h53_ i53_ ) rfl rfl (Nat.le_of_ble_eq_true rfl) ⟨by decide, by decide⟩ rfl (fun h69c hp69 => ?_) (fun _ _ q => q.elim)
              obtain ⟨i69c, g69c, y69_0⟩ := hp69
              have f69c : mm_fr [(63, 4), (63, 5), (63, 6), (63, 7), (63, 8), (63, 9), (63, 10)] [64] h h69c := mm_fr_tr f53_ g69c (by decide +kernel)
              have g14 : -2147483648 ≤ (h69c.1 63 5) ∧ (h69c.1 63 5) ≤ 2147483647 := i69c.1 63 5
              have g15 : 0 ≤ (h69c.1 63 7) ∧ (h69c.1 63 7) ≤ 500 := i69c.1 63 7
              refine mm_aload_n C (mm_dec dk_X7_readOr 38 rfl) rfl ?_
              refine mm_iload_n C (mm_dec dk_X7_readOr 39 rfl) rfl ?_
              refine mm_cVi (rest := []) C1 ev_X7_99 (mm_dec dk_X7_readOr 40 rfl) (c_X7_readAnd_k1 x.2.1 hl (d - 1) (by omega) h69c i69c p1 ⟨by omega, by omega⟩ (by omega)) rfl rfl (Nat.le_of_ble_eq_true rfl) ⟨by decide, by decide⟩ rfl (fun r74 h74c hp74 => ?_) (fun _ _ q => q.elim)
              obtain ⟨b74, i74c, g74c, y74_0⟩ := hp74
              have f74c : mm_fr [(63, 4), (63, 5), (63, 6), (63, 7), (63, 8), (63, 9), (63, 10)] [64] h h74c := mm_fr_tr f69c g74c (by decide +kernel)
              have g17 : -2147483648 ≤ (h74c.1 63 5) ∧ (h74c.1 63 5) ≤ 2147483647 := i74c.1 63 5
              have g18 : 0 ≤ (h74c.1 63 7) ∧ (h74c.1 63 7) ≤ 500 := i74c.1 63 7
              refine mm_if_ne (tgt := 82) C (mm_dec dk_X7_readOr 41 rfl) (by decide) (fun c77 => ?_) (fun c77 => ?_)
              · skip
                refine mm_aload_n C (mm_dec dk_X7_readOr 44 rfl) rfl ?_
                refine mm_ldc (z := 100011) C (mm_dec dk_X7_readOr 45 rfl) kc_X7_102 (by decide) ?_
                refine mm_cVv (rest := []) C1 ev_X7_79 (mm_dec dk_X7_readOr 46 rfl) (c_X7_emit x.2.1 hl (d - 1) (by omega) h74c i74c 100011) rfl rfl (Nat.le_of_ble_eq_true rfl) ⟨by decide, by decide⟩ rfl (fun h85c hp85 => ?_) (fun _ _ q => q.elim)
                obtain ⟨i85c, g85c⟩ := hp85
                have f85c : mm_fr [(63, 4), (63, 5), (63, 6), (63, 7), (63, 8), (63, 9), (63, 10)] [64] h h85c := mm_fr_tr f74c g85c (by decide +kernel)
                have q85c_20 : h85c.1 63 5 = h74c.1 63 5 := g85c.1 63 5 (by decide)
                have q85c_21 : h85c.1 63 7 = h74c.1 63 7 := g85c.1 63 7 (by decide)
                refine mm_iincL (ls2 := [mR 63, mI p1, mI (x53_2 + 1)]) C (mm_dec dk_X7_readOr 47 rfl) rfl (by decide) ⟨by omega, by omega⟩ rfl ?_
                refine mm_goto (tgt := 53) C (mm_dec dk_X7_readOr 48 rfl) (by decide) ?_
                exact ih53 (x53_2 + 1) ⟨by omega, by omega⟩ h85c i85c f85c (by omega) (by omega)
              · skip
                refine mm_iconst C (mm_dec dk_X7_readOr 42 rfl) ⟨by decide, by decide⟩ ?_
                exact mm_zret C T (mm_dec dk_X7_readOr 43 rfl) (by decide : 0 ≤ 0) (by decide : 0 ≤ 0) (by omega) ⟨_, rfl, ⟨⟨by omega, by omega⟩, i74c, f74c, by omega⟩⟩
      refine mm_istore_nL (ls2 := [mR 63, mI p1, mI 0]) C (mm_dec dk_X7_readOr 28 rfl) (by decide) rfl ?_
      exact J53 (((500 - 0) : Int) + 1).toNat 0 ⟨by omega, by omega⟩ h43c i43c f43c (by omega) (by omega)
    · skip
      refine mm_iconst C (mm_dec dk_X7_readOr 25 rfl) ⟨by decide, by decide⟩ ?_
      exact mm_zret C T (mm_dec dk_X7_readOr 26 rfl) (by decide : 0 ≤ 0) (by decide : 0 ≤ 0) (by omega) ⟨_, rfl, ⟨⟨by omega, by omega⟩, i43c, f43c, by omega⟩⟩
  · skip
    exfalso; omega
set_option maxRecDepth 100000 in
set_option maxHeartbeats 4000000 in
theorem c_X7_readPart_k0 (l : Launch) (hl : l.stackTraces = false) (d : Nat) (hd : 41 ≤ d) (h : mH) (i0 : mm_inv h) (p1 : Int) (bp1 : 0 ≤ p1 ∧ p1 ≤ 0) (t0 : (h.1 63 5 = 0 ∨ h.1 63 7 ≤ 499)) : mm_Met l d yX7_readPart cX7_readPart 2 (some .boolean) [mR 63, mI p1] h (mm_pi fun r h2 => (0 ≤ r ∧ r ≤ 1) ∧ mm_inv h2 ∧ mm_fr [(63, 4), (63, 5), (63, 6), (63, 7), (63, 8), (63, 9), (63, 10)] [64] h h2 ∧ (h2.1 63 5 = 0 ∨ h2.1 63 7 ≤ 499)) mm_nx 0 0 := by
  refine mm_ofW (ls := [mR 63, mI p1]) hl (by decide) rfl (Nat.le_of_ble_eq_true rfl) ?_
  intro x hxl C T hnm htb
  subst hxl
  have C1 := mm_OK_le (d' := d - 1 + 1) (by omega) C
  have C8 := mm_OK_le (d' := d - 8 + 8) (by omega) C
  refine mm_rng (fun hr _ => ?_)
  have ap1 : -2147483648 ≤ p1 ∧ p1 < 2147483648 := mm_ok_at hr (i := 1) rfl
  have f0 : mm_fr [(63, 4), (63, 5), (63, 6), (63, 7), (63, 8), (63, 9), (63, 10)] [64] h h := mm_fr_rf
  have g1 : -2147483648 ≤ h.1 63 5 ∧ h.1 63 5 ≤ 2147483647 := i0.1 63 5
  have g2 : 0 ≤ h.1 63 7 ∧ h.1 63 7 ≤ 500 := i0.1 63 7
  refine mm_aload_n C (mm_dec dk_X7_readPart 0 rfl) rfl ?_
  refine mm_bipush C (mm_dec dk_X7_readPart 1 rfl) ⟨by decide, by decide⟩ ?_
  refine mm_cVi (rest := []) C1 ev_X7_96 (mm_dec dk_X7_readPart 2 rfl) (c_X7_isSign x.2.1 hl (d - 1) (by omega) h i0 40 (by omega)) rfl rfl (Nat.le_of_ble_eq_true rfl) ⟨by decide, by decide⟩ rfl (fun r3 h3c hp3 => ?_) (fun _ _ q => q.elim)
  obtain ⟨z3, y3⟩ := hp3
  rw [z3]
  have g4 : -2147483648 ≤ (h.2.1 62 (h.1 63 7)) ∧ (h.2.1 62 (h.1 63 7)) ≤ 2147483647 := i0.2.1 62 (h.1 63 7)
  refine mm_if_eq (tgt := 38) C (mm_dec dk_X7_readPart 3 rfl) (by decide) (fun c6 => ?_) (fun c6 => ?_)
  · skip
    refine mm_aload_n C (mm_dec dk_X7_readPart 20 rfl) rfl ?_
    refine mm_geti C fl_X7_25 (mm_dec dk_X7_readPart 21 rfl) rfl rfl (Or.inl rfl) ?_
    refine mm_iconst C (mm_dec dk_X7_readPart 22 rfl) ⟨by decide, by decide⟩ ?_
    have J117 : ∀ (h117_ : mH) (i117_ : mm_inv h117_) (f117_ : mm_fr [(63, 4), (63, 5), (63, 6), (63, 7), (63, 8), (63, 9), (63, 10)] [64] h h117_) (w117_0 : (h117_.1 63 5 = 0 ∨ h117_.1 63 7 ≤ 499)), mm_W x 0 0 117 [mR 63, mU] [] h117_ := by
      intro h117_ i117_ f117_ w117_0
      have g5 : -2147483648 ≤ h117_.1 63 5 ∧ h117_.1 63 5 ≤ 2147483647 := i117_.1 63 5
      have g6 : 0 ≤ h117_.1 63 7 ∧ h117_.1 63 7 ≤ 500 := i117_.1 63 7
      refine mm_aload_n C (mm_dec dk_X7_readPart 61 rfl) rfl ?_
      refine mm_cVv (rest := []) C1 ev_X7_52 (mm_dec dk_X7_readPart 62 rfl) (c_X7_step x.2.1 hl (d - 1) (by omega) h117_ i117_ ) rfl rfl (Nat.le_of_ble_eq_true rfl) ⟨by decide, by decide⟩ rfl (fun h118c hp118 => ?_) (fun _ _ q => q.elim)
      obtain ⟨i118c, g118c, y118_0⟩ := hp118
      have f118c : mm_fr [(63, 4), (63, 5), (63, 6), (63, 7), (63, 8), (63, 9), (63, 10)] [64] h h118c := mm_fr_tr f117_ g118c (by decide +kernel)
      have g8 : -2147483648 ≤ (h118c.1 63 5) ∧ (h118c.1 63 5) ≤ 2147483647 := i118c.1 63 5
      have g9 : 0 ≤ (h118c.1 63 7) ∧ (h118c.1 63 7) ≤ 500 := i118c.1 63 7
      refine mm_iconst C (mm_dec dk_X7_readPart 63 rfl) ⟨by decide, by decide⟩ ?_
      exact mm_zret C T (mm_dec dk_X7_readPart 64 rfl) (by decide : 0 ≤ 0) (by decide : 0 ≤ 0) (by omega) ⟨_, rfl, ⟨⟨by omega, by omega⟩, i118c, f118c, by omega⟩⟩
    refine mm_icmp_ne (tgt := 100) C (mm_dec dk_X7_readPart 23 rfl) (by decide) (fun c43 => ?_) (fun c43 => ?_)
    · skip
      refine mm_aload_n C (mm_dec dk_X7_readPart 52 rfl) rfl ?_
      refine mm_cVi (rest := []) C1 ev_X7_89 (mm_dec dk_X7_readPart 53 rfl) (c_X7_isNumber x.2.1 hl (d - 1) (by omega) h i0 ) rfl rfl (Nat.le_of_ble_eq_true rfl) ⟨by decide, by decide⟩ rfl (fun r101 h101c hp101 => ?_) (fun _ _ q => q.elim)
      obtain ⟨b101, i101c, g101c⟩ := hp101
      have f101c : mm_fr [(63, 4), (63, 5), (63, 6), (63, 7), (63, 8), (63, 9), (63, 10)] [64] h h101c := mm_fr_tr f0 g101c (by decide +kernel)
      have q101c_11 : h101c.1 63 5 = h.1 63 5 := g101c.1 63 5 (by decide)
      have q101c_12 : h101c.1 63 7 = h.1 63 7 := g101c.1 63 7 (by decide)
      refine mm_if_ne (tgt := 109) C (mm_dec dk_X7_readPart 54 rfl) (by decide) (fun c104 => ?_) (fun c104 => ?_)
      · skip
        refine mm_aload_n C (mm_dec dk_X7_readPart 57 rfl) rfl ?_
        refine mm_aload_n C (mm_dec dk_X7_readPart 58 rfl) rfl ?_
        refine mm_cVi (rest := [mR 63]) C1 ev_X7_92 (mm_dec dk_X7_readPart 59 rfl) (c_X7_numberOfToken x.2.1 hl (d - 1) (by omega) h101c i101c ) rfl rfl (Nat.le_of_ble_eq_true rfl) ⟨by decide, by decide⟩ rfl (fun r111 h111c hp111 => ?_) (fun _ _ q => q.elim)
        obtain ⟨b111, z111⟩ := hp111
        rw [z111]
        refine mm_cVv (rest := []) C1 ev_X7_79 (mm_dec dk_X7_readPart 60 rfl) (c_X7_emit x.2.1 hl (d - 1) (by omega) h101c i101c r111) rfl rfl (Nat.le_of_ble_eq_true rfl) ⟨by decide, by decide⟩ rfl (fun h114c hp114 => ?_) (fun _ _ q => q.elim)
        obtain ⟨i114c, g114c⟩ := hp114
        have f114c : mm_fr [(63, 4), (63, 5), (63, 6), (63, 7), (63, 8), (63, 9), (63, 10)] [64] h h114c := mm_fr_tr f101c g114c (by decide +kernel)
        have q114c_15 : h114c.1 63 5 = h101c.1 63 5 := g114c.1 63 5 (by decide)
        have q114c_16 : h114c.1 63 7 = h101c.1 63 7 := g114c.1 63 7 (by decide)
        refine mm_fgt 1 ?_
        exact J117 h114c i114c f114c (by omega)
      · skip
        refine mm_iconst C (mm_dec dk_X7_readPart 55 rfl) ⟨by decide, by decide⟩ ?_
        exact mm_zret C T (mm_dec dk_X7_readPart 56 rfl) (by decide : 0 ≤ 0) (by decide : 0 ≤ 0) (by omega) ⟨_, rfl, ⟨⟨by omega, by omega⟩, i101c, f101c, by omega⟩⟩
    · skip
      refine mm_aload_n C (mm_dec dk_X7_readPart 24 rfl) rfl ?_
      refine mm_geti C fl_X7_28 (mm_dec dk_X7_readPart 25 rfl) rfl rfl (Or.inl rfl) ?_
      have g17 : -2147483648 ≤ (h.1 63 6) ∧ (h.1 63 6) ≤ 2147483647 := i0.1 63 6
      refine mm_bipush C (mm_dec dk_X7_readPart 26 rfl) ⟨by decide, by decide⟩ ?_
      refine mm_icmp_ge (tgt := 61) C (mm_dec dk_X7_readPart 27 rfl) (by decide) (fun c52 => ?_) (fun c52 => ?_)
      · skip
        refine mm_aload_n C (mm_dec dk_X7_readPart 32 rfl) rfl ?_
        refine mm_aload_n C (mm_dec dk_X7_readPart 33 rfl) rfl ?_
        refine mm_geti C fl_X7_28 (mm_dec dk_X7_readPart 34 rfl) rfl rfl (Or.inl rfl) ?_
        refine mm_bipush C (mm_dec dk_X7_readPart 35 rfl) ⟨by decide, by decide⟩ ?_
        have J94 : ∀ (s94_1 : Int) (bs94_1 : -2147483648 ≤ s94_1 ∧ s94_1 ≤ 2147483647), mm_W x 0 0 94 [mR 63, mU] [mI s94_1, mR 63] h := by
          intro s94_1 bs94_1
          have g18 : -2147483648 ≤ h.1 63 5 ∧ h.1 63 5 ≤ 2147483647 := i0.1 63 5
          have g19 : 0 ≤ h.1 63 7 ∧ h.1 63 7 ≤ 500 := i0.1 63 7
          refine mm_cVv (rest := []) C1 ev_X7_79 (mm_dec dk_X7_readPart 50 rfl) (c_X7_emit x.2.1 hl (d - 1) (by omega) h i0 s94_1) rfl rfl (Nat.le_of_ble_eq_true rfl) ⟨by decide, by decide⟩ rfl (fun h94c hp94 => ?_) (fun _ _ q => q.elim)
          obtain ⟨i94c, g94c⟩ := hp94
          have f94c : mm_fr [(63, 4), (63, 5), (63, 6), (63, 7), (63, 8), (63, 9), (63, 10)] [64] h h94c := mm_fr_tr f0 g94c (by decide +kernel)
          have q94c_21 : h94c.1 63 5 = h.1 63 5 := g94c.1 63 5 (by decide)
          have q94c_22 : h94c.1 63 6 = h.1 63 6 := g94c.1 63 6 (by decide)
          have q94c_23 : h94c.1 63 7 = h.1 63 7 := g94c.1 63 7 (by decide)
          refine mm_goto (tgt := 117) C (mm_dec dk_X7_readPart 51 rfl) (by decide) ?_
          exact J117 h94c i94c f94c (by omega)
        refine mm_icmp_ge (tgt := 84) C (mm_dec dk_X7_readPart 36 rfl) (by decide) (fun c68 => ?_) (fun c68 => ?_)
        · skip
          refine mm_ldc (z := 100000) C (mm_dec dk_X7_readPart 44 rfl) kc_X7_127 (by decide) ?_
          refine mm_aload_n C (mm_dec dk_X7_readPart 45 rfl) rfl ?_
          refine mm_geti C fl_X7_28 (mm_dec dk_X7_readPart 46 rfl) rfl rfl (Or.inl rfl) ?_
          refine mm_iaddw C (mm_dec dk_X7_readPart 47 rfl) ?_
          have g24 : -2147483648 ≤ (mm_w (100000 + (h.1 63 6))) ∧ (mm_w (100000 + (h.1 63 6))) < 2147483648 := mm_w_rg _
          refine mm_bipush C (mm_dec dk_X7_readPart 48 rfl) ⟨by decide, by decide⟩ ?_
          refine mm_isubw C (mm_dec dk_X7_readPart 49 rfl) ?_
          have g25 : -2147483648 ≤ (mm_w ((mm_w (100000 + (h.1 63 6))) - 10)) ∧ (mm_w ((mm_w (100000 + (h.1 63 6))) - 10)) < 2147483648 := mm_w_rg _
          refine mm_fgt 1 ?_
          exact J94 (mm_w ((mm_w (100000 + (h.1 63 6))) - 10)) ⟨by omega, by omega⟩
        · skip
          refine mm_ldc (z := 100007) C (mm_dec dk_X7_readPart 37 rfl) kc_X7_126 (by decide) ?_
          refine mm_aload_n C (mm_dec dk_X7_readPart 38 rfl) rfl ?_
          refine mm_geti C fl_X7_28 (mm_dec dk_X7_readPart 39 rfl) rfl rfl (Or.inl rfl) ?_
          refine mm_iadd C (mm_dec dk_X7_readPart 40 rfl) ⟨by omega, by omega⟩ ?_
          refine mm_bipush C (mm_dec dk_X7_readPart 41 rfl) ⟨by decide, by decide⟩ ?_
          refine mm_isub C (mm_dec dk_X7_readPart 42 rfl) ⟨by omega, by omega⟩ ?_
          refine mm_goto (tgt := 94) C (mm_dec dk_X7_readPart 43 rfl) (by decide) ?_
          refine mm_fgt 1 ?_
          exact J94 ((100007 + (h.1 63 6)) - 7) ⟨by omega, by omega⟩
      · skip
        refine mm_aload_n C (mm_dec dk_X7_readPart 28 rfl) rfl ?_
        refine mm_iconst C (mm_dec dk_X7_readPart 29 rfl) ⟨by decide, by decide⟩ ?_
        refine mm_cVi (rest := []) C1 ev_X7_65 (mm_dec dk_X7_readPart 30 rfl) (c_X7_refuse x.2.1 hl (d - 1) (by omega) h i0 3) rfl rfl (Nat.le_of_ble_eq_true rfl) ⟨by decide, by decide⟩ rfl (fun r57 h57c hp57 => ?_) (fun _ _ q => q.elim)
        obtain ⟨b57, i57c, g57c⟩ := hp57
        have f57c : mm_fr [(63, 4), (63, 5), (63, 6), (63, 7), (63, 8), (63, 9), (63, 10)] [64] h h57c := mm_fr_tr f0 g57c (by decide +kernel)
        have q57c_27 : h57c.1 63 5 = h.1 63 5 := g57c.1 63 5 (by decide)
        have q57c_28 : h57c.1 63 6 = h.1 63 6 := g57c.1 63 6 (by decide)
        have q57c_29 : h57c.1 63 7 = h.1 63 7 := g57c.1 63 7 (by decide)
        exact mm_zret C T (mm_dec dk_X7_readPart 31 rfl) (by decide : 0 ≤ 0) (by decide : 0 ≤ 0) (by omega) ⟨_, rfl, ⟨⟨by omega, by omega⟩, i57c, f57c, by omega⟩⟩
  · skip
    refine mm_aload_n C (mm_dec dk_X7_readPart 4 rfl) rfl ?_
    refine mm_cVv (rest := []) C1 ev_X7_52 (mm_dec dk_X7_readPart 5 rfl) (c_X7_step x.2.1 hl (d - 1) (by omega) h i0 ) rfl rfl (Nat.le_of_ble_eq_true rfl) ⟨by decide, by decide⟩ rfl (fun h10c hp10 => ?_) (fun _ _ q => q.elim)
    obtain ⟨i10c, g10c, y10_0⟩ := hp10
    have f10c : mm_fr [(63, 4), (63, 5), (63, 6), (63, 7), (63, 8), (63, 9), (63, 10)] [64] h h10c := mm_fr_tr f0 g10c (by decide +kernel)
    have g31 : -2147483648 ≤ (h10c.1 63 5) ∧ (h10c.1 63 5) ≤ 2147483647 := i10c.1 63 5
    have g32 : 0 ≤ (h10c.1 63 7) ∧ (h10c.1 63 7) ≤ 500 := i10c.1 63 7
    refine mm_aload_n C (mm_dec dk_X7_readPart 6 rfl) rfl ?_
    refine mm_iload_n C (mm_dec dk_X7_readPart 7 rfl) rfl ?_
    refine mm_iconst C (mm_dec dk_X7_readPart 8 rfl) ⟨by decide, by decide⟩ ?_
    refine mm_iadd C (mm_dec dk_X7_readPart 9 rfl) ⟨by omega, by omega⟩ ?_
    refine mm_cVi (rest := []) C1 ev_X7_75 (mm_dec dk_X7_readPart 10 rfl) (c_X7_readOr_k1 x.2.1 hl (d - 1) (by omega) h10c i10c (p1 + 1) ⟨by omega, by omega⟩ (by omega)) rfl rfl (Nat.le_of_ble_eq_true rfl) ⟨by decide, by decide⟩ rfl (fun r17 h17c hp17 => ?_) (fun _ _ q => q.elim)
    obtain ⟨b17, i17c, g17c, y17_0⟩ := hp17
    have f17c : mm_fr [(63, 4), (63, 5), (63, 6), (63, 7), (63, 8), (63, 9), (63, 10)] [64] h h17c := mm_fr_tr f10c g17c (by decide +kernel)
    have g34 : -2147483648 ≤ (h17c.1 63 5) ∧ (h17c.1 63 5) ≤ 2147483647 := i17c.1 63 5
    have g35 : 0 ≤ (h17c.1 63 7) ∧ (h17c.1 63 7) ≤ 500 := i17c.1 63 7
    have J37 : ∀ (s37_0 : Int) (bs37_0 : 0 ≤ s37_0 ∧ s37_0 ≤ 1) (h37_ : mH) (i37_ : mm_inv h37_) (f37_ : mm_fr [(63, 4), (63, 5), (63, 6), (63, 7), (63, 8), (63, 9), (63, 10)] [64] h h37_) (w37_0 : (h37_.1 63 5 = 0 ∨ h37_.1 63 7 ≤ 499)), mm_W x 0 0 37 [mU, mU] [mI s37_0] h37_ := by
      intro s37_0 bs37_0 h37_ i37_ f37_ w37_0
      have g36 : -2147483648 ≤ h37_.1 63 5 ∧ h37_.1 63 5 ≤ 2147483647 := i37_.1 63 5
      have g37 : 0 ≤ h37_.1 63 7 ∧ h37_.1 63 7 ≤ 500 := i37_.1 63 7
      exact mm_zret C T (mm_dec dk_X7_readPart 19 rfl) (by decide : 0 ≤ 0) (by decide : 0 ≤ 0) (by omega) ⟨_, rfl, ⟨⟨by omega, by omega⟩, i37_, f37_, by omega⟩⟩
    have J36 : ∀ (h36_ : mH) (i36_ : mm_inv h36_) (f36_ : mm_fr [(63, 4), (63, 5), (63, 6), (63, 7), (63, 8), (63, 9), (63, 10)] [64] h h36_) (w36_0 : (h36_.1 63 5 = 0 ∨ h36_.1 63 7 ≤ 499)), mm_W x 0 0 36 [mU, mU] [] h36_ := by
      intro h36_ i36_ f36_ w36_0
      have g38 : -2147483648 ≤ h36_.1 63 5 ∧ h36_.1 63 5 ≤ 2147483647 := i36_.1 63 5
      have g39 : 0 ≤ h36_.1 63 7 ∧ h36_.1 63 7 ≤ 500 := i36_.1 63 7
      refine mm_iconst C (mm_dec dk_X7_readPart 18 rfl) ⟨by decide, by decide⟩ ?_
      exact J37 0 ⟨by omega, by omega⟩ h36_ i36_ f36_ (by omega)
    refine mm_if_eq (tgt := 36) C (mm_dec dk_X7_readPart 11 rfl) (by decide) (fun c20 => ?_) (fun c20 => ?_)
    · skip
      refine mm_fgt 0 ?_
      refine mm_fgt 1 ?_
      exact J36 h17c i17c f17c (by omega)
    · skip
      refine mm_aload_n C (mm_dec dk_X7_readPart 12 rfl) rfl ?_
      refine mm_bipush C (mm_dec dk_X7_readPart 13 rfl) ⟨by decide, by decide⟩ ?_
      refine mm_cVi (rest := []) C1 ev_X7_72 (mm_dec dk_X7_readPart 14 rfl) (c_X7_readSign x.2.1 hl (d - 1) (by omega) h17c i17c 41 (by omega)) rfl rfl (Nat.le_of_ble_eq_true rfl) ⟨by decide, by decide⟩ rfl (fun r26 h26c hp26 => ?_) (fun _ _ q => q.elim)
      obtain ⟨b26, i26c, g26c, y26_0⟩ := hp26
      have f26c : mm_fr [(63, 4), (63, 5), (63, 6), (63, 7), (63, 8), (63, 9), (63, 10)] [64] h h26c := mm_fr_tr f17c g26c (by decide +kernel)
      have g41 : -2147483648 ≤ (h26c.1 63 5) ∧ (h26c.1 63 5) ≤ 2147483647 := i26c.1 63 5
      have g42 : 0 ≤ (h26c.1 63 7) ∧ (h26c.1 63 7) ≤ 500 := i26c.1 63 7
      refine mm_if_eq (tgt := 36) C (mm_dec dk_X7_readPart 15 rfl) (by decide) (fun c29 => ?_) (fun c29 => ?_)
      · skip
        refine mm_fgt 0 ?_
        refine mm_fgt 1 ?_
        exact J36 h26c i26c f26c (by omega)
      · skip
        refine mm_iconst C (mm_dec dk_X7_readPart 16 rfl) ⟨by decide, by decide⟩ ?_
        refine mm_goto (tgt := 37) C (mm_dec dk_X7_readPart 17 rfl) (by decide) ?_
        refine mm_fgt 0 ?_
        refine mm_fgt 1 ?_
        exact J37 1 ⟨by omega, by omega⟩ h26c i26c f26c (by omega)
set_option maxRecDepth 100000 in
set_option maxHeartbeats 4000000 in
theorem c_X7_readProduct_k0 (l : Launch) (hl : l.stackTraces = false) (d : Nat) (hd : 42 ≤ d) (h : mH) (i0 : mm_inv h) (p1 : Int) (bp1 : 0 ≤ p1 ∧ p1 ≤ 0) (t0 : (h.1 63 5 = 0 ∨ h.1 63 7 ≤ 499)) : mm_Met l d yX7_readProduct cX7_readProduct 4 (some .boolean) [mR 63, mI p1] h (mm_pi fun r h2 => (0 ≤ r ∧ r ≤ 1) ∧ mm_inv h2 ∧ mm_fr [(63, 4), (63, 5), (63, 6), (63, 7), (63, 8), (63, 9), (63, 10)] [64] h h2 ∧ (h2.1 63 5 = 0 ∨ h2.1 63 7 ≤ 499)) mm_nx 0 0 := by
  refine mm_ofW (ls := [mR 63, mI p1, mU, mU]) hl (by decide) rfl (Nat.le_of_ble_eq_true rfl) ?_
  intro x hxl C T hnm htb
  subst hxl
  have C1 := mm_OK_le (d' := d - 1 + 1) (by omega) C
  have C8 := mm_OK_le (d' := d - 8 + 8) (by omega) C
  refine mm_rng (fun hr _ => ?_)
  have ap1 : -2147483648 ≤ p1 ∧ p1 < 2147483648 := mm_ok_at hr (i := 1) rfl
  have f0 : mm_fr [(63, 4), (63, 5), (63, 6), (63, 7), (63, 8), (63, 9), (63, 10)] [64] h h := mm_fr_rf
  have g1 : -2147483648 ≤ h.1 63 5 ∧ h.1 63 5 ≤ 2147483647 := i0.1 63 5
  have g2 : 0 ≤ h.1 63 7 ∧ h.1 63 7 ≤ 500 := i0.1 63 7
  refine mm_aload_n C (mm_dec dk_X7_readProduct 0 rfl) rfl ?_
  refine mm_iload_n C (mm_dec dk_X7_readProduct 1 rfl) rfl ?_
  refine mm_cVi (rest := []) C1 ev_X7_121 (mm_dec dk_X7_readProduct 2 rfl) (c_X7_readPart_k0 x.2.1 hl (d - 1) (by omega) h i0 p1 ⟨by omega, by omega⟩ (by omega)) rfl rfl (Nat.le_of_ble_eq_true rfl) ⟨by decide, by decide⟩ rfl (fun r2 h2c hp2 => ?_) (fun _ _ q => q.elim)
  obtain ⟨b2, i2c, g2c, y2_0⟩ := hp2
  have f2c : mm_fr [(63, 4), (63, 5), (63, 6), (63, 7), (63, 8), (63, 9), (63, 10)] [64] h h2c := mm_fr_tr f0 g2c (by decide +kernel)
  have g4 : -2147483648 ≤ (h2c.1 63 5) ∧ (h2c.1 63 5) ≤ 2147483647 := i2c.1 63 5
  have g5 : 0 ≤ (h2c.1 63 7) ∧ (h2c.1 63 7) ≤ 500 := i2c.1 63 7
  refine mm_if_ne (tgt := 10) C (mm_dec dk_X7_readProduct 3 rfl) (by decide) (fun c5 => ?_) (fun c5 => ?_)
  · skip
    refine mm_iconst C (mm_dec dk_X7_readProduct 6 rfl) ⟨by decide, by decide⟩ ?_
    have J12 : ∀ (n : Nat) (x12_2 : Int) (bx12_2 : 0 ≤ x12_2 ∧ x12_2 ≤ 500) (h12_ : mH) (i12_ : mm_inv h12_) (f12_ : mm_fr [(63, 4), (63, 5), (63, 6), (63, 7), (63, 8), (63, 9), (63, 10)] [64] h h12_) (w12_0 : (h12_.1 63 5 = 0 ∨ h12_.1 63 7 ≤ 499)), (500 - x12_2 : Int) < n → mm_W x 0 0 12 [mR 63, mI p1, mI x12_2, mU] [] h12_ := by
      intro n
      induction n with
      | zero =>
        intro x12_2 bx12_2 h12_ i12_ f12_ w12_0 hm
        have g6 : -2147483648 ≤ h12_.1 63 5 ∧ h12_.1 63 5 ≤ 2147483647 := i12_.1 63 5
        have g7 : 0 ≤ h12_.1 63 7 ∧ h12_.1 63 7 ≤ 500 := i12_.1 63 7
        exfalso; omega
      | succ n ih12 =>
        intro x12_2 bx12_2 h12_ i12_ f12_ w12_0 hm12
        have g8 : -2147483648 ≤ h12_.1 63 5 ∧ h12_.1 63 5 ≤ 2147483647 := i12_.1 63 5
        have g9 : 0 ≤ h12_.1 63 7 ∧ h12_.1 63 7 ≤ 500 := i12_.1 63 7
        refine mm_iload_n C (mm_dec dk_X7_readProduct 8 rfl) rfl ?_
        refine mm_sipush C (mm_dec dk_X7_readProduct 9 rfl) ⟨by decide, by decide⟩ ?_
        have J79 : mm_W x 0 0 79 [mU, mU, mU, mU] [] h12_ := by
          have g10 : -2147483648 ≤ h12_.1 63 5 ∧ h12_.1 63 5 ≤ 2147483647 := i12_.1 63 5
          have g11 : 0 ≤ h12_.1 63 7 ∧ h12_.1 63 7 ≤ 500 := i12_.1 63 7
          refine mm_iconst C (mm_dec dk_X7_readProduct 40 rfl) ⟨by decide, by decide⟩ ?_
          exact mm_zret C T (mm_dec dk_X7_readProduct 41 rfl) (by decide : 0 ≤ 0) (by decide : 0 ≤ 0) (by omega) ⟨_, rfl, ⟨⟨by omega, by omega⟩, i12_, f12_, by omega⟩⟩
        refine mm_icmp_ge (tgt := 79) C (mm_dec dk_X7_readProduct 10 rfl) (by decide) (fun c16 => ?_) (fun c16 => ?_)
        · skip
          refine mm_fgt 0 ?_
          refine mm_fgt 1 ?_
          refine mm_fgt 2 ?_
          exact J79
        · skip
          refine mm_aload_n C (mm_dec dk_X7_readProduct 11 rfl) rfl ?_
          refine mm_bipush C (mm_dec dk_X7_readProduct 12 rfl) ⟨by decide, by decide⟩ ?_
          refine mm_cVi (rest := []) C1 ev_X7_96 (mm_dec dk_X7_readProduct 13 rfl) (c_X7_isSign x.2.1 hl (d - 1) (by omega) h12_ i12_ 42 (by omega)) rfl rfl (Nat.le_of_ble_eq_true rfl) ⟨by decide, by decide⟩ rfl (fun r22 h22c hp22 => ?_) (fun _ _ q => q.elim)
          obtain ⟨z22, y22⟩ := hp22
          rw [z22]
          have g13 : -2147483648 ≤ (h12_.2.1 62 (h12_.1 63 7)) ∧ (h12_.2.1 62 (h12_.1 63 7)) ≤ 2147483647 := i12_.2.1 62 (h12_.1 63 7)
          have J37 : mm_W x 0 0 37 [mR 63, mI p1, mI x12_2, mU] [] h12_ := by
            have g14 : -2147483648 ≤ h12_.1 63 5 ∧ h12_.1 63 5 ≤ 2147483647 := i12_.1 63 5
            have g15 : 0 ≤ h12_.1 63 7 ∧ h12_.1 63 7 ≤ 500 := i12_.1 63 7
            refine mm_aload_n C (mm_dec dk_X7_readProduct 19 rfl) rfl ?_
            refine mm_bipush C (mm_dec dk_X7_readProduct 20 rfl) ⟨by decide, by decide⟩ ?_
            refine mm_cVi (rest := []) C1 ev_X7_96 (mm_dec dk_X7_readProduct 21 rfl) (c_X7_isSign x.2.1 hl (d - 1) (by omega) h12_ i12_ 42 (by omega)) rfl rfl (Nat.le_of_ble_eq_true rfl) ⟨by decide, by decide⟩ rfl (fun r40 h40c hp40 => ?_) (fun _ _ q => q.elim)
            obtain ⟨z40, y40⟩ := hp40
            rw [z40]
            have J53 : ∀ (s53_0 : Int) (bs53_0 : 100017 ≤ s53_0 ∧ s53_0 ≤ 100018) (vs53_0 : (r40 ≠ 0 ∧ s53_0 = 100017) ∨ (r40 = 0 ∧ s53_0 = 100018)), mm_W x 0 0 53 [mR 63, mI p1, mI x12_2, mU] [mI s53_0] h12_ := by
              intro s53_0 bs53_0 vs53_0
              have g17 : -2147483648 ≤ h12_.1 63 5 ∧ h12_.1 63 5 ≤ 2147483647 := i12_.1 63 5
              have g18 : 0 ≤ h12_.1 63 7 ∧ h12_.1 63 7 ≤ 500 := i12_.1 63 7
              refine mm_istore_nL (ls2 := [mR 63, mI p1, mI x12_2, mI s53_0]) C (mm_dec dk_X7_readProduct 26 rfl) (by decide) rfl ?_
              refine mm_aload_n C (mm_dec dk_X7_readProduct 27 rfl) rfl ?_
              refine mm_cVv (rest := []) C1 ev_X7_52 (mm_dec dk_X7_readProduct 28 rfl) (c_X7_step x.2.1 hl (d - 1) (by omega) h12_ i12_ ) rfl rfl (Nat.le_of_ble_eq_true rfl) ⟨by decide, by decide⟩ rfl (fun h55c hp55 => ?_) (fun _ _ q => q.elim)
              obtain ⟨i55c, g55c, y55_0⟩ := hp55
              have f55c : mm_fr [(63, 4), (63, 5), (63, 6), (63, 7), (63, 8), (63, 9), (63, 10)] [64] h h55c := mm_fr_tr f12_ g55c (by decide +kernel)
              have g20 : -2147483648 ≤ (h55c.1 63 5) ∧ (h55c.1 63 5) ≤ 2147483647 := i55c.1 63 5
              have g21 : 0 ≤ (h55c.1 63 7) ∧ (h55c.1 63 7) ≤ 500 := i55c.1 63 7
              refine mm_aload_n C (mm_dec dk_X7_readProduct 29 rfl) rfl ?_
              refine mm_iload_n C (mm_dec dk_X7_readProduct 30 rfl) rfl ?_
              refine mm_cVi (rest := []) C1 ev_X7_121 (mm_dec dk_X7_readProduct 31 rfl) (c_X7_readPart_k0 x.2.1 hl (d - 1) (by omega) h55c i55c p1 ⟨by omega, by omega⟩ (by omega)) rfl rfl (Nat.le_of_ble_eq_true rfl) ⟨by decide, by decide⟩ rfl (fun r60 h60c hp60 => ?_) (fun _ _ q => q.elim)
              obtain ⟨b60, i60c, g60c, y60_0⟩ := hp60
              have f60c : mm_fr [(63, 4), (63, 5), (63, 6), (63, 7), (63, 8), (63, 9), (63, 10)] [64] h h60c := mm_fr_tr f55c g60c (by decide +kernel)
              have g23 : -2147483648 ≤ (h60c.1 63 5) ∧ (h60c.1 63 5) ≤ 2147483647 := i60c.1 63 5
              have g24 : 0 ≤ (h60c.1 63 7) ∧ (h60c.1 63 7) ≤ 500 := i60c.1 63 7
              refine mm_if_ne (tgt := 68) C (mm_dec dk_X7_readProduct 32 rfl) (by decide) (fun c63 => ?_) (fun c63 => ?_)
              · skip
                refine mm_aload_n C (mm_dec dk_X7_readProduct 35 rfl) rfl ?_
                refine mm_iload_n C (mm_dec dk_X7_readProduct 36 rfl) rfl ?_
                refine mm_cVv (rest := []) C1 ev_X7_79 (mm_dec dk_X7_readProduct 37 rfl) (c_X7_emit x.2.1 hl (d - 1) (by omega) h60c i60c s53_0) rfl rfl (Nat.le_of_ble_eq_true rfl) ⟨by decide, by decide⟩ rfl (fun h70c hp70 => ?_) (fun _ _ q => q.elim)
                obtain ⟨i70c, g70c⟩ := hp70
                have f70c : mm_fr [(63, 4), (63, 5), (63, 6), (63, 7), (63, 8), (63, 9), (63, 10)] [64] h h70c := mm_fr_tr f60c g70c (by decide +kernel)
                have q70c_26 : h70c.1 63 5 = h60c.1 63 5 := g70c.1 63 5 (by decide)
                have q70c_27 : h70c.1 63 7 = h60c.1 63 7 := g70c.1 63 7 (by decide)
                refine mm_iincL (ls2 := [mR 63, mI p1, mI (x12_2 + 1), mI s53_0]) C (mm_dec dk_X7_readProduct 38 rfl) rfl (by decide) ⟨by omega, by omega⟩ rfl ?_
                refine mm_goto (tgt := 12) C (mm_dec dk_X7_readProduct 39 rfl) (by decide) ?_
                refine mm_fgt 3 ?_
                exact ih12 (x12_2 + 1) ⟨by omega, by omega⟩ h70c i70c f70c (by omega) (by omega)
              · skip
                refine mm_iconst C (mm_dec dk_X7_readProduct 33 rfl) ⟨by decide, by decide⟩ ?_
                exact mm_zret C T (mm_dec dk_X7_readProduct 34 rfl) (by decide : 0 ≤ 0) (by decide : 0 ≤ 0) (by omega) ⟨_, rfl, ⟨⟨by omega, by omega⟩, i60c, f60c, by omega⟩⟩
            refine mm_if_eq (tgt := 51) C (mm_dec dk_X7_readProduct 22 rfl) (by decide) (fun c43 => ?_) (fun c43 => ?_)
            · skip
              refine mm_ldc (z := 100018) C (mm_dec dk_X7_readProduct 25 rfl) kc_X7_125 (by decide) ?_
              exact J53 100018 ⟨by omega, by omega⟩ (Or.inr (⟨by omega, rfl⟩))
            · skip
              refine mm_ldc (z := 100017) C (mm_dec dk_X7_readProduct 23 rfl) kc_X7_124 (by decide) ?_
              refine mm_goto (tgt := 53) C (mm_dec dk_X7_readProduct 24 rfl) (by decide) ?_
              exact J53 100017 ⟨by omega, by omega⟩ (Or.inl ⟨by omega, rfl⟩)
          refine mm_if_ne (tgt := 37) C (mm_dec dk_X7_readProduct 14 rfl) (by decide) (fun c25 => ?_) (fun c25 => ?_)
          · skip
            exact J37
          · skip
            refine mm_aload_n C (mm_dec dk_X7_readProduct 15 rfl) rfl ?_
            refine mm_bipush C (mm_dec dk_X7_readProduct 16 rfl) ⟨by decide, by decide⟩ ?_
            refine mm_cVi (rest := []) C1 ev_X7_96 (mm_dec dk_X7_readProduct 17 rfl) (c_X7_isSign x.2.1 hl (d - 1) (by omega) h12_ i12_ 47 (by omega)) rfl rfl (Nat.le_of_ble_eq_true rfl) ⟨by decide, by decide⟩ rfl (fun r31 h31c hp31 => ?_) (fun _ _ q => q.elim)
            obtain ⟨z31, y31⟩ := hp31
            rw [z31]
            refine mm_if_eq (tgt := 79) C (mm_dec dk_X7_readProduct 18 rfl) (by decide) (fun c34 => ?_) (fun c34 => ?_)
            · skip
              refine mm_fgt 0 ?_
              refine mm_fgt 1 ?_
              refine mm_fgt 2 ?_
              exact J79
            · skip
              exact J37
    refine mm_istore_nL (ls2 := [mR 63, mI p1, mI 0, mU]) C (mm_dec dk_X7_readProduct 7 rfl) (by decide) rfl ?_
    exact J12 (((500 - 0) : Int) + 1).toNat 0 ⟨by omega, by omega⟩ h2c i2c f2c (by omega) (by omega)
  · skip
    refine mm_iconst C (mm_dec dk_X7_readProduct 4 rfl) ⟨by decide, by decide⟩ ?_
    exact mm_zret C T (mm_dec dk_X7_readProduct 5 rfl) (by decide : 0 ≤ 0) (by decide : 0 ≤ 0) (by omega) ⟨_, rfl, ⟨⟨by omega, by omega⟩, i2c, f2c, by omega⟩⟩
set_option maxRecDepth 100000 in
set_option maxHeartbeats 4000000 in
theorem c_X7_readSum_k0 (l : Launch) (hl : l.stackTraces = false) (d : Nat) (hd : 43 ≤ d) (h : mH) (i0 : mm_inv h) (p1 : Int) (bp1 : 0 ≤ p1 ∧ p1 ≤ 0) (t0 : (h.1 63 5 = 0 ∨ h.1 63 7 ≤ 499)) : mm_Met l d yX7_readSum cX7_readSum 4 (some .boolean) [mR 63, mI p1] h (mm_pi fun r h2 => (0 ≤ r ∧ r ≤ 1) ∧ mm_inv h2 ∧ mm_fr [(63, 4), (63, 5), (63, 6), (63, 7), (63, 8), (63, 9), (63, 10)] [64] h h2 ∧ (h2.1 63 5 = 0 ∨ h2.1 63 7 ≤ 499)) mm_nx 0 0 := by
  refine mm_ofW (ls := [mR 63, mI p1, mU, mU]) hl (by decide) rfl (Nat.le_of_ble_eq_true rfl) ?_
  intro x hxl C T hnm htb
  subst hxl
  have C1 := mm_OK_le (d' := d - 1 + 1) (by omega) C
  have C8 := mm_OK_le (d' := d - 8 + 8) (by omega) C
  refine mm_rng (fun hr _ => ?_)
  have ap1 : -2147483648 ≤ p1 ∧ p1 < 2147483648 := mm_ok_at hr (i := 1) rfl
  have f0 : mm_fr [(63, 4), (63, 5), (63, 6), (63, 7), (63, 8), (63, 9), (63, 10)] [64] h h := mm_fr_rf
  have g1 : -2147483648 ≤ h.1 63 5 ∧ h.1 63 5 ≤ 2147483647 := i0.1 63 5
  have g2 : 0 ≤ h.1 63 7 ∧ h.1 63 7 ≤ 500 := i0.1 63 7
  refine mm_aload_n C (mm_dec dk_X7_readSum 0 rfl) rfl ?_
  refine mm_iload_n C (mm_dec dk_X7_readSum 1 rfl) rfl ?_
  refine mm_cVi (rest := []) C1 ev_X7_116 (mm_dec dk_X7_readSum 2 rfl) (c_X7_readProduct_k0 x.2.1 hl (d - 1) (by omega) h i0 p1 ⟨by omega, by omega⟩ (by omega)) rfl rfl (Nat.le_of_ble_eq_true rfl) ⟨by decide, by decide⟩ rfl (fun r2 h2c hp2 => ?_) (fun _ _ q => q.elim)
  obtain ⟨b2, i2c, g2c, y2_0⟩ := hp2
  have f2c : mm_fr [(63, 4), (63, 5), (63, 6), (63, 7), (63, 8), (63, 9), (63, 10)] [64] h h2c := mm_fr_tr f0 g2c (by decide +kernel)
  have g4 : -2147483648 ≤ (h2c.1 63 5) ∧ (h2c.1 63 5) ≤ 2147483647 := i2c.1 63 5
  have g5 : 0 ≤ (h2c.1 63 7) ∧ (h2c.1 63 7) ≤ 500 := i2c.1 63 7
  refine mm_if_ne (tgt := 10) C (mm_dec dk_X7_readSum 3 rfl) (by decide) (fun c5 => ?_) (fun c5 => ?_)
  · skip
    refine mm_iconst C (mm_dec dk_X7_readSum 6 rfl) ⟨by decide, by decide⟩ ?_
    have J12 : ∀ (n : Nat) (x12_2 : Int) (bx12_2 : 0 ≤ x12_2 ∧ x12_2 ≤ 500) (h12_ : mH) (i12_ : mm_inv h12_) (f12_ : mm_fr [(63, 4), (63, 5), (63, 6), (63, 7), (63, 8), (63, 9), (63, 10)] [64] h h12_) (w12_0 : (h12_.1 63 5 = 0 ∨ h12_.1 63 7 ≤ 499)), (500 - x12_2 : Int) < n → mm_W x 0 0 12 [mR 63, mI p1, mI x12_2, mU] [] h12_ := by
      intro n
      induction n with
      | zero =>
        intro x12_2 bx12_2 h12_ i12_ f12_ w12_0 hm
        have g6 : -2147483648 ≤ h12_.1 63 5 ∧ h12_.1 63 5 ≤ 2147483647 := i12_.1 63 5
        have g7 : 0 ≤ h12_.1 63 7 ∧ h12_.1 63 7 ≤ 500 := i12_.1 63 7
        exfalso; omega
      | succ n ih12 =>
        intro x12_2 bx12_2 h12_ i12_ f12_ w12_0 hm12
        have g8 : -2147483648 ≤ h12_.1 63 5 ∧ h12_.1 63 5 ≤ 2147483647 := i12_.1 63 5
        have g9 : 0 ≤ h12_.1 63 7 ∧ h12_.1 63 7 ≤ 500 := i12_.1 63 7
        refine mm_iload_n C (mm_dec dk_X7_readSum 8 rfl) rfl ?_
        refine mm_sipush C (mm_dec dk_X7_readSum 9 rfl) ⟨by decide, by decide⟩ ?_
        have J79 : mm_W x 0 0 79 [mU, mU, mU, mU] [] h12_ := by
          have g10 : -2147483648 ≤ h12_.1 63 5 ∧ h12_.1 63 5 ≤ 2147483647 := i12_.1 63 5
          have g11 : 0 ≤ h12_.1 63 7 ∧ h12_.1 63 7 ≤ 500 := i12_.1 63 7
          refine mm_iconst C (mm_dec dk_X7_readSum 40 rfl) ⟨by decide, by decide⟩ ?_
          exact mm_zret C T (mm_dec dk_X7_readSum 41 rfl) (by decide : 0 ≤ 0) (by decide : 0 ≤ 0) (by omega) ⟨_, rfl, ⟨⟨by omega, by omega⟩, i12_, f12_, by omega⟩⟩
        refine mm_icmp_ge (tgt := 79) C (mm_dec dk_X7_readSum 10 rfl) (by decide) (fun c16 => ?_) (fun c16 => ?_)
        · skip
          refine mm_fgt 0 ?_
          refine mm_fgt 1 ?_
          refine mm_fgt 2 ?_
          exact J79
        · skip
          refine mm_aload_n C (mm_dec dk_X7_readSum 11 rfl) rfl ?_
          refine mm_bipush C (mm_dec dk_X7_readSum 12 rfl) ⟨by decide, by decide⟩ ?_
          refine mm_cVi (rest := []) C1 ev_X7_96 (mm_dec dk_X7_readSum 13 rfl) (c_X7_isSign x.2.1 hl (d - 1) (by omega) h12_ i12_ 43 (by omega)) rfl rfl (Nat.le_of_ble_eq_true rfl) ⟨by decide, by decide⟩ rfl (fun r22 h22c hp22 => ?_) (fun _ _ q => q.elim)
          obtain ⟨z22, y22⟩ := hp22
          rw [z22]
          have g13 : -2147483648 ≤ (h12_.2.1 62 (h12_.1 63 7)) ∧ (h12_.2.1 62 (h12_.1 63 7)) ≤ 2147483647 := i12_.2.1 62 (h12_.1 63 7)
          have J37 : mm_W x 0 0 37 [mR 63, mI p1, mI x12_2, mU] [] h12_ := by
            have g14 : -2147483648 ≤ h12_.1 63 5 ∧ h12_.1 63 5 ≤ 2147483647 := i12_.1 63 5
            have g15 : 0 ≤ h12_.1 63 7 ∧ h12_.1 63 7 ≤ 500 := i12_.1 63 7
            refine mm_aload_n C (mm_dec dk_X7_readSum 19 rfl) rfl ?_
            refine mm_bipush C (mm_dec dk_X7_readSum 20 rfl) ⟨by decide, by decide⟩ ?_
            refine mm_cVi (rest := []) C1 ev_X7_96 (mm_dec dk_X7_readSum 21 rfl) (c_X7_isSign x.2.1 hl (d - 1) (by omega) h12_ i12_ 43 (by omega)) rfl rfl (Nat.le_of_ble_eq_true rfl) ⟨by decide, by decide⟩ rfl (fun r40 h40c hp40 => ?_) (fun _ _ q => q.elim)
            obtain ⟨z40, y40⟩ := hp40
            rw [z40]
            have J53 : ∀ (s53_0 : Int) (bs53_0 : 100015 ≤ s53_0 ∧ s53_0 ≤ 100016) (vs53_0 : (r40 ≠ 0 ∧ s53_0 = 100015) ∨ (r40 = 0 ∧ s53_0 = 100016)), mm_W x 0 0 53 [mR 63, mI p1, mI x12_2, mU] [mI s53_0] h12_ := by
              intro s53_0 bs53_0 vs53_0
              have g17 : -2147483648 ≤ h12_.1 63 5 ∧ h12_.1 63 5 ≤ 2147483647 := i12_.1 63 5
              have g18 : 0 ≤ h12_.1 63 7 ∧ h12_.1 63 7 ≤ 500 := i12_.1 63 7
              refine mm_istore_nL (ls2 := [mR 63, mI p1, mI x12_2, mI s53_0]) C (mm_dec dk_X7_readSum 26 rfl) (by decide) rfl ?_
              refine mm_aload_n C (mm_dec dk_X7_readSum 27 rfl) rfl ?_
              refine mm_cVv (rest := []) C1 ev_X7_52 (mm_dec dk_X7_readSum 28 rfl) (c_X7_step x.2.1 hl (d - 1) (by omega) h12_ i12_ ) rfl rfl (Nat.le_of_ble_eq_true rfl) ⟨by decide, by decide⟩ rfl (fun h55c hp55 => ?_) (fun _ _ q => q.elim)
              obtain ⟨i55c, g55c, y55_0⟩ := hp55
              have f55c : mm_fr [(63, 4), (63, 5), (63, 6), (63, 7), (63, 8), (63, 9), (63, 10)] [64] h h55c := mm_fr_tr f12_ g55c (by decide +kernel)
              have g20 : -2147483648 ≤ (h55c.1 63 5) ∧ (h55c.1 63 5) ≤ 2147483647 := i55c.1 63 5
              have g21 : 0 ≤ (h55c.1 63 7) ∧ (h55c.1 63 7) ≤ 500 := i55c.1 63 7
              refine mm_aload_n C (mm_dec dk_X7_readSum 29 rfl) rfl ?_
              refine mm_iload_n C (mm_dec dk_X7_readSum 30 rfl) rfl ?_
              refine mm_cVi (rest := []) C1 ev_X7_116 (mm_dec dk_X7_readSum 31 rfl) (c_X7_readProduct_k0 x.2.1 hl (d - 1) (by omega) h55c i55c p1 ⟨by omega, by omega⟩ (by omega)) rfl rfl (Nat.le_of_ble_eq_true rfl) ⟨by decide, by decide⟩ rfl (fun r60 h60c hp60 => ?_) (fun _ _ q => q.elim)
              obtain ⟨b60, i60c, g60c, y60_0⟩ := hp60
              have f60c : mm_fr [(63, 4), (63, 5), (63, 6), (63, 7), (63, 8), (63, 9), (63, 10)] [64] h h60c := mm_fr_tr f55c g60c (by decide +kernel)
              have g23 : -2147483648 ≤ (h60c.1 63 5) ∧ (h60c.1 63 5) ≤ 2147483647 := i60c.1 63 5
              have g24 : 0 ≤ (h60c.1 63 7) ∧ (h60c.1 63 7) ≤ 500 := i60c.1 63 7
              refine mm_if_ne (tgt := 68) C (mm_dec dk_X7_readSum 32 rfl) (by decide) (fun c63 => ?_) (fun c63 => ?_)
              · skip
                refine mm_aload_n C (mm_dec dk_X7_readSum 35 rfl) rfl ?_
                refine mm_iload_n C (mm_dec dk_X7_readSum 36 rfl) rfl ?_
                refine mm_cVv (rest := []) C1 ev_X7_79 (mm_dec dk_X7_readSum 37 rfl) (c_X7_emit x.2.1 hl (d - 1) (by omega) h60c i60c s53_0) rfl rfl (Nat.le_of_ble_eq_true rfl) ⟨by decide, by decide⟩ rfl (fun h70c hp70 => ?_) (fun _ _ q => q.elim)
                obtain ⟨i70c, g70c⟩ := hp70
                have f70c : mm_fr [(63, 4), (63, 5), (63, 6), (63, 7), (63, 8), (63, 9), (63, 10)] [64] h h70c := mm_fr_tr f60c g70c (by decide +kernel)
                have q70c_26 : h70c.1 63 5 = h60c.1 63 5 := g70c.1 63 5 (by decide)
                have q70c_27 : h70c.1 63 7 = h60c.1 63 7 := g70c.1 63 7 (by decide)
                refine mm_iincL (ls2 := [mR 63, mI p1, mI (x12_2 + 1), mI s53_0]) C (mm_dec dk_X7_readSum 38 rfl) rfl (by decide) ⟨by omega, by omega⟩ rfl ?_
                refine mm_goto (tgt := 12) C (mm_dec dk_X7_readSum 39 rfl) (by decide) ?_
                refine mm_fgt 3 ?_
                exact ih12 (x12_2 + 1) ⟨by omega, by omega⟩ h70c i70c f70c (by omega) (by omega)
              · skip
                refine mm_iconst C (mm_dec dk_X7_readSum 33 rfl) ⟨by decide, by decide⟩ ?_
                exact mm_zret C T (mm_dec dk_X7_readSum 34 rfl) (by decide : 0 ≤ 0) (by decide : 0 ≤ 0) (by omega) ⟨_, rfl, ⟨⟨by omega, by omega⟩, i60c, f60c, by omega⟩⟩
            refine mm_if_eq (tgt := 51) C (mm_dec dk_X7_readSum 22 rfl) (by decide) (fun c43 => ?_) (fun c43 => ?_)
            · skip
              refine mm_ldc (z := 100016) C (mm_dec dk_X7_readSum 25 rfl) kc_X7_120 (by decide) ?_
              exact J53 100016 ⟨by omega, by omega⟩ (Or.inr (⟨by omega, rfl⟩))
            · skip
              refine mm_ldc (z := 100015) C (mm_dec dk_X7_readSum 23 rfl) kc_X7_119 (by decide) ?_
              refine mm_goto (tgt := 53) C (mm_dec dk_X7_readSum 24 rfl) (by decide) ?_
              exact J53 100015 ⟨by omega, by omega⟩ (Or.inl ⟨by omega, rfl⟩)
          refine mm_if_ne (tgt := 37) C (mm_dec dk_X7_readSum 14 rfl) (by decide) (fun c25 => ?_) (fun c25 => ?_)
          · skip
            exact J37
          · skip
            refine mm_aload_n C (mm_dec dk_X7_readSum 15 rfl) rfl ?_
            refine mm_bipush C (mm_dec dk_X7_readSum 16 rfl) ⟨by decide, by decide⟩ ?_
            refine mm_cVi (rest := []) C1 ev_X7_96 (mm_dec dk_X7_readSum 17 rfl) (c_X7_isSign x.2.1 hl (d - 1) (by omega) h12_ i12_ 45 (by omega)) rfl rfl (Nat.le_of_ble_eq_true rfl) ⟨by decide, by decide⟩ rfl (fun r31 h31c hp31 => ?_) (fun _ _ q => q.elim)
            obtain ⟨z31, y31⟩ := hp31
            rw [z31]
            refine mm_if_eq (tgt := 79) C (mm_dec dk_X7_readSum 18 rfl) (by decide) (fun c34 => ?_) (fun c34 => ?_)
            · skip
              refine mm_fgt 0 ?_
              refine mm_fgt 1 ?_
              refine mm_fgt 2 ?_
              exact J79
            · skip
              exact J37
    refine mm_istore_nL (ls2 := [mR 63, mI p1, mI 0, mU]) C (mm_dec dk_X7_readSum 7 rfl) (by decide) rfl ?_
    exact J12 (((500 - 0) : Int) + 1).toNat 0 ⟨by omega, by omega⟩ h2c i2c f2c (by omega) (by omega)
  · skip
    refine mm_iconst C (mm_dec dk_X7_readSum 4 rfl) ⟨by decide, by decide⟩ ?_
    exact mm_zret C T (mm_dec dk_X7_readSum 5 rfl) (by decide : 0 ≤ 0) (by decide : 0 ≤ 0) (by omega) ⟨_, rfl, ⟨⟨by omega, by omega⟩, i2c, f2c, by omega⟩⟩
set_option maxRecDepth 100000 in
set_option maxHeartbeats 4000000 in
theorem c_X7_readTest_k0 (l : Launch) (hl : l.stackTraces = false) (d : Nat) (hd : 44 ≤ d) (h : mH) (i0 : mm_inv h) (p1 : Int) (bp1 : 0 ≤ p1 ∧ p1 ≤ 0) (t0 : (h.1 63 5 = 0 ∨ h.1 63 7 ≤ 499)) : mm_Met l d yX7_readTest cX7_readTest 3 (some .boolean) [mR 63, mI p1] h (mm_pi fun r h2 => (0 ≤ r ∧ r ≤ 1) ∧ mm_inv h2 ∧ mm_fr [(63, 4), (63, 5), (63, 6), (63, 7), (63, 8), (63, 9), (63, 10)] [64] h h2 ∧ (h2.1 63 5 = 0 ∨ h2.1 63 7 ≤ 499)) mm_nx 0 0 := by
  refine mm_ofW (ls := [mR 63, mI p1, mU]) hl (by decide) rfl (Nat.le_of_ble_eq_true rfl) ?_
  intro x hxl C T hnm htb
  subst hxl
  have C1 := mm_OK_le (d' := d - 1 + 1) (by omega) C
  have C8 := mm_OK_le (d' := d - 8 + 8) (by omega) C
  refine mm_rng (fun hr _ => ?_)
  have ap1 : -2147483648 ≤ p1 ∧ p1 < 2147483648 := mm_ok_at hr (i := 1) rfl
  have f0 : mm_fr [(63, 4), (63, 5), (63, 6), (63, 7), (63, 8), (63, 9), (63, 10)] [64] h h := mm_fr_rf
  have g1 : -2147483648 ≤ h.1 63 5 ∧ h.1 63 5 ≤ 2147483647 := i0.1 63 5
  have g2 : 0 ≤ h.1 63 7 ∧ h.1 63 7 ≤ 500 := i0.1 63 7
  refine mm_aload_n C (mm_dec dk_X7_readTest 0 rfl) rfl ?_
  refine mm_iload_n C (mm_dec dk_X7_readTest 1 rfl) rfl ?_
  refine mm_cVi (rest := []) C1 ev_X7_111 (mm_dec dk_X7_readTest 2 rfl) (c_X7_readSum_k0 x.2.1 hl (d - 1) (by omega) h i0 p1 ⟨by omega, by omega⟩ (by omega)) rfl rfl (Nat.le_of_ble_eq_true rfl) ⟨by decide, by decide⟩ rfl (fun r2 h2c hp2 => ?_) (fun _ _ q => q.elim)
  obtain ⟨b2, i2c, g2c, y2_0⟩ := hp2
  have f2c : mm_fr [(63, 4), (63, 5), (63, 6), (63, 7), (63, 8), (63, 9), (63, 10)] [64] h h2c := mm_fr_tr f0 g2c (by decide +kernel)
  have g4 : -2147483648 ≤ (h2c.1 63 5) ∧ (h2c.1 63 5) ≤ 2147483647 := i2c.1 63 5
  have g5 : 0 ≤ (h2c.1 63 7) ∧ (h2c.1 63 7) ≤ 500 := i2c.1 63 7
  refine mm_if_ne (tgt := 10) C (mm_dec dk_X7_readTest 3 rfl) (by decide) (fun c5 => ?_) (fun c5 => ?_)
  · skip
    refine mm_aload_n C (mm_dec dk_X7_readTest 6 rfl) rfl ?_
    refine mm_bipush C (mm_dec dk_X7_readTest 7 rfl) ⟨by decide, by decide⟩ ?_
    refine mm_cVi (rest := []) C1 ev_X7_96 (mm_dec dk_X7_readTest 8 rfl) (c_X7_isSign x.2.1 hl (d - 1) (by omega) h2c i2c 60 (by omega)) rfl rfl (Nat.le_of_ble_eq_true rfl) ⟨by decide, by decide⟩ rfl (fun r13 h13c hp13 => ?_) (fun _ _ q => q.elim)
    obtain ⟨z13, y13⟩ := hp13
    rw [z13]
    have g7 : -2147483648 ≤ (h2c.2.1 62 (h2c.1 63 7)) ∧ (h2c.2.1 62 (h2c.1 63 7)) ≤ 2147483647 := i2c.2.1 62 (h2c.1 63 7)
    have J39 : ∀ (s39_0 : Int) (bs39_0 : -1 ≤ s39_0 ∧ s39_0 ≤ 100014) (vs39_0 : (r13 = 0 ∧ s39_0 = -1) ∨ (r13 ≠ 0 ∧ s39_0 = 100013) ∨ (r13 = 0 ∧ s39_0 = 100014)), mm_W x 0 0 39 [mR 63, mI p1, mU] [mI s39_0] h2c := by
      intro s39_0 bs39_0 vs39_0
      refine mm_istore_nL (ls2 := [mR 63, mI p1, mI s39_0]) C (mm_dec dk_X7_readTest 19 rfl) (by decide) rfl ?_
      refine mm_iload_n C (mm_dec dk_X7_readTest 20 rfl) rfl ?_
      refine mm_iconst C (mm_dec dk_X7_readTest 21 rfl) ⟨by decide, by decide⟩ ?_
      have J64 : ∀ (h64_ : mH) (i64_ : mm_inv h64_) (f64_ : mm_fr [(63, 4), (63, 5), (63, 6), (63, 7), (63, 8), (63, 9), (63, 10)] [64] h h64_) (w64_0 : (h64_.1 63 5 = 0 ∨ h64_.1 63 7 ≤ 499)), mm_W x 0 0 64 [mU, mU, mU] [] h64_ := by
        intro h64_ i64_ f64_ w64_0
        have g8 : -2147483648 ≤ h64_.1 63 5 ∧ h64_.1 63 5 ≤ 2147483647 := i64_.1 63 5
        have g9 : 0 ≤ h64_.1 63 7 ∧ h64_.1 63 7 ≤ 500 := i64_.1 63 7
        refine mm_iconst C (mm_dec dk_X7_readTest 34 rfl) ⟨by decide, by decide⟩ ?_
        exact mm_zret C T (mm_dec dk_X7_readTest 35 rfl) (by decide : 0 ≤ 0) (by decide : 0 ≤ 0) (by omega) ⟨_, rfl, ⟨⟨by omega, by omega⟩, i64_, f64_, by omega⟩⟩
      refine mm_icmp_eq (tgt := 64) C (mm_dec dk_X7_readTest 22 rfl) (by decide) (fun c42 => ?_) (fun c42 => ?_)
      · skip
        refine mm_fgt 0 ?_
        refine mm_fgt 1 ?_
        refine mm_fgt 2 ?_
        exact J64 h2c i2c f2c (by omega)
      · skip
        refine mm_aload_n C (mm_dec dk_X7_readTest 23 rfl) rfl ?_
        refine mm_cVv (rest := []) C1 ev_X7_52 (mm_dec dk_X7_readTest 24 rfl) (c_X7_step x.2.1 hl (d - 1) (by omega) h2c i2c ) rfl rfl (Nat.le_of_ble_eq_true rfl) ⟨by decide, by decide⟩ rfl (fun h46c hp46 => ?_) (fun _ _ q => q.elim)
        obtain ⟨i46c, g46c, y46_0⟩ := hp46
        have f46c : mm_fr [(63, 4), (63, 5), (63, 6), (63, 7), (63, 8), (63, 9), (63, 10)] [64] h h46c := mm_fr_tr f2c g46c (by decide +kernel)
        have g11 : -2147483648 ≤ (h46c.1 63 5) ∧ (h46c.1 63 5) ≤ 2147483647 := i46c.1 63 5
        have g12 : 0 ≤ (h46c.1 63 7) ∧ (h46c.1 63 7) ≤ 500 := i46c.1 63 7
        refine mm_aload_n C (mm_dec dk_X7_readTest 25 rfl) rfl ?_
        refine mm_iload_n C (mm_dec dk_X7_readTest 26 rfl) rfl ?_
        refine mm_cVi (rest := []) C1 ev_X7_111 (mm_dec dk_X7_readTest 27 rfl) (c_X7_readSum_k0 x.2.1 hl (d - 1) (by omega) h46c i46c p1 ⟨by omega, by omega⟩ (by omega)) rfl rfl (Nat.le_of_ble_eq_true rfl) ⟨by decide, by decide⟩ rfl (fun r51 h51c hp51 => ?_) (fun _ _ q => q.elim)
        obtain ⟨b51, i51c, g51c, y51_0⟩ := hp51
        have f51c : mm_fr [(63, 4), (63, 5), (63, 6), (63, 7), (63, 8), (63, 9), (63, 10)] [64] h h51c := mm_fr_tr f46c g51c (by decide +kernel)
        have g14 : -2147483648 ≤ (h51c.1 63 5) ∧ (h51c.1 63 5) ≤ 2147483647 := i51c.1 63 5
        have g15 : 0 ≤ (h51c.1 63 7) ∧ (h51c.1 63 7) ≤ 500 := i51c.1 63 7
        refine mm_if_ne (tgt := 59) C (mm_dec dk_X7_readTest 28 rfl) (by decide) (fun c54 => ?_) (fun c54 => ?_)
        · skip
          refine mm_aload_n C (mm_dec dk_X7_readTest 31 rfl) rfl ?_
          refine mm_iload_n C (mm_dec dk_X7_readTest 32 rfl) rfl ?_
          refine mm_cVv (rest := []) C1 ev_X7_79 (mm_dec dk_X7_readTest 33 rfl) (c_X7_emit x.2.1 hl (d - 1) (by omega) h51c i51c s39_0) rfl rfl (Nat.le_of_ble_eq_true rfl) ⟨by decide, by decide⟩ rfl (fun h61c hp61 => ?_) (fun _ _ q => q.elim)
          obtain ⟨i61c, g61c⟩ := hp61
          have f61c : mm_fr [(63, 4), (63, 5), (63, 6), (63, 7), (63, 8), (63, 9), (63, 10)] [64] h h61c := mm_fr_tr f51c g61c (by decide +kernel)
          have q61c_17 : h61c.1 63 5 = h51c.1 63 5 := g61c.1 63 5 (by decide)
          have q61c_18 : h61c.1 63 7 = h51c.1 63 7 := g61c.1 63 7 (by decide)
          refine mm_fgt 0 ?_
          refine mm_fgt 1 ?_
          refine mm_fgt 2 ?_
          exact J64 h61c i61c f61c (by omega)
        · skip
          refine mm_iconst C (mm_dec dk_X7_readTest 29 rfl) ⟨by decide, by decide⟩ ?_
          exact mm_zret C T (mm_dec dk_X7_readTest 30 rfl) (by decide : 0 ≤ 0) (by decide : 0 ≤ 0) (by omega) ⟨_, rfl, ⟨⟨by omega, by omega⟩, i51c, f51c, by omega⟩⟩
    refine mm_if_eq (tgt := 24) C (mm_dec dk_X7_readTest 9 rfl) (by decide) (fun c16 => ?_) (fun c16 => ?_)
    · skip
      refine mm_aload_n C (mm_dec dk_X7_readTest 12 rfl) rfl ?_
      refine mm_bipush C (mm_dec dk_X7_readTest 13 rfl) ⟨by decide, by decide⟩ ?_
      refine mm_cVi (rest := []) C1 ev_X7_96 (mm_dec dk_X7_readTest 14 rfl) (c_X7_isSign x.2.1 hl (d - 1) (by omega) h2c i2c 61 (by omega)) rfl rfl (Nat.le_of_ble_eq_true rfl) ⟨by decide, by decide⟩ rfl (fun r27 h27c hp27 => ?_) (fun _ _ q => q.elim)
      obtain ⟨z27, y27⟩ := hp27
      rw [z27]
      refine mm_if_eq (tgt := 38) C (mm_dec dk_X7_readTest 15 rfl) (by decide) (fun c30 => ?_) (fun c30 => ?_)
      · skip
        refine mm_iconst C (mm_dec dk_X7_readTest 18 rfl) ⟨by decide, by decide⟩ ?_
        exact J39 (-1) ⟨by omega, by omega⟩ (Or.inl ⟨by omega, rfl⟩)
      · skip
        refine mm_ldc (z := 100014) C (mm_dec dk_X7_readTest 16 rfl) kc_X7_115 (by decide) ?_
        refine mm_goto (tgt := 39) C (mm_dec dk_X7_readTest 17 rfl) (by decide) ?_
        exact J39 100014 ⟨by omega, by omega⟩ (Or.inr (Or.inr (⟨by omega, rfl⟩)))
    · skip
      refine mm_ldc (z := 100013) C (mm_dec dk_X7_readTest 10 rfl) kc_X7_114 (by decide) ?_
      refine mm_goto (tgt := 39) C (mm_dec dk_X7_readTest 11 rfl) (by decide) ?_
      exact J39 100013 ⟨by omega, by omega⟩ (Or.inr (Or.inl ⟨by omega, rfl⟩))
  · skip
    refine mm_iconst C (mm_dec dk_X7_readTest 4 rfl) ⟨by decide, by decide⟩ ?_
    exact mm_zret C T (mm_dec dk_X7_readTest 5 rfl) (by decide : 0 ≤ 0) (by decide : 0 ≤ 0) (by omega) ⟨_, rfl, ⟨⟨by omega, by omega⟩, i2c, f2c, by omega⟩⟩
set_option maxRecDepth 100000 in
set_option maxHeartbeats 4000000 in
theorem c_X7_readNot_k0 (l : Launch) (hl : l.stackTraces = false) (d : Nat) (hd : 45 ≤ d) (h : mH) (i0 : mm_inv h) (p1 : Int) (bp1 : 0 ≤ p1 ∧ p1 ≤ 0) (t0 : (h.1 63 5 = 0 ∨ h.1 63 7 ≤ 499)) : mm_Met l d yX7_readNot cX7_readNot 4 (some .boolean) [mR 63, mI p1] h (mm_pi fun r h2 => (0 ≤ r ∧ r ≤ 1) ∧ mm_inv h2 ∧ mm_fr [(63, 4), (63, 5), (63, 6), (63, 7), (63, 8), (63, 9), (63, 10)] [64] h h2 ∧ (h2.1 63 5 = 0 ∨ h2.1 63 7 ≤ 499)) mm_nx 0 0 := by
  refine mm_ofW (ls := [mR 63, mI p1, mU, mU]) hl (by decide) rfl (Nat.le_of_ble_eq_true rfl) ?_
  intro x hxl C T hnm htb
  subst hxl
  have C1 := mm_OK_le (d' := d - 1 + 1) (by omega) C
  have C8 := mm_OK_le (d' := d - 8 + 8) (by omega) C
  refine mm_rng (fun hr _ => ?_)
  have ap1 : -2147483648 ≤ p1 ∧ p1 < 2147483648 := mm_ok_at hr (i := 1) rfl
  have f0 : mm_fr [(63, 4), (63, 5), (63, 6), (63, 7), (63, 8), (63, 9), (63, 10)] [64] h h := mm_fr_rf
  have g1 : -2147483648 ≤ h.1 63 5 ∧ h.1 63 5 ≤ 2147483647 := i0.1 63 5
  have g2 : 0 ≤ h.1 63 7 ∧ h.1 63 7 ≤ 500 := i0.1 63 7
  refine mm_iconst C (mm_dec dk_X7_readNot 0 rfl) ⟨by decide, by decide⟩ ?_
  have J2 : ∀ (n : Nat) (x2_2 : Int) (bx2_2 : 0 ≤ x2_2 ∧ x2_2 ≤ 7) (h2_ : mH) (i2_ : mm_inv h2_) (f2_ : mm_fr [(63, 4), (63, 5), (63, 6), (63, 7), (63, 8), (63, 9), (63, 10)] [64] h h2_) (w2_0 : (h2_.1 63 5 = 0 ∨ h2_.1 63 7 ≤ 499)), (7 - x2_2 : Int) < n → mm_W x 0 0 2 [mR 63, mI p1, mI x2_2, mU] [] h2_ := by
    intro n
    induction n with
    | zero =>
      intro x2_2 bx2_2 h2_ i2_ f2_ w2_0 hm
      have g3 : -2147483648 ≤ h2_.1 63 5 ∧ h2_.1 63 5 ≤ 2147483647 := i2_.1 63 5
      have g4 : 0 ≤ h2_.1 63 7 ∧ h2_.1 63 7 ≤ 500 := i2_.1 63 7
      exfalso; omega
    | succ n ih2 =>
      intro x2_2 bx2_2 h2_ i2_ f2_ w2_0 hm2
      have g5 : -2147483648 ≤ h2_.1 63 5 ∧ h2_.1 63 5 ≤ 2147483647 := i2_.1 63 5
      have g6 : 0 ≤ h2_.1 63 7 ∧ h2_.1 63 7 ≤ 500 := i2_.1 63 7
      refine mm_iload_n C (mm_dec dk_X7_readNot 2 rfl) rfl ?_
      refine mm_bipush C (mm_dec dk_X7_readNot 3 rfl) ⟨by decide, by decide⟩ ?_
      have J27 : mm_W x 0 0 27 [mR 63, mI p1, mI x2_2, mU] [] h2_ := by
        have g7 : -2147483648 ≤ h2_.1 63 5 ∧ h2_.1 63 5 ≤ 2147483647 := i2_.1 63 5
        have g8 : 0 ≤ h2_.1 63 7 ∧ h2_.1 63 7 ≤ 500 := i2_.1 63 7
        refine mm_iload_n C (mm_dec dk_X7_readNot 13 rfl) rfl ?_
        refine mm_bipush C (mm_dec dk_X7_readNot 14 rfl) ⟨by decide, by decide⟩ ?_
        have J48 : mm_W x 0 0 48 [mR 63, mI p1, mI x2_2, mU] [] h2_ := by
          have g9 : -2147483648 ≤ h2_.1 63 5 ∧ h2_.1 63 5 ≤ 2147483647 := i2_.1 63 5
          have g10 : 0 ≤ h2_.1 63 7 ∧ h2_.1 63 7 ≤ 500 := i2_.1 63 7
          refine mm_aload_n C (mm_dec dk_X7_readNot 24 rfl) rfl ?_
          refine mm_iload_n C (mm_dec dk_X7_readNot 25 rfl) rfl ?_
          refine mm_cVi (rest := []) C1 ev_X7_107 (mm_dec dk_X7_readNot 26 rfl) (c_X7_readTest_k0 x.2.1 hl (d - 1) (by omega) h2_ i2_ p1 ⟨by omega, by omega⟩ (by omega)) rfl rfl (Nat.le_of_ble_eq_true rfl) ⟨by decide, by decide⟩ rfl (fun r50 h50c hp50 => ?_) (fun _ _ q => q.elim)
          obtain ⟨b50, i50c, g50c, y50_0⟩ := hp50
          have f50c : mm_fr [(63, 4), (63, 5), (63, 6), (63, 7), (63, 8), (63, 9), (63, 10)] [64] h h50c := mm_fr_tr f2_ g50c (by decide +kernel)
          have g12 : -2147483648 ≤ (h50c.1 63 5) ∧ (h50c.1 63 5) ≤ 2147483647 := i50c.1 63 5
          have g13 : 0 ≤ (h50c.1 63 7) ∧ (h50c.1 63 7) ≤ 500 := i50c.1 63 7
          refine mm_if_ne (tgt := 58) C (mm_dec dk_X7_readNot 27 rfl) (by decide) (fun c53 => ?_) (fun c53 => ?_)
          · skip
            refine mm_iconst C (mm_dec dk_X7_readNot 30 rfl) ⟨by decide, by decide⟩ ?_
            have J60 : ∀ (n : Nat) (x60_3 : Int) (bx60_3 : 0 ≤ x60_3 ∧ x60_3 ≤ 7) (h60_ : mH) (i60_ : mm_inv h60_) (f60_ : mm_fr [(63, 4), (63, 5), (63, 6), (63, 7), (63, 8), (63, 9), (63, 10)] [64] h h60_) (w60_0 : (h60_.1 63 5 = 0 ∨ h60_.1 63 7 ≤ 499)), (7 - x60_3 : Int) < n → mm_W x 0 0 60 [mR 63, mU, mI x2_2, mI x60_3] [] h60_ := by
              intro n
              induction n with
              | zero =>
                intro x60_3 bx60_3 h60_ i60_ f60_ w60_0 hm
                have g14 : -2147483648 ≤ h60_.1 63 5 ∧ h60_.1 63 5 ≤ 2147483647 := i60_.1 63 5
                have g15 : 0 ≤ h60_.1 63 7 ∧ h60_.1 63 7 ≤ 500 := i60_.1 63 7
                exfalso; omega
              | succ n ih60 =>
                intro x60_3 bx60_3 h60_ i60_ f60_ w60_0 hm60
                have g16 : -2147483648 ≤ h60_.1 63 5 ∧ h60_.1 63 5 ≤ 2147483647 := i60_.1 63 5
                have g17 : 0 ≤ h60_.1 63 7 ∧ h60_.1 63 7 ≤ 500 := i60_.1 63 7
                refine mm_iload_n C (mm_dec dk_X7_readNot 32 rfl) rfl ?_
                refine mm_iload_n C (mm_dec dk_X7_readNot 33 rfl) rfl ?_
                refine mm_icmp_ge (tgt := 77) C (mm_dec dk_X7_readNot 34 rfl) (by decide) (fun c62 => ?_) (fun c62 => ?_)
                · skip
                  refine mm_iconst C (mm_dec dk_X7_readNot 40 rfl) ⟨by decide, by decide⟩ ?_
                  exact mm_zret C T (mm_dec dk_X7_readNot 41 rfl) (by decide : 0 ≤ 0) (by decide : 0 ≤ 0) (by omega) ⟨_, rfl, ⟨⟨by omega, by omega⟩, i60_, f60_, by omega⟩⟩
                · skip
                  refine mm_aload_n C (mm_dec dk_X7_readNot 35 rfl) rfl ?_
                  refine mm_ldc (z := 100010) C (mm_dec dk_X7_readNot 36 rfl) kc_X7_110 (by decide) ?_
                  refine mm_cVv (rest := []) C1 ev_X7_79 (mm_dec dk_X7_readNot 37 rfl) (c_X7_emit x.2.1 hl (d - 1) (by omega) h60_ i60_ 100010) rfl rfl (Nat.le_of_ble_eq_true rfl) ⟨by decide, by decide⟩ rfl (fun h68c hp68 => ?_) (fun _ _ q => q.elim)
                  obtain ⟨i68c, g68c⟩ := hp68
                  have f68c : mm_fr [(63, 4), (63, 5), (63, 6), (63, 7), (63, 8), (63, 9), (63, 10)] [64] h h68c := mm_fr_tr f60_ g68c (by decide +kernel)
                  have q68c_19 : h68c.1 63 5 = h60_.1 63 5 := g68c.1 63 5 (by decide)
                  have q68c_20 : h68c.1 63 7 = h60_.1 63 7 := g68c.1 63 7 (by decide)
                  refine mm_iincL (ls2 := [mR 63, mU, mI x2_2, mI (x60_3 + 1)]) C (mm_dec dk_X7_readNot 38 rfl) rfl (by decide) ⟨by omega, by omega⟩ rfl ?_
                  refine mm_goto (tgt := 60) C (mm_dec dk_X7_readNot 39 rfl) (by decide) ?_
                  exact ih60 (x60_3 + 1) ⟨by omega, by omega⟩ h68c i68c f68c (by omega) (by omega)
            refine mm_istore_nL (ls2 := [mR 63, mI p1, mI x2_2, mI 0]) C (mm_dec dk_X7_readNot 31 rfl) (by decide) rfl ?_
            refine mm_fgt 1 ?_
            exact J60 (((7 - 0) : Int) + 1).toNat 0 ⟨by omega, by omega⟩ h50c i50c f50c (by omega) (by omega)
          · skip
            refine mm_iconst C (mm_dec dk_X7_readNot 28 rfl) ⟨by decide, by decide⟩ ?_
            exact mm_zret C T (mm_dec dk_X7_readNot 29 rfl) (by decide : 0 ≤ 0) (by decide : 0 ≤ 0) (by omega) ⟨_, rfl, ⟨⟨by omega, by omega⟩, i50c, f50c, by omega⟩⟩
        refine mm_icmp_ne (tgt := 48) C (mm_dec dk_X7_readNot 15 rfl) (by decide) (fun c30 => ?_) (fun c30 => ?_)
        · skip
          exact J48
        · skip
          refine mm_aload_n C (mm_dec dk_X7_readNot 16 rfl) rfl ?_
          refine mm_geti C fl_X7_28 (mm_dec dk_X7_readNot 17 rfl) rfl rfl (Or.inl rfl) ?_
          have g21 : -2147483648 ≤ (h2_.1 63 6) ∧ (h2_.1 63 6) ≤ 2147483647 := i2_.1 63 6
          refine mm_bipush C (mm_dec dk_X7_readNot 18 rfl) ⟨by decide, by decide⟩ ?_
          refine mm_icmp_ne (tgt := 48) C (mm_dec dk_X7_readNot 19 rfl) (by decide) (fun c39 => ?_) (fun c39 => ?_)
          · skip
            exact J48
          · skip
            refine mm_aload_n C (mm_dec dk_X7_readNot 20 rfl) rfl ?_
            refine mm_iconst C (mm_dec dk_X7_readNot 21 rfl) ⟨by decide, by decide⟩ ?_
            refine mm_cVi (rest := []) C1 ev_X7_65 (mm_dec dk_X7_readNot 22 rfl) (c_X7_refuse x.2.1 hl (d - 1) (by omega) h2_ i2_ 2) rfl rfl (Nat.le_of_ble_eq_true rfl) ⟨by decide, by decide⟩ rfl (fun r44 h44c hp44 => ?_) (fun _ _ q => q.elim)
            obtain ⟨b44, i44c, g44c⟩ := hp44
            have f44c : mm_fr [(63, 4), (63, 5), (63, 6), (63, 7), (63, 8), (63, 9), (63, 10)] [64] h h44c := mm_fr_tr f2_ g44c (by decide +kernel)
            have q44c_23 : h44c.1 63 5 = h2_.1 63 5 := g44c.1 63 5 (by decide)
            have q44c_24 : h44c.1 63 6 = h2_.1 63 6 := g44c.1 63 6 (by decide)
            have q44c_25 : h44c.1 63 7 = h2_.1 63 7 := g44c.1 63 7 (by decide)
            exact mm_zret C T (mm_dec dk_X7_readNot 23 rfl) (by decide : 0 ≤ 0) (by decide : 0 ≤ 0) (by omega) ⟨_, rfl, ⟨⟨by omega, by omega⟩, i44c, f44c, by omega⟩⟩
      refine mm_icmp_ge (tgt := 27) C (mm_dec dk_X7_readNot 4 rfl) (by decide) (fun c5 => ?_) (fun c5 => ?_)
      · skip
        exact J27
      · skip
        refine mm_aload_n C (mm_dec dk_X7_readNot 5 rfl) rfl ?_
        refine mm_geti C fl_X7_28 (mm_dec dk_X7_readNot 6 rfl) rfl rfl (Or.inl rfl) ?_
        have g26 : -2147483648 ≤ (h2_.1 63 6) ∧ (h2_.1 63 6) ≤ 2147483647 := i2_.1 63 6
        refine mm_bipush C (mm_dec dk_X7_readNot 7 rfl) ⟨by decide, by decide⟩ ?_
        refine mm_icmp_ne (tgt := 27) C (mm_dec dk_X7_readNot 8 rfl) (by decide) (fun c14 => ?_) (fun c14 => ?_)
        · skip
          exact J27
        · skip
          refine mm_iincL (ls2 := [mR 63, mI p1, mI (x2_2 + 1), mU]) C (mm_dec dk_X7_readNot 9 rfl) rfl (by decide) ⟨by omega, by omega⟩ rfl ?_
          refine mm_aload_n C (mm_dec dk_X7_readNot 10 rfl) rfl ?_
          refine mm_cVv (rest := []) C1 ev_X7_52 (mm_dec dk_X7_readNot 11 rfl) (c_X7_step x.2.1 hl (d - 1) (by omega) h2_ i2_ ) rfl rfl (Nat.le_of_ble_eq_true rfl) ⟨by decide, by decide⟩ rfl (fun h21c hp21 => ?_) (fun _ _ q => q.elim)
          obtain ⟨i21c, g21c, y21_0⟩ := hp21
          have f21c : mm_fr [(63, 4), (63, 5), (63, 6), (63, 7), (63, 8), (63, 9), (63, 10)] [64] h h21c := mm_fr_tr f2_ g21c (by decide +kernel)
          have g28 : -2147483648 ≤ (h21c.1 63 5) ∧ (h21c.1 63 5) ≤ 2147483647 := i21c.1 63 5
          have g29 : 0 ≤ (h21c.1 63 7) ∧ (h21c.1 63 7) ≤ 500 := i21c.1 63 7
          refine mm_goto (tgt := 2) C (mm_dec dk_X7_readNot 12 rfl) (by decide) ?_
          exact ih2 (x2_2 + 1) ⟨by omega, by omega⟩ h21c i21c f21c (by omega) (by omega)
  refine mm_istore_nL (ls2 := [mR 63, mI p1, mI 0, mU]) C (mm_dec dk_X7_readNot 1 rfl) (by decide) rfl ?_
  exact J2 (((7 - 0) : Int) + 1).toNat 0 ⟨by omega, by omega⟩ h i0 f0 (by omega) (by omega)
set_option maxRecDepth 100000 in
set_option maxHeartbeats 4000000 in
theorem c_X7_readAnd_k0 (l : Launch) (hl : l.stackTraces = false) (d : Nat) (hd : 46 ≤ d) (h : mH) (i0 : mm_inv h) (p1 : Int) (bp1 : 0 ≤ p1 ∧ p1 ≤ 0) (t0 : (h.1 63 5 = 0 ∨ h.1 63 7 ≤ 499)) : mm_Met l d yX7_readAnd cX7_readAnd 3 (some .boolean) [mR 63, mI p1] h (mm_pi fun r h2 => (0 ≤ r ∧ r ≤ 1) ∧ mm_inv h2 ∧ mm_fr [(63, 4), (63, 5), (63, 6), (63, 7), (63, 8), (63, 9), (63, 10)] [64] h h2 ∧ (h2.1 63 5 = 0 ∨ h2.1 63 7 ≤ 499)) mm_nx 0 0 := by
  refine mm_ofW (ls := [mR 63, mI p1, mU]) hl (by decide) rfl (Nat.le_of_ble_eq_true rfl) ?_
  intro x hxl C T hnm htb
  subst hxl
  have C1 := mm_OK_le (d' := d - 1 + 1) (by omega) C
  have C8 := mm_OK_le (d' := d - 8 + 8) (by omega) C
  refine mm_rng (fun hr _ => ?_)
  have ap1 : -2147483648 ≤ p1 ∧ p1 < 2147483648 := mm_ok_at hr (i := 1) rfl
  have f0 : mm_fr [(63, 4), (63, 5), (63, 6), (63, 7), (63, 8), (63, 9), (63, 10)] [64] h h := mm_fr_rf
  have g1 : -2147483648 ≤ h.1 63 5 ∧ h.1 63 5 ≤ 2147483647 := i0.1 63 5
  have g2 : 0 ≤ h.1 63 7 ∧ h.1 63 7 ≤ 500 := i0.1 63 7
  refine mm_aload_n C (mm_dec dk_X7_readAnd 0 rfl) rfl ?_
  refine mm_iload_n C (mm_dec dk_X7_readAnd 1 rfl) rfl ?_
  refine mm_cVi (rest := []) C1 ev_X7_103 (mm_dec dk_X7_readAnd 2 rfl) (c_X7_readNot_k0 x.2.1 hl (d - 1) (by omega) h i0 p1 ⟨by omega, by omega⟩ (by omega)) rfl rfl (Nat.le_of_ble_eq_true rfl) ⟨by decide, by decide⟩ rfl (fun r2 h2c hp2 => ?_) (fun _ _ q => q.elim)
  obtain ⟨b2, i2c, g2c, y2_0⟩ := hp2
  have f2c : mm_fr [(63, 4), (63, 5), (63, 6), (63, 7), (63, 8), (63, 9), (63, 10)] [64] h h2c := mm_fr_tr f0 g2c (by decide +kernel)
  have g4 : -2147483648 ≤ (h2c.1 63 5) ∧ (h2c.1 63 5) ≤ 2147483647 := i2c.1 63 5
  have g5 : 0 ≤ (h2c.1 63 7) ∧ (h2c.1 63 7) ≤ 500 := i2c.1 63 7
  refine mm_if_ne (tgt := 10) C (mm_dec dk_X7_readAnd 3 rfl) (by decide) (fun c5 => ?_) (fun c5 => ?_)
  · skip
    refine mm_iconst C (mm_dec dk_X7_readAnd 6 rfl) ⟨by decide, by decide⟩ ?_
    have J12 : ∀ (n : Nat) (x12_2 : Int) (bx12_2 : 0 ≤ x12_2 ∧ x12_2 ≤ 500) (h12_ : mH) (i12_ : mm_inv h12_) (f12_ : mm_fr [(63, 4), (63, 5), (63, 6), (63, 7), (63, 8), (63, 9), (63, 10)] [64] h h12_) (w12_0 : (h12_.1 63 5 = 0 ∨ h12_.1 63 7 ≤ 499)), (500 - x12_2 : Int) < n → mm_W x 0 0 12 [mR 63, mI p1, mI x12_2] [] h12_ := by
      intro n
      induction n with
      | zero =>
        intro x12_2 bx12_2 h12_ i12_ f12_ w12_0 hm
        have g6 : -2147483648 ≤ h12_.1 63 5 ∧ h12_.1 63 5 ≤ 2147483647 := i12_.1 63 5
        have g7 : 0 ≤ h12_.1 63 7 ∧ h12_.1 63 7 ≤ 500 := i12_.1 63 7
        exfalso; omega
      | succ n ih12 =>
        intro x12_2 bx12_2 h12_ i12_ f12_ w12_0 hm12
        have g8 : -2147483648 ≤ h12_.1 63 5 ∧ h12_.1 63 5 ≤ 2147483647 := i12_.1 63 5
        have g9 : 0 ≤ h12_.1 63 7 ∧ h12_.1 63 7 ≤ 500 := i12_.1 63 7
        refine mm_iload_n C (mm_dec dk_X7_readAnd 8 rfl) rfl ?_
        refine mm_sipush C (mm_dec dk_X7_readAnd 9 rfl) ⟨by decide, by decide⟩ ?_
        have J53 : mm_W x 0 0 53 [mU, mU, mU] [] h12_ := by
          have g10 : -2147483648 ≤ h12_.1 63 5 ∧ h12_.1 63 5 ≤ 2147483647 := i12_.1 63 5
          have g11 : 0 ≤ h12_.1 63 7 ∧ h12_.1 63 7 ≤ 500 := i12_.1 63 7
          refine mm_iconst C (mm_dec dk_X7_readAnd 28 rfl) ⟨by decide, by decide⟩ ?_
          exact mm_zret C T (mm_dec dk_X7_readAnd 29 rfl) (by decide : 0 ≤ 0) (by decide : 0 ≤ 0) (by omega) ⟨_, rfl, ⟨⟨by omega, by omega⟩, i12_, f12_, by omega⟩⟩
        refine mm_icmp_ge (tgt := 53) C (mm_dec dk_X7_readAnd 10 rfl) (by decide) (fun c16 => ?_) (fun c16 => ?_)
        · skip
          refine mm_fgt 0 ?_
          refine mm_fgt 1 ?_
          refine mm_fgt 2 ?_
          exact J53
        · skip
          refine mm_aload_n C (mm_dec dk_X7_readAnd 11 rfl) rfl ?_
          refine mm_geti C fl_X7_28 (mm_dec dk_X7_readAnd 12 rfl) rfl rfl (Or.inl rfl) ?_
          have g12 : -2147483648 ≤ (h12_.1 63 6) ∧ (h12_.1 63 6) ≤ 2147483647 := i12_.1 63 6
          refine mm_iconst C (mm_dec dk_X7_readAnd 13 rfl) ⟨by decide, by decide⟩ ?_
          refine mm_icmp_ne (tgt := 53) C (mm_dec dk_X7_readAnd 14 rfl) (by decide) (fun c24 => ?_) (fun c24 => ?_)
          · skip
            refine mm_fgt 0 ?_
            refine mm_fgt 1 ?_
            refine mm_fgt 2 ?_
            exact J53
          · skip
            refine mm_aload_n C (mm_dec dk_X7_readAnd 15 rfl) rfl ?_
            refine mm_cVv (rest := []) C1 ev_X7_52 (mm_dec dk_X7_readAnd 16 rfl) (c_X7_step x.2.1 hl (d - 1) (by omega) h12_ i12_ ) rfl rfl (Nat.le_of_ble_eq_true rfl) ⟨by decide, by decide⟩ rfl (fun h28c hp28 => ?_) (fun _ _ q => q.elim)
            obtain ⟨i28c, g28c, y28_0⟩ := hp28
            have f28c : mm_fr [(63, 4), (63, 5), (63, 6), (63, 7), (63, 8), (63, 9), (63, 10)] [64] h h28c := mm_fr_tr f12_ g28c (by decide +kernel)
            have g14 : -2147483648 ≤ (h28c.1 63 5) ∧ (h28c.1 63 5) ≤ 2147483647 := i28c.1 63 5
            have g15 : 0 ≤ (h28c.1 63 7) ∧ (h28c.1 63 7) ≤ 500 := i28c.1 63 7
            refine mm_aload_n C (mm_dec dk_X7_readAnd 17 rfl) rfl ?_
            refine mm_iload_n C (mm_dec dk_X7_readAnd 18 rfl) rfl ?_
            refine mm_cVi (rest := []) C1 ev_X7_103 (mm_dec dk_X7_readAnd 19 rfl) (c_X7_readNot_k0 x.2.1 hl (d - 1) (by omega) h28c i28c p1 ⟨by omega, by omega⟩ (by omega)) rfl rfl (Nat.le_of_ble_eq_true rfl) ⟨by decide, by decide⟩ rfl (fun r33 h33c hp33 => ?_) (fun _ _ q => q.elim)
            obtain ⟨b33, i33c, g33c, y33_0⟩ := hp33
            have f33c : mm_fr [(63, 4), (63, 5), (63, 6), (63, 7), (63, 8), (63, 9), (63, 10)] [64] h h33c := mm_fr_tr f28c g33c (by decide +kernel)
            have g17 : -2147483648 ≤ (h33c.1 63 5) ∧ (h33c.1 63 5) ≤ 2147483647 := i33c.1 63 5
            have g18 : 0 ≤ (h33c.1 63 7) ∧ (h33c.1 63 7) ≤ 500 := i33c.1 63 7
            refine mm_if_ne (tgt := 41) C (mm_dec dk_X7_readAnd 20 rfl) (by decide) (fun c36 => ?_) (fun c36 => ?_)
            · skip
              refine mm_aload_n C (mm_dec dk_X7_readAnd 23 rfl) rfl ?_
              refine mm_ldc (z := 100012) C (mm_dec dk_X7_readAnd 24 rfl) kc_X7_106 (by decide) ?_
              refine mm_cVv (rest := []) C1 ev_X7_79 (mm_dec dk_X7_readAnd 25 rfl) (c_X7_emit x.2.1 hl (d - 1) (by omega) h33c i33c 100012) rfl rfl (Nat.le_of_ble_eq_true rfl) ⟨by decide, by decide⟩ rfl (fun h44c hp44 => ?_) (fun _ _ q => q.elim)
              obtain ⟨i44c, g44c⟩ := hp44
              have f44c : mm_fr [(63, 4), (63, 5), (63, 6), (63, 7), (63, 8), (63, 9), (63, 10)] [64] h h44c := mm_fr_tr f33c g44c (by decide +kernel)
              have q44c_20 : h44c.1 63 5 = h33c.1 63 5 := g44c.1 63 5 (by decide)
              have q44c_21 : h44c.1 63 7 = h33c.1 63 7 := g44c.1 63 7 (by decide)
              refine mm_iincL (ls2 := [mR 63, mI p1, mI (x12_2 + 1)]) C (mm_dec dk_X7_readAnd 26 rfl) rfl (by decide) ⟨by omega, by omega⟩ rfl ?_
              refine mm_goto (tgt := 12) C (mm_dec dk_X7_readAnd 27 rfl) (by decide) ?_
              exact ih12 (x12_2 + 1) ⟨by omega, by omega⟩ h44c i44c f44c (by omega) (by omega)
            · skip
              refine mm_iconst C (mm_dec dk_X7_readAnd 21 rfl) ⟨by decide, by decide⟩ ?_
              exact mm_zret C T (mm_dec dk_X7_readAnd 22 rfl) (by decide : 0 ≤ 0) (by decide : 0 ≤ 0) (by omega) ⟨_, rfl, ⟨⟨by omega, by omega⟩, i33c, f33c, by omega⟩⟩
    refine mm_istore_nL (ls2 := [mR 63, mI p1, mI 0]) C (mm_dec dk_X7_readAnd 7 rfl) (by decide) rfl ?_
    exact J12 (((500 - 0) : Int) + 1).toNat 0 ⟨by omega, by omega⟩ h2c i2c f2c (by omega) (by omega)
  · skip
    refine mm_iconst C (mm_dec dk_X7_readAnd 4 rfl) ⟨by decide, by decide⟩ ?_
    exact mm_zret C T (mm_dec dk_X7_readAnd 5 rfl) (by decide : 0 ≤ 0) (by decide : 0 ≤ 0) (by omega) ⟨_, rfl, ⟨⟨by omega, by omega⟩, i2c, f2c, by omega⟩⟩
set_option maxRecDepth 100000 in
set_option maxHeartbeats 4000000 in
theorem c_X7_readOr_k0 (l : Launch) (hl : l.stackTraces = false) (d : Nat) (hd : 47 ≤ d) (h : mH) (i0 : mm_inv h) (p1 : Int) (bp1 : 0 ≤ p1 ∧ p1 ≤ 0) (t0 : (h.1 63 5 = 0 ∨ h.1 63 7 ≤ 499)) : mm_Met l d yX7_readOr cX7_readOr 3 (some .boolean) [mR 63, mI p1] h (mm_pi fun r h2 => (0 ≤ r ∧ r ≤ 1) ∧ mm_inv h2 ∧ mm_fr [(63, 4), (63, 5), (63, 6), (63, 7), (63, 8), (63, 9), (63, 10)] [64] h h2 ∧ (h2.1 63 5 = 0 ∨ h2.1 63 7 ≤ 499)) mm_nx 0 0 := by
  refine mm_ofW (ls := [mR 63, mI p1, mU]) hl (by decide) rfl (Nat.le_of_ble_eq_true rfl) ?_
  intro x hxl C T hnm htb
  subst hxl
  have C1 := mm_OK_le (d' := d - 1 + 1) (by omega) C
  have C8 := mm_OK_le (d' := d - 8 + 8) (by omega) C
  refine mm_rng (fun hr _ => ?_)
  have ap1 : -2147483648 ≤ p1 ∧ p1 < 2147483648 := mm_ok_at hr (i := 1) rfl
  have f0 : mm_fr [(63, 4), (63, 5), (63, 6), (63, 7), (63, 8), (63, 9), (63, 10)] [64] h h := mm_fr_rf
  have g1 : -2147483648 ≤ h.1 63 5 ∧ h.1 63 5 ≤ 2147483647 := i0.1 63 5
  have g2 : 0 ≤ h.1 63 7 ∧ h.1 63 7 ≤ 500 := i0.1 63 7
  refine mm_iload_n C (mm_dec dk_X7_readOr 0 rfl) rfl ?_
  refine mm_bipush C (mm_dec dk_X7_readOr 1 rfl) ⟨by decide, by decide⟩ ?_
  refine mm_icmp_lt (tgt := 41) C (mm_dec dk_X7_readOr 2 rfl) (by decide) (fun c3 => ?_) (fun c3 => ?_)
  · skip
    refine mm_aload_n C (mm_dec dk_X7_readOr 21 rfl) rfl ?_
    refine mm_iload_n C (mm_dec dk_X7_readOr 22 rfl) rfl ?_
    refine mm_cVi (rest := []) C1 ev_X7_99 (mm_dec dk_X7_readOr 23 rfl) (c_X7_readAnd_k0 x.2.1 hl (d - 1) (by omega) h i0 p1 ⟨by omega, by omega⟩ (by omega)) rfl rfl (Nat.le_of_ble_eq_true rfl) ⟨by decide, by decide⟩ rfl (fun r43 h43c hp43 => ?_) (fun _ _ q => q.elim)
    obtain ⟨b43, i43c, g43c, y43_0⟩ := hp43
    have f43c : mm_fr [(63, 4), (63, 5), (63, 6), (63, 7), (63, 8), (63, 9), (63, 10)] [64] h h43c := mm_fr_tr f0 g43c (by decide +kernel)
    have g4 : -2147483648 ≤ (h43c.1 63 5) ∧ (h43c.1 63 5) ≤ 2147483647 := i43c.1 63 5
    have g5 : 0 ≤ (h43c.1 63 7) ∧ (h43c.1 63 7) ≤ 500 := i43c.1 63 7
    refine mm_if_ne (tgt := 51) C (mm_dec dk_X7_readOr 24 rfl) (by decide) (fun c46 => ?_) (fun c46 => ?_)
    · skip
      refine mm_iconst C (mm_dec dk_X7_readOr 27 rfl) ⟨by decide, by decide⟩ ?_
      have J53 : ∀ (n : Nat) (x53_2 : Int) (bx53_2 : 0 ≤ x53_2 ∧ x53_2 ≤ 500) (h53_ : mH) (i53_ : mm_inv h53_) (f53_ : mm_fr [(63, 4), (63, 5), (63, 6), (63, 7), (63, 8), (63, 9), (63, 10)] [64] h h53_) (w53_0 : (h53_.1 63 5 = 0 ∨ h53_.1 63 7 ≤ 499)), (500 - x53_2 : Int) < n → mm_W x 0 0 53 [mR 63, mI p1, mI x53_2] [] h53_ := by
        intro n
        induction n with
        | zero =>
          intro x53_2 bx53_2 h53_ i53_ f53_ w53_0 hm
          have g6 : -2147483648 ≤ h53_.1 63 5 ∧ h53_.1 63 5 ≤ 2147483647 := i53_.1 63 5
          have g7 : 0 ≤ h53_.1 63 7 ∧ h53_.1 63 7 ≤ 500 := i53_.1 63 7
          exfalso; omega
        | succ n ih53 =>
          intro x53_2 bx53_2 h53_ i53_ f53_ w53_0 hm53
          have g8 : -2147483648 ≤ h53_.1 63 5 ∧ h53_.1 63 5 ≤ 2147483647 := i53_.1 63 5
          have g9 : 0 ≤ h53_.1 63 7 ∧ h53_.1 63 7 ≤ 500 := i53_.1 63 7
          refine mm_iload_n C (mm_dec dk_X7_readOr 29 rfl) rfl ?_
          refine mm_sipush C (mm_dec dk_X7_readOr 30 rfl) ⟨by decide, by decide⟩ ?_
          have J94 : mm_W x 0 0 94 [mU, mU, mU] [] h53_ := by
            have g10 : -2147483648 ≤ h53_.1 63 5 ∧ h53_.1 63 5 ≤ 2147483647 := i53_.1 63 5
            have g11 : 0 ≤ h53_.1 63 7 ∧ h53_.1 63 7 ≤ 500 := i53_.1 63 7
            refine mm_iconst C (mm_dec dk_X7_readOr 49 rfl) ⟨by decide, by decide⟩ ?_
            exact mm_zret C T (mm_dec dk_X7_readOr 50 rfl) (by decide : 0 ≤ 0) (by decide : 0 ≤ 0) (by omega) ⟨_, rfl, ⟨⟨by omega, by omega⟩, i53_, f53_, by omega⟩⟩
          refine mm_icmp_ge (tgt := 94) C (mm_dec dk_X7_readOr 31 rfl) (by decide) (fun c57 => ?_) (fun c57 => ?_)
          · skip
            refine mm_fgt 0 ?_
            refine mm_fgt 1 ?_
            refine mm_fgt 2 ?_
            exact J94
          · skip
            refine mm_aload_n C (mm_dec dk_X7_readOr 32 rfl) rfl ?_
            refine mm_geti C fl_X7_28 (mm_dec dk_X7_readOr 33 rfl) rfl rfl (Or.inl rfl) ?_
            have g12 : -2147483648 ≤ (h53_.1 63 6) ∧ (h53_.1 63 6) ≤ 2147483647 := i53_.1 63 6
            refine mm_iconst C (mm_dec dk_X7_readOr 34 rfl) ⟨by decide, by decide⟩ ?_
            refine mm_icmp_ne (tgt := 94) C (mm_dec dk_X7_readOr 35 rfl) (by decide) (fun c65 => ?_) (fun c65 => ?_)
            · skip
              refine mm_fgt 0 ?_
              refine mm_fgt 1 ?_
              refine mm_fgt 2 ?_
              exact J94
            · skip
              refine mm_aload_n C (mm_dec dk_X7_readOr 36 rfl) rfl ?_
              refine mm_cVv (rest := []) C1 ev_X7_52 (mm_dec dk_X7_readOr 37 rfl) (c_X7_step x.2.1 hl (d - 1) (by omega) h53_ i53_ ) rfl rfl (Nat.le_of_ble_eq_true rfl) ⟨by decide, by decide⟩ rfl (fun h69c hp69 => ?_) (fun _ _ q => q.elim)
              obtain ⟨i69c, g69c, y69_0⟩ := hp69
              have f69c : mm_fr [(63, 4), (63, 5), (63, 6), (63, 7), (63, 8), (63, 9), (63, 10)] [64] h h69c := mm_fr_tr f53_ g69c (by decide +kernel)
              have g14 : -2147483648 ≤ (h69c.1 63 5) ∧ (h69c.1 63 5) ≤ 2147483647 := i69c.1 63 5
              have g15 : 0 ≤ (h69c.1 63 7) ∧ (h69c.1 63 7) ≤ 500 := i69c.1 63 7
              refine mm_aload_n C (mm_dec dk_X7_readOr 38 rfl) rfl ?_
              refine mm_iload_n C (mm_dec dk_X7_readOr 39 rfl) rfl ?_
              refine mm_cVi (rest := []) C1 ev_X7_99 (mm_dec dk_X7_readOr 40 rfl) (c_X7_readAnd_k0 x.2.1 hl (d - 1) (by omega) h69c i69c p1 ⟨by omega, by omega⟩ (by omega)) rfl rfl (Nat.le_of_ble_eq_true rfl) ⟨by decide, by decide⟩ rfl (fun r74 h74c hp74 => ?_) (fun _ _ q => q.elim)
              obtain ⟨b74, i74c, g74c, y74_0⟩ := hp74
              have f74c : mm_fr [(63, 4), (63, 5), (63, 6), (63, 7), (63, 8), (63, 9), (63, 10)] [64] h h74c := mm_fr_tr f69c g74c (by decide +kernel)
              have g17 : -2147483648 ≤ (h74c.1 63 5) ∧ (h74c.1 63 5) ≤ 2147483647 := i74c.1 63 5
              have g18 : 0 ≤ (h74c.1 63 7) ∧ (h74c.1 63 7) ≤ 500 := i74c.1 63 7
              refine mm_if_ne (tgt := 82) C (mm_dec dk_X7_readOr 41 rfl) (by decide) (fun c77 => ?_) (fun c77 => ?_)
              · skip
                refine mm_aload_n C (mm_dec dk_X7_readOr 44 rfl) rfl ?_
                refine mm_ldc (z := 100011) C (mm_dec dk_X7_readOr 45 rfl) kc_X7_102 (by decide) ?_
                refine mm_cVv (rest := []) C1 ev_X7_79 (mm_dec dk_X7_readOr 46 rfl) (c_X7_emit x.2.1 hl (d - 1) (by omega) h74c i74c 100011) rfl rfl (Nat.le_of_ble_eq_true rfl) ⟨by decide, by decide⟩ rfl (fun h85c hp85 => ?_) (fun _ _ q => q.elim)
                obtain ⟨i85c, g85c⟩ := hp85
                have f85c : mm_fr [(63, 4), (63, 5), (63, 6), (63, 7), (63, 8), (63, 9), (63, 10)] [64] h h85c := mm_fr_tr f74c g85c (by decide +kernel)
                have q85c_20 : h85c.1 63 5 = h74c.1 63 5 := g85c.1 63 5 (by decide)
                have q85c_21 : h85c.1 63 7 = h74c.1 63 7 := g85c.1 63 7 (by decide)
                refine mm_iincL (ls2 := [mR 63, mI p1, mI (x53_2 + 1)]) C (mm_dec dk_X7_readOr 47 rfl) rfl (by decide) ⟨by omega, by omega⟩ rfl ?_
                refine mm_goto (tgt := 53) C (mm_dec dk_X7_readOr 48 rfl) (by decide) ?_
                exact ih53 (x53_2 + 1) ⟨by omega, by omega⟩ h85c i85c f85c (by omega) (by omega)
              · skip
                refine mm_iconst C (mm_dec dk_X7_readOr 42 rfl) ⟨by decide, by decide⟩ ?_
                exact mm_zret C T (mm_dec dk_X7_readOr 43 rfl) (by decide : 0 ≤ 0) (by decide : 0 ≤ 0) (by omega) ⟨_, rfl, ⟨⟨by omega, by omega⟩, i74c, f74c, by omega⟩⟩
      refine mm_istore_nL (ls2 := [mR 63, mI p1, mI 0]) C (mm_dec dk_X7_readOr 28 rfl) (by decide) rfl ?_
      exact J53 (((500 - 0) : Int) + 1).toNat 0 ⟨by omega, by omega⟩ h43c i43c f43c (by omega) (by omega)
    · skip
      refine mm_iconst C (mm_dec dk_X7_readOr 25 rfl) ⟨by decide, by decide⟩ ?_
      exact mm_zret C T (mm_dec dk_X7_readOr 26 rfl) (by decide : 0 ≤ 0) (by decide : 0 ≤ 0) (by omega) ⟨_, rfl, ⟨⟨by omega, by omega⟩, i43c, f43c, by omega⟩⟩
  · skip
    exfalso; omega
