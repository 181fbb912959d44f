set_option maxRecDepth 100000 in
set_option maxHeartbeats 4000000 in
theorem c_X7_isSign (l : Launch) (hl : l.stackTraces = false) (d : Nat) (hd : 0 ≤ d) (h : mH) (i0 : mm_inv h) (p1 : Int) (t0 : (h.1 63 5 = 0 ∨ h.1 63 7 ≤ 499)) : mm_Met l d yX7_isSign cX7_isSign 2 (some .boolean) [mR 63, mI p1] h (mm_pi fun r h2 => h2 = h ∧ (((h.1 63 5) ≠ 4 ∧ r = 0) ∨ ((h.1 63 5) = 4 ∧ (h.2.1 62 (h.1 63 7)) ≠ p1 ∧ r = 0) ∨ ((h.1 63 5) = 4 ∧ (h.2.1 62 (h.1 63 7)) = p1 ∧ r = 1))) mm_nx 0 0 := by
  refine mm_ofW (ls := [mR 63, mI p1]) hl (by decide) rfl (Nat.le_of_ble_eq_true rfl) ?_
  intro x hxl C T hnm htb
  subst hxl
  refine mm_rng (fun hr _ => ?_)
  have ap1 : -2147483648 ≤ p1 ∧ p1 < 2147483648 := mm_ok_at hr (i := 1) rfl
  have f0 : mm_fr [] [] h h := mm_fr_rf
  have g1 : -2147483648 ≤ h.1 63 5 ∧ h.1 63 5 ≤ 2147483647 := i0.1 63 5
  have g2 : 0 ≤ h.1 63 7 ∧ h.1 63 7 ≤ 500 := i0.1 63 7
  refine mm_aload_n C (mm_dec dk_X7_isSign 0 rfl) rfl ?_
  refine mm_geti C fl_X7_25 (mm_dec dk_X7_isSign 1 rfl) rfl rfl (Or.inl rfl) ?_
  refine mm_iconst C (mm_dec dk_X7_isSign 2 rfl) ⟨by decide, by decide⟩ ?_
  refine mm_icmp_ne (tgt := 25) C (mm_dec dk_X7_isSign 3 rfl) (by decide) (fun c5 => ?_) (fun c5 => ?_)
  · skip
    refine mm_iconst C (mm_dec dk_X7_isSign 13 rfl) ⟨by decide, by decide⟩ ?_
    exact mm_zret C T (mm_dec dk_X7_isSign 14 rfl) (by decide : 0 ≤ 0) (by decide : 0 ≤ 0) (by omega) ⟨_, rfl, ⟨rfl, Or.inl ⟨by omega, rfl⟩⟩⟩
  · skip
    refine mm_aload_n C (mm_dec dk_X7_isSign 4 rfl) rfl ?_
    refine mm_getr (t := 62) C fl_X7_43 (mm_dec dk_X7_isSign 5 rfl) rfl rfl (mm_ref i0 rfl) ?_
    refine mm_aload_n C (mm_dec dk_X7_isSign 6 rfl) rfl ?_
    refine mm_geti C fl_X7_31 (mm_dec dk_X7_isSign 7 rfl) rfl rfl (Or.inl rfl) ?_
    refine mm_iald C (mm_dec dk_X7_isSign 8 rfl) rfl (by omega) (by omega) ?_
    have g3 : -2147483648 ≤ (h.2.1 62 (h.1 63 7)) ∧ (h.2.1 62 (h.1 63 7)) ≤ 2147483647 := i0.2.1 62 (h.1 63 7)
    refine mm_iload_n C (mm_dec dk_X7_isSign 9 rfl) rfl ?_
    refine mm_icmp_ne (tgt := 25) C (mm_dec dk_X7_isSign 10 rfl) (by decide) (fun c18 => ?_) (fun c18 => ?_)
    · skip
      refine mm_iconst C (mm_dec dk_X7_isSign 13 rfl) ⟨by decide, by decide⟩ ?_
      exact mm_zret C T (mm_dec dk_X7_isSign 14 rfl) (by decide : 0 ≤ 0) (by decide : 0 ≤ 0) (by omega) ⟨_, rfl, ⟨rfl, Or.inr (Or.inl ⟨by omega, by omega, rfl⟩)⟩⟩
    · skip
      refine mm_iconst C (mm_dec dk_X7_isSign 11 rfl) ⟨by decide, by decide⟩ ?_
      refine mm_goto (tgt := 26) C (mm_dec dk_X7_isSign 12 rfl) (by decide) ?_
      exact mm_zret C T (mm_dec dk_X7_isSign 14 rfl) (by decide : 0 ≤ 0) (by decide : 0 ≤ 0) (by omega) ⟨_, rfl, ⟨rfl, Or.inr (Or.inr (⟨by omega, by omega, rfl⟩))⟩⟩
set_option maxRecDepth 100000 in
set_option maxHeartbeats 4000000 in
theorem c_X7_wordOfToken (l : Launch) (hl : l.stackTraces = false) (d : Nat) (hd : 4 ≤ d) (h : mH) (i0 : mm_inv h) : mm_Met l d yX7_wordOfToken cX7_wordOfToken 6 (some .int) [mR 63] h (mm_pi fun r h2 => (-1 ≤ r ∧ r ≤ 90) ∧ h2 = h) mm_nx 0 0 := by
  refine mm_ofW (ls := [mR 63, mU, mU, mU, mU, mU]) hl (by decide) rfl (Nat.le_of_ble_eq_true rfl) ?_
  intro x hxl C T hnm htb
  subst hxl
  have C1 := mm_OK_le (d' := d - 1 + 1) (by omega) C
  have f0 : mm_fr [] [] h h := mm_fr_rf
  have g1 : 0 ≤ h.1 63 7 ∧ h.1 63 7 ≤ 500 := i0.1 63 7
  have g2 : 0 ≤ h.1 63 8 ∧ h.1 63 8 ≤ 500 := i0.1 63 8
  refine mm_iconst C (mm_dec dk_X7_wordOfToken 0 rfl) ⟨by decide, by decide⟩ ?_
  refine mm_istore_nL (ls2 := [mR 63, mI 0, mU, mU, mU, mU]) C (mm_dec dk_X7_wordOfToken 1 rfl) (by decide) rfl ?_
  refine mm_aload_n C (mm_dec dk_X7_wordOfToken 2 rfl) rfl ?_
  refine mm_geti C fl_X7_31 (mm_dec dk_X7_wordOfToken 3 rfl) rfl rfl (Or.inl rfl) ?_
  refine mm_istore_nL (ls2 := [mR 63, mI 0, mI (h.1 63 7), mU, mU, mU]) C (mm_dec dk_X7_wordOfToken 4 rfl) (by decide) rfl ?_
  refine mm_iconst C (mm_dec dk_X7_wordOfToken 5 rfl) ⟨by decide, by decide⟩ ?_
  refine mm_istore_nL (ls2 := [mR 63, mI 0, mI (h.1 63 7), mI 1, mU, mU]) C (mm_dec dk_X7_wordOfToken 6 rfl) (by decide) rfl ?_
  refine mm_iconst C (mm_dec dk_X7_wordOfToken 7 rfl) ⟨by decide, by decide⟩ ?_
  have J12 : ∀ (n : Nat) (x12_1 : Int) (bx12_1 : 0 ≤ x12_1 ∧ x12_1 ≤ 90) (x12_2 : Int) (bx12_2 : 0 ≤ x12_2 ∧ x12_2 ≤ 600) (x12_3 : Int) (bx12_3 : 0 ≤ x12_3 ∧ x12_3 ≤ 1) (x12_4 : Int) (bx12_4 : 0 ≤ x12_4 ∧ x12_4 ≤ 90) (w12_0 : x12_2 ≤ 500 + x12_4) (w12_1 : x12_1 ≤ x12_4), (90 - x12_4 : Int) < n → mm_W x 0 0 12 [mR 63, mI x12_1, mI x12_2, mI x12_3, mI x12_4, mU] [] h := by
    intro n
    induction n with
    | zero =>
      intro x12_1 bx12_1 x12_2 bx12_2 x12_3 bx12_3 x12_4 bx12_4 w12_0 w12_1 hm
      have g3 : 0 ≤ h.1 63 7 ∧ h.1 63 7 ≤ 500 := i0.1 63 7
      have g4 : 0 ≤ h.1 63 8 ∧ h.1 63 8 ≤ 500 := i0.1 63 8
      exfalso; omega
    | succ n ih12 =>
      intro x12_1 bx12_1 x12_2 bx12_2 x12_3 bx12_3 x12_4 bx12_4 w12_0 w12_1 hm12
      have g5 : 0 ≤ h.1 63 7 ∧ h.1 63 7 ≤ 500 := i0.1 63 7
      have g6 : 0 ≤ h.1 63 8 ∧ h.1 63 8 ≤ 500 := i0.1 63 8
      refine mm_iload C (mm_dec dk_X7_wordOfToken 9 rfl) rfl ?_
      refine mm_ldcS (i := 15) C rfl (mm_dec dk_X7_wordOfToken 10 rfl) ?_
      refine mm_cTi (rest := [mI x12_4]) C1 mw_J0_length_8abf5 rfl ml_X7_140 im_J0_length_8abf5 se_J0_length_8abf5 (mm_dec dk_X7_wordOfToken 11 rfl) (c_J0_length_8abf5 x.2.1 hl (d - 1) (by omega) h) rfl (Nat.le_of_ble_eq_true rfl) ⟨by decide, by decide⟩ rfl (fun r16 h16c hp16 => ?_)
      obtain ⟨z16, y16⟩ := hp16
      rw [z16, y16]
      refine mm_icmp_ge (tgt := 103) C (mm_dec dk_X7_wordOfToken 12 rfl) (by decide) (fun c19 => ?_) (fun c19 => ?_)
      · skip
        refine mm_iconst C (mm_dec dk_X7_wordOfToken 54 rfl) ⟨by decide, by decide⟩ ?_
        exact mm_iret C T (mm_dec dk_X7_wordOfToken 55 rfl) (by decide : 0 ≤ 0) (by decide : 0 ≤ 0) ⟨_, rfl, ⟨⟨by omega, by omega⟩, rfl⟩⟩
      · skip
        refine mm_ldcS (i := 15) C rfl (mm_dec dk_X7_wordOfToken 13 rfl) ?_
        refine mm_iload C (mm_dec dk_X7_wordOfToken 14 rfl) rfl ?_
        refine mm_cTi (rest := []) C1 mw_J0_charAt_5068e rfl ml_X7_145 im_J0_charAt_5068e se_J0_charAt_5068e (mm_dec dk_X7_wordOfToken 15 rfl) (c_J0_charAt_5068e x.2.1 hl (d - 1) (by omega) h x12_4 (by omega) (by omega)) rfl (Nat.le_of_ble_eq_true rfl) ⟨by decide, by decide⟩ rfl (fun r26 h26c hp26 => ?_)
        obtain ⟨b26, z26⟩ := hp26
        rw [z26]
        refine mm_istoreL (ls2 := [mR 63, mI x12_1, mI x12_2, mI x12_3, mI x12_4, mI r26]) C (mm_dec dk_X7_wordOfToken 16 rfl) (by decide) rfl ?_
        refine mm_iload C (mm_dec dk_X7_wordOfToken 17 rfl) rfl ?_
        refine mm_bipush C (mm_dec dk_X7_wordOfToken 18 rfl) ⟨by decide, by decide⟩ ?_
        have J97 : ∀ (x97_1 : Int) (bx97_1 : 0 ≤ x97_1 ∧ x97_1 ≤ 91) (x97_2 : Int) (bx97_2 : 0 ≤ x97_2 ∧ x97_2 ≤ 601) (x97_3 : Int) (bx97_3 : 0 ≤ x97_3 ∧ x97_3 ≤ 1) (w97_0 : x97_2 ≤ 501 + x12_4) (w97_1 : x97_1 ≤ x12_4 + 1), mm_W x 0 0 97 [mR 63, mI x97_1, mI x97_2, mI x97_3, mI x12_4, mU] [] h := by
          intro x97_1 bx97_1 x97_2 bx97_2 x97_3 bx97_3 w97_0 w97_1
          have g7 : 0 ≤ h.1 63 7 ∧ h.1 63 7 ≤ 500 := i0.1 63 7
          have g8 : 0 ≤ h.1 63 8 ∧ h.1 63 8 ≤ 500 := i0.1 63 8
          refine mm_iincL (ls2 := [mR 63, mI x97_1, mI x97_2, mI x97_3, mI (x12_4 + 1), mU]) C (mm_dec dk_X7_wordOfToken 52 rfl) rfl (by decide) ⟨by omega, by omega⟩ rfl ?_
          refine mm_goto (tgt := 12) C (mm_dec dk_X7_wordOfToken 53 rfl) (by decide) ?_
          exact ih12 x97_1 ⟨by omega, by omega⟩ x97_2 ⟨by omega, by omega⟩ x97_3 ⟨by omega, by omega⟩ (x12_4 + 1) ⟨by omega, by omega⟩ (by omega) (by omega) (by omega)
        refine mm_icmp_eq (tgt := 73) C (mm_dec dk_X7_wordOfToken 19 rfl) (by decide) (fun c35 => ?_) (fun c35 => ?_)
        · skip
          refine mm_iload_n C (mm_dec dk_X7_wordOfToken 38 rfl) rfl ?_
          have J87 : mm_W x 0 0 87 [mR 63, mI x12_1, mU, mU, mI x12_4, mU] [] h := by
            have g9 : 0 ≤ h.1 63 7 ∧ h.1 63 7 ≤ 500 := i0.1 63 7
            have g10 : 0 ≤ h.1 63 8 ∧ h.1 63 8 ≤ 500 := i0.1 63 8
            refine mm_iincL (ls2 := [mR 63, mI (x12_1 + 1), mU, mU, mI x12_4, mU]) C (mm_dec dk_X7_wordOfToken 46 rfl) rfl (by decide) ⟨by omega, by omega⟩ rfl ?_
            refine mm_aload_n C (mm_dec dk_X7_wordOfToken 47 rfl) rfl ?_
            refine mm_geti C fl_X7_31 (mm_dec dk_X7_wordOfToken 48 rfl) rfl rfl (Or.inl rfl) ?_
            refine mm_istore_nL (ls2 := [mR 63, mI (x12_1 + 1), mI (h.1 63 7), mU, mI x12_4, mU]) C (mm_dec dk_X7_wordOfToken 49 rfl) (by decide) rfl ?_
            refine mm_iconst C (mm_dec dk_X7_wordOfToken 50 rfl) ⟨by decide, by decide⟩ ?_
            refine mm_istore_nL (ls2 := [mR 63, mI (x12_1 + 1), mI (h.1 63 7), mI 1, mI x12_4, mU]) C (mm_dec dk_X7_wordOfToken 51 rfl) (by decide) rfl ?_
            exact J97 (x12_1 + 1) ⟨by omega, by omega⟩ (h.1 63 7) ⟨by omega, by omega⟩ 1 ⟨by omega, by omega⟩ (by omega) (by omega)
          refine mm_if_eq (tgt := 87) C (mm_dec dk_X7_wordOfToken 39 rfl) (by decide) (fun c74 => ?_) (fun c74 => ?_)
          · skip
            refine mm_fgt 2 ?_
            refine mm_fgt 3 ?_
            refine mm_fgt 5 ?_
            exact J87
          · skip
            refine mm_iload_n C (mm_dec dk_X7_wordOfToken 40 rfl) rfl ?_
            refine mm_aload_n C (mm_dec dk_X7_wordOfToken 41 rfl) rfl ?_
            refine mm_geti C fl_X7_34 (mm_dec dk_X7_wordOfToken 42 rfl) rfl rfl (Or.inl rfl) ?_
            refine mm_icmp_ne (tgt := 87) C (mm_dec dk_X7_wordOfToken 43 rfl) (by decide) (fun c82 => ?_) (fun c82 => ?_)
            · skip
              refine mm_fgt 2 ?_
              refine mm_fgt 3 ?_
              refine mm_fgt 5 ?_
              exact J87
            · skip
              refine mm_iload_n C (mm_dec dk_X7_wordOfToken 44 rfl) rfl ?_
              exact mm_iret C T (mm_dec dk_X7_wordOfToken 45 rfl) (by decide : 0 ≤ 0) (by decide : 0 ≤ 0) ⟨_, rfl, ⟨⟨by omega, by omega⟩, rfl⟩⟩
        · skip
          refine mm_iload_n C (mm_dec dk_X7_wordOfToken 20 rfl) rfl ?_
          have J66 : ∀ (s66_0 : Int) (bs66_0 : 0 ≤ s66_0 ∧ s66_0 ≤ 1) (vs66_0 : (s66_0 = 0) ∨ (x12_3 ≠ 0 ∧ x12_2 < (h.1 63 8) ∧ (h.2.1 62 x12_2) = r26 ∧ s66_0 = 1)), mm_W x 0 0 66 [mR 63, mI x12_1, mI x12_2, mU, mI x12_4, mU] [mI s66_0] h := by
            intro s66_0 bs66_0 vs66_0
            have g11 : 0 ≤ h.1 63 7 ∧ h.1 63 7 ≤ 500 := i0.1 63 7
            have g12 : 0 ≤ h.1 63 8 ∧ h.1 63 8 ≤ 500 := i0.1 63 8
            refine mm_istore_nL (ls2 := [mR 63, mI x12_1, mI x12_2, mI s66_0, mI x12_4, mU]) C (mm_dec dk_X7_wordOfToken 35 rfl) (by decide) rfl ?_
            refine mm_iincL (ls2 := [mR 63, mI x12_1, mI (x12_2 + 1), mI s66_0, mI x12_4, mU]) C (mm_dec dk_X7_wordOfToken 36 rfl) rfl (by decide) ⟨by omega, by omega⟩ rfl ?_
            refine mm_goto (tgt := 97) C (mm_dec dk_X7_wordOfToken 37 rfl) (by decide) ?_
            exact J97 x12_1 ⟨by omega, by omega⟩ (x12_2 + 1) ⟨by omega, by omega⟩ s66_0 ⟨by omega, by omega⟩ (by omega) (by omega)
          have J65 : mm_W x 0 0 65 [mR 63, mI x12_1, mI x12_2, mU, mI x12_4, mU] [] h := by
            have g13 : 0 ≤ h.1 63 7 ∧ h.1 63 7 ≤ 500 := i0.1 63 7
            have g14 : 0 ≤ h.1 63 8 ∧ h.1 63 8 ≤ 500 := i0.1 63 8
            refine mm_iconst C (mm_dec dk_X7_wordOfToken 34 rfl) ⟨by decide, by decide⟩ ?_
            exact J66 0 ⟨by omega, by omega⟩ (Or.inl rfl)
          refine mm_if_eq (tgt := 65) C (mm_dec dk_X7_wordOfToken 21 rfl) (by decide) (fun c39 => ?_) (fun c39 => ?_)
          · skip
            refine mm_fgt 3 ?_
            refine mm_fgt 5 ?_
            exact J65
          · skip
            refine mm_iload_n C (mm_dec dk_X7_wordOfToken 22 rfl) rfl ?_
            refine mm_aload_n C (mm_dec dk_X7_wordOfToken 23 rfl) rfl ?_
            refine mm_geti C fl_X7_34 (mm_dec dk_X7_wordOfToken 24 rfl) rfl rfl (Or.inl rfl) ?_
            refine mm_icmp_ge (tgt := 65) C (mm_dec dk_X7_wordOfToken 25 rfl) (by decide) (fun c47 => ?_) (fun c47 => ?_)
            · skip
              refine mm_fgt 3 ?_
              refine mm_fgt 5 ?_
              exact J65
            · skip
              refine mm_aload_n C (mm_dec dk_X7_wordOfToken 26 rfl) rfl ?_
              refine mm_getr (t := 62) C fl_X7_43 (mm_dec dk_X7_wordOfToken 27 rfl) rfl rfl (mm_ref i0 rfl) ?_
              refine mm_iload_n C (mm_dec dk_X7_wordOfToken 28 rfl) rfl ?_
              refine mm_iald C (mm_dec dk_X7_wordOfToken 29 rfl) rfl (by omega) (by omega) ?_
              have g15 : -2147483648 ≤ (h.2.1 62 x12_2) ∧ (h.2.1 62 x12_2) ≤ 2147483647 := i0.2.1 62 x12_2
              refine mm_iload C (mm_dec dk_X7_wordOfToken 30 rfl) rfl ?_
              refine mm_icmp_ne (tgt := 65) C (mm_dec dk_X7_wordOfToken 31 rfl) (by decide) (fun c58 => ?_) (fun c58 => ?_)
              · skip
                refine mm_fgt 3 ?_
                refine mm_fgt 5 ?_
                exact J65
              · skip
                refine mm_iconst C (mm_dec dk_X7_wordOfToken 32 rfl) ⟨by decide, by decide⟩ ?_
                refine mm_goto (tgt := 66) C (mm_dec dk_X7_wordOfToken 33 rfl) (by decide) ?_
                refine mm_fgt 3 ?_
                refine mm_fgt 5 ?_
                exact J66 1 ⟨by omega, by omega⟩ (Or.inr (⟨by omega, by omega, by omega, rfl⟩))
  refine mm_istoreL (ls2 := [mR 63, mI 0, mI (h.1 63 7), mI 1, mI 0, mU]) C (mm_dec dk_X7_wordOfToken 8 rfl) (by decide) rfl ?_
  exact J12 (((90 - 0) : Int) + 1).toNat 0 ⟨by omega, by omega⟩ (h.1 63 7) ⟨by omega, by omega⟩ 1 ⟨by omega, by omega⟩ 0 ⟨by omega, by omega⟩ (by omega) (by omega) (by omega)
set_option maxRecDepth 100000 in
set_option maxHeartbeats 4000000 in
theorem c_X7_step (l : Launch) (hl : l.stackTraces = false) (d : Nat) (hd : 5 ≤ d) (h : mH) (i0 : mm_inv h) : mm_Met l d yX7_step cX7_step 2 none [mR 63] h (mm_pv fun h2 => mm_inv h2 ∧ mm_fr [(63, 5), (63, 6), (63, 7), (63, 8)] [] h h2 ∧ (h2.1 63 5 = 0 ∨ h2.1 63 7 ≤ 499)) mm_nx 0 0 := by
  refine mm_ofW (ls := [mR 63, mU]) hl (by decide) rfl (Nat.le_of_ble_eq_true rfl) ?_
  intro x hxl C T hnm htb
  subst hxl
  have C1 := mm_OK_le (d' := d - 1 + 1) (by omega) C
  have f0 : mm_fr [(63, 5), (63, 6), (63, 7), (63, 8)] [] h h := mm_fr_rf
  have g1 : -2147483648 ≤ h.1 63 5 ∧ h.1 63 5 ≤ 2147483647 := i0.1 63 5
  have g2 : 0 ≤ h.1 63 7 ∧ h.1 63 7 ≤ 500 := i0.1 63 7
  have g3 : 0 ≤ h.1 63 8 ∧ h.1 63 8 ≤ 500 := i0.1 63 8
  have g4 : 0 ≤ h.1 63 3 ∧ h.1 63 3 ≤ 500 := i0.1 63 3
  refine mm_aload_n C (mm_dec dk_X7_step 0 rfl) rfl ?_
  refine mm_aload_n C (mm_dec dk_X7_step 1 rfl) rfl ?_
  refine mm_geti C fl_X7_34 (mm_dec dk_X7_step 2 rfl) rfl rfl (Or.inl rfl) ?_
  have J8 : ∀ (n : Nat) (h8_ : mH) (i8_ : mm_inv h8_) (f8_ : mm_fr [(63, 5), (63, 6), (63, 7), (63, 8)] [] h h8_), (500 - h8_.1 63 7 : Int) < n → mm_W x 0 0 8 [mR 63, mU] [] h8_ := by
    intro n
    induction n with
    | zero =>
      intro h8_ i8_ f8_ hm
      have g5 : -2147483648 ≤ h8_.1 63 5 ∧ h8_.1 63 5 ≤ 2147483647 := i8_.1 63 5
      have g6 : 0 ≤ h8_.1 63 7 ∧ h8_.1 63 7 ≤ 500 := i8_.1 63 7
      have g7 : 0 ≤ h8_.1 63 8 ∧ h8_.1 63 8 ≤ 500 := i8_.1 63 8
      have g8 : 0 ≤ h8_.1 63 3 ∧ h8_.1 63 3 ≤ 500 := i8_.1 63 3
      exfalso; omega
    | succ n ih8 =>
      intro h8_ i8_ f8_ hm8
      have g9 : -2147483648 ≤ h8_.1 63 5 ∧ h8_.1 63 5 ≤ 2147483647 := i8_.1 63 5
      have g10 : 0 ≤ h8_.1 63 7 ∧ h8_.1 63 7 ≤ 500 := i8_.1 63 7
      have g11 : 0 ≤ h8_.1 63 8 ∧ h8_.1 63 8 ≤ 500 := i8_.1 63 8
      have g12 : 0 ≤ h8_.1 63 3 ∧ h8_.1 63 3 ≤ 500 := i8_.1 63 3
      have g13 : h8_.1 63 3 = h.1 63 3 := f8_.1 63 3 (by decide)
      refine mm_aload_n C (mm_dec dk_X7_step 4 rfl) rfl ?_
      refine mm_geti C fl_X7_31 (mm_dec dk_X7_step 5 rfl) rfl rfl (Or.inl rfl) ?_
      refine mm_aload_n C (mm_dec dk_X7_step 6 rfl) rfl ?_
      refine mm_geti C fl_X7_18 (mm_dec dk_X7_step 7 rfl) rfl rfl (Or.inl rfl) ?_
      have J47 : mm_W x 0 0 47 [mR 63, mU] [] h8_ := by
        have g14 : -2147483648 ≤ h8_.1 63 5 ∧ h8_.1 63 5 ≤ 2147483647 := i8_.1 63 5
        have g15 : 0 ≤ h8_.1 63 7 ∧ h8_.1 63 7 ≤ 500 := i8_.1 63 7
        have g16 : 0 ≤ h8_.1 63 8 ∧ h8_.1 63 8 ≤ 500 := i8_.1 63 8
        have g17 : 0 ≤ h8_.1 63 3 ∧ h8_.1 63 3 ≤ 500 := i8_.1 63 3
        refine mm_aload_n C (mm_dec dk_X7_step 23 rfl) rfl ?_
        refine mm_aload_n C (mm_dec dk_X7_step 24 rfl) rfl ?_
        refine mm_geti C fl_X7_31 (mm_dec dk_X7_step 25 rfl) rfl rfl (Or.inl rfl) ?_
        refine mm_puti C fl_X7_34 (mm_dec dk_X7_step 26 rfl) rfl rfl rfl (Or.inl ⟨rfl, rfl⟩) ?_
        have i1 : mm_inv (mm_pf h8_ 63 8 (h8_.1 63 7)) := mm_inv_pf i8_ (show 0 ≤ (h8_.1 63 7) ∧ (h8_.1 63 7) ≤ 500 from ⟨by omega, by omega⟩) (by decide)
        have f1 : mm_fr [(63, 5), (63, 6), (63, 7), (63, 8)] [] h (mm_pf h8_ 63 8 (h8_.1 63 7)) := mm_fr_pf f8_ (by decide)
        obtain ⟨h1, eh1⟩ : ∃ z, z = mm_pf h8_ 63 8 (h8_.1 63 7) := ⟨_, rfl⟩
        rw [← eh1] at i1 f1 ⊢
        have qh1 : h1.1 63 8 = (h8_.1 63 7) := by rw [eh1]; exact mm_pf_same _ _ _ _
        have qh1_18 : h1.1 63 3 = h8_.1 63 3 := by rw [eh1]; exact mm_pf_ne _ _ (by decide)
        have qh1_19 : h1.1 63 5 = h8_.1 63 5 := by rw [eh1]; exact mm_pf_ne _ _ (by decide)
        have qh1_20 : h1.1 63 7 = h8_.1 63 7 := by rw [eh1]; exact mm_pf_ne _ _ (by decide)
        refine mm_aload_n C (mm_dec dk_X7_step 27 rfl) rfl ?_
        refine mm_iconst C (mm_dec dk_X7_step 28 rfl) ⟨by decide, by decide⟩ ?_
        refine mm_puti C fl_X7_25 (mm_dec dk_X7_step 29 rfl) rfl rfl rfl (Or.inl ⟨rfl, rfl⟩) ?_
        have i2 : mm_inv (mm_pf h1 63 5 0) := mm_inv_pf i1 (show -2147483648 ≤ 0 ∧ 0 ≤ 2147483647 from ⟨by omega, by omega⟩) (by decide)
        have f2 : mm_fr [(63, 5), (63, 6), (63, 7), (63, 8)] [] h (mm_pf h1 63 5 0) := mm_fr_pf f1 (by decide)
        obtain ⟨h2, eh2⟩ : ∃ z, z = mm_pf h1 63 5 0 := ⟨_, rfl⟩
        rw [← eh2] at i2 f2 ⊢
        have qh2 : h2.1 63 5 = 0 := by rw [eh2]; exact mm_pf_same _ _ _ _
        have qh2_21 : h2.1 63 3 = h1.1 63 3 := by rw [eh2]; exact mm_pf_ne _ _ (by decide)
        have qh2_22 : h2.1 63 7 = h1.1 63 7 := by rw [eh2]; exact mm_pf_ne _ _ (by decide)
        have qh2_23 : h2.1 63 8 = h1.1 63 8 := by rw [eh2]; exact mm_pf_ne _ _ (by decide)
        refine mm_aload_n C (mm_dec dk_X7_step 30 rfl) rfl ?_
        refine mm_iconst C (mm_dec dk_X7_step 31 rfl) ⟨by decide, by decide⟩ ?_
        refine mm_puti C fl_X7_28 (mm_dec dk_X7_step 32 rfl) rfl rfl rfl (Or.inl ⟨rfl, rfl⟩) ?_
        have i3 : mm_inv (mm_pf h2 63 6 (-1)) := mm_inv_pf i2 (show -2147483648 ≤ (-1) ∧ (-1) ≤ 2147483647 from ⟨by omega, by omega⟩) (by decide)
        have f3 : mm_fr [(63, 5), (63, 6), (63, 7), (63, 8)] [] h (mm_pf h2 63 6 (-1)) := mm_fr_pf f2 (by decide)
        obtain ⟨h3, eh3⟩ : ∃ z, z = mm_pf h2 63 6 (-1) := ⟨_, rfl⟩
        rw [← eh3] at i3 f3 ⊢
        have qh3 : h3.1 63 6 = (-1) := by rw [eh3]; exact mm_pf_same _ _ _ _
        have qh3_24 : h3.1 63 3 = h2.1 63 3 := by rw [eh3]; exact mm_pf_ne _ _ (by decide)
        have qh3_25 : h3.1 63 5 = h2.1 63 5 := by rw [eh3]; exact mm_pf_ne _ _ (by decide)
        have qh3_26 : h3.1 63 7 = h2.1 63 7 := by rw [eh3]; exact mm_pf_ne _ _ (by decide)
        have qh3_27 : h3.1 63 8 = h2.1 63 8 := by rw [eh3]; exact mm_pf_ne _ _ (by decide)
        refine mm_aload_n C (mm_dec dk_X7_step 33 rfl) rfl ?_
        refine mm_geti C fl_X7_31 (mm_dec dk_X7_step 34 rfl) rfl rfl (Or.inl rfl) ?_
        refine mm_aload_n C (mm_dec dk_X7_step 35 rfl) rfl ?_
        refine mm_geti C fl_X7_18 (mm_dec dk_X7_step 36 rfl) rfl rfl (Or.inl rfl) ?_
        refine mm_icmp_lt (tgt := 77) C (mm_dec dk_X7_step 37 rfl) (by decide) (fun c73 => ?_) (fun c73 => ?_)
        · skip
          refine mm_aload_n C (mm_dec dk_X7_step 39 rfl) rfl ?_
          refine mm_aload_n C (mm_dec dk_X7_step 40 rfl) rfl ?_
          refine mm_getr (t := 62) C fl_X7_43 (mm_dec dk_X7_step 41 rfl) rfl rfl (mm_ref i3 rfl) ?_
          refine mm_aload_n C (mm_dec dk_X7_step 42 rfl) rfl ?_
          refine mm_geti C fl_X7_31 (mm_dec dk_X7_step 43 rfl) rfl rfl (Or.inl rfl) ?_
          refine mm_iald C (mm_dec dk_X7_step 44 rfl) rfl (by omega) (by omega) ?_
          have g28 : -2147483648 ≤ (h3.2.1 62 (h3.1 63 7)) ∧ (h3.2.1 62 (h3.1 63 7)) ≤ 2147483647 := i3.2.1 62 (h3.1 63 7)
          refine mm_cSi (rest := [mR 63]) C1 es_X7_131 (mm_dec dk_X7_step 45 rfl) (c_X7_kindOf x.2.1 hl (d - 1) (by omega) h3 i3 (h3.2.1 62 (h3.1 63 7))) rfl (Nat.le_of_ble_eq_true rfl) ⟨by decide, by decide⟩ rfl (fun r87 h87c hp87 => ?_) (fun _ _ q => q.elim)
          obtain ⟨b87, z87⟩ := hp87
          rw [z87]
          refine mm_puti C fl_X7_25 (mm_dec dk_X7_step 46 rfl) rfl rfl rfl (Or.inl ⟨rfl, rfl⟩) ?_
          have i4 : mm_inv (mm_pf h3 63 5 r87) := mm_inv_pf i3 (show -2147483648 ≤ r87 ∧ r87 ≤ 2147483647 from ⟨by omega, by omega⟩) (by decide)
          have f4 : mm_fr [(63, 5), (63, 6), (63, 7), (63, 8)] [] h (mm_pf h3 63 5 r87) := mm_fr_pf f3 (by decide)
          obtain ⟨h4, eh4⟩ : ∃ z, z = mm_pf h3 63 5 r87 := ⟨_, rfl⟩
          rw [← eh4] at i4 f4 ⊢
          have qh4 : h4.1 63 5 = r87 := by rw [eh4]; exact mm_pf_same _ _ _ _
          have qh4_30 : h4.1 63 3 = h3.1 63 3 := by rw [eh4]; exact mm_pf_ne _ _ (by decide)
          have qh4_31 : h4.1 63 6 = h3.1 63 6 := by rw [eh4]; exact mm_pf_ne _ _ (by decide)
          have qh4_32 : h4.1 63 7 = h3.1 63 7 := by rw [eh4]; exact mm_pf_ne _ _ (by decide)
          have qh4_33 : h4.1 63 8 = h3.1 63 8 := by rw [eh4]; exact mm_pf_ne _ _ (by decide)
          refine mm_aload_n C (mm_dec dk_X7_step 47 rfl) rfl ?_
          refine mm_dup C (mm_dec dk_X7_step 48 rfl) (show (2 : Nat) ≠ 1 by decide) ?_
          refine mm_geti C fl_X7_34 (mm_dec dk_X7_step 49 rfl) rfl rfl (Or.inl rfl) ?_
          refine mm_iconst C (mm_dec dk_X7_step 50 rfl) ⟨by decide, by decide⟩ ?_
          refine mm_iadd C (mm_dec dk_X7_step 51 rfl) ⟨by omega, by omega⟩ ?_
          refine mm_puti C fl_X7_34 (mm_dec dk_X7_step 52 rfl) rfl rfl rfl (Or.inl ⟨rfl, rfl⟩) ?_
          have i5 : mm_inv (mm_pf h4 63 8 ((h4.1 63 8) + 1)) := mm_inv_pf i4 (show 0 ≤ ((h4.1 63 8) + 1) ∧ ((h4.1 63 8) + 1) ≤ 500 from ⟨by omega, by omega⟩) (by decide)
          have f5 : mm_fr [(63, 5), (63, 6), (63, 7), (63, 8)] [] h (mm_pf h4 63 8 ((h4.1 63 8) + 1)) := mm_fr_pf f4 (by decide)
          obtain ⟨h5, eh5⟩ : ∃ z, z = mm_pf h4 63 8 ((h4.1 63 8) + 1) := ⟨_, rfl⟩
          rw [← eh5] at i5 f5 ⊢
          have qh5 : h5.1 63 8 = ((h4.1 63 8) + 1) := by rw [eh5]; exact mm_pf_same _ _ _ _
          have qh5_34 : h5.1 63 3 = h4.1 63 3 := by rw [eh5]; exact mm_pf_ne _ _ (by decide)
          have qh5_35 : h5.1 63 5 = h4.1 63 5 := by rw [eh5]; exact mm_pf_ne _ _ (by decide)
          have qh5_36 : h5.1 63 6 = h4.1 63 6 := by rw [eh5]; exact mm_pf_ne _ _ (by decide)
          have qh5_37 : h5.1 63 7 = h4.1 63 7 := by rw [eh5]; exact mm_pf_ne _ _ (by decide)
          refine mm_aload_n C (mm_dec dk_X7_step 53 rfl) rfl ?_
          refine mm_geti C fl_X7_25 (mm_dec dk_X7_step 54 rfl) rfl rfl (Or.inl rfl) ?_
          refine mm_iconst C (mm_dec dk_X7_step 55 rfl) ⟨by decide, by decide⟩ ?_
          have J124 : ∀ (s124_0 : Int) (bs124_0 : 0 ≤ s124_0 ∧ s124_0 ≤ 1) (vs124_0 : ((h5.1 63 5) ≠ 2 ∧ (h5.1 63 5) ≠ 3 ∧ s124_0 = 0) ∨ (s124_0 = 1)), mm_W x 0 0 124 [mR 63, mU] [mI s124_0] h5 := by
            intro s124_0 bs124_0 vs124_0
            have J125 : ∀ (n : Nat) (x125_1 : Int) (bx125_1 : 0 ≤ x125_1 ∧ x125_1 ≤ 1) (h125_ : mH) (i125_ : mm_inv h125_) (f125_ : mm_fr [(63, 5), (63, 6), (63, 7), (63, 8)] [] h h125_) (w125_0 : h125_.1 63 7 ≤ 499), (500 - h125_.1 63 8 : Int) < n → mm_W x 0 0 125 [mR 63, mI x125_1] [] h125_ := by
              intro n
              induction n with
              | zero =>
                intro x125_1 bx125_1 h125_ i125_ f125_ w125_0 hm
                have g38 : -2147483648 ≤ h125_.1 63 5 ∧ h125_.1 63 5 ≤ 2147483647 := i125_.1 63 5
                have g39 : 0 ≤ h125_.1 63 7 ∧ h125_.1 63 7 ≤ 500 := i125_.1 63 7
                have g40 : 0 ≤ h125_.1 63 8 ∧ h125_.1 63 8 ≤ 500 := i125_.1 63 8
                have g41 : 0 ≤ h125_.1 63 3 ∧ h125_.1 63 3 ≤ 500 := i125_.1 63 3
                exfalso; omega
              | succ n ih125 =>
                intro x125_1 bx125_1 h125_ i125_ f125_ w125_0 hm125
                have g42 : -2147483648 ≤ h125_.1 63 5 ∧ h125_.1 63 5 ≤ 2147483647 := i125_.1 63 5
                have g43 : 0 ≤ h125_.1 63 7 ∧ h125_.1 63 7 ≤ 500 := i125_.1 63 7
                have g44 : 0 ≤ h125_.1 63 8 ∧ h125_.1 63 8 ≤ 500 := i125_.1 63 8
                have g45 : 0 ≤ h125_.1 63 3 ∧ h125_.1 63 3 ≤ 500 := i125_.1 63 3
                have g46 : h125_.1 63 3 = h.1 63 3 := f125_.1 63 3 (by decide)
                refine mm_iload_n C (mm_dec dk_X7_step 65 rfl) rfl ?_
                have J172 : mm_W x 0 0 172 [mR 63, mU] [] h125_ := by
                  have g47 : -2147483648 ≤ h125_.1 63 5 ∧ h125_.1 63 5 ≤ 2147483647 := i125_.1 63 5
                  have g48 : 0 ≤ h125_.1 63 7 ∧ h125_.1 63 7 ≤ 500 := i125_.1 63 7
                  have g49 : 0 ≤ h125_.1 63 8 ∧ h125_.1 63 8 ≤ 500 := i125_.1 63 8
                  have g50 : 0 ≤ h125_.1 63 3 ∧ h125_.1 63 3 ≤ 500 := i125_.1 63 3
                  refine mm_aload_n C (mm_dec dk_X7_step 88 rfl) rfl ?_
                  refine mm_geti C fl_X7_25 (mm_dec dk_X7_step 89 rfl) rfl rfl (Or.inl rfl) ?_
                  refine mm_iconst C (mm_dec dk_X7_step 90 rfl) ⟨by decide, by decide⟩ ?_
                  have J188 : ∀ (h188_ : mH) (i188_ : mm_inv h188_) (f188_ : mm_fr [(63, 5), (63, 6), (63, 7), (63, 8)] [] h h188_) (w188_0 : h188_.1 63 7 ≤ 499), mm_W x 0 0 188 [mU, mU] [] h188_ := by
                    intro h188_ i188_ f188_ w188_0
                    have g51 : -2147483648 ≤ h188_.1 63 5 ∧ h188_.1 63 5 ≤ 2147483647 := i188_.1 63 5
                    have g52 : 0 ≤ h188_.1 63 7 ∧ h188_.1 63 7 ≤ 500 := i188_.1 63 7
                    have g53 : 0 ≤ h188_.1 63 8 ∧ h188_.1 63 8 ≤ 500 := i188_.1 63 8
                    have g54 : 0 ≤ h188_.1 63 3 ∧ h188_.1 63 3 ≤ 500 := i188_.1 63 3
                    have g55 : h188_.1 63 3 = h.1 63 3 := f188_.1 63 3 (by decide)
                    exact mm_vret C T (mm_dec dk_X7_step 96 rfl) (by decide : 0 ≤ 0) (by decide : 0 ≤ 0) ⟨rfl, ⟨i188_, f188_, by omega⟩⟩
                  refine mm_icmp_ne (tgt := 188) C (mm_dec dk_X7_step 91 rfl) (by decide) (fun c177 => ?_) (fun c177 => ?_)
                  · skip
                    refine mm_fgt 0 ?_
                    exact J188 h125_ i125_ f125_ (by omega)
                  · skip
                    refine mm_aload_n C (mm_dec dk_X7_step 92 rfl) rfl ?_
                    refine mm_aload_n C (mm_dec dk_X7_step 93 rfl) rfl ?_
                    refine mm_cVi (rest := [mR 63]) C1 ev_X7_135 (mm_dec dk_X7_step 94 rfl) (c_X7_wordOfToken x.2.1 hl (d - 1) (by omega) h125_ i125_ ) rfl rfl (Nat.le_of_ble_eq_true rfl) ⟨by decide, by decide⟩ rfl (fun r182 h182c hp182 => ?_) (fun _ _ q => q.elim)
                    obtain ⟨b182, z182⟩ := hp182
                    rw [z182]
                    refine mm_puti C fl_X7_28 (mm_dec dk_X7_step 95 rfl) rfl rfl rfl (Or.inl ⟨rfl, rfl⟩) ?_
                    have i6 : mm_inv (mm_pf h125_ 63 6 r182) := mm_inv_pf i125_ (show -2147483648 ≤ r182 ∧ r182 ≤ 2147483647 from ⟨by omega, by omega⟩) (by decide)
                    have f6 : mm_fr [(63, 5), (63, 6), (63, 7), (63, 8)] [] h (mm_pf h125_ 63 6 r182) := mm_fr_pf f125_ (by decide)
                    obtain ⟨h6, eh6⟩ : ∃ z, z = mm_pf h125_ 63 6 r182 := ⟨_, rfl⟩
                    rw [← eh6] at i6 f6 ⊢
                    have qh6 : h6.1 63 6 = r182 := by rw [eh6]; exact mm_pf_same _ _ _ _
                    have qh6_57 : h6.1 63 3 = h125_.1 63 3 := by rw [eh6]; exact mm_pf_ne _ _ (by decide)
                    have qh6_58 : h6.1 63 5 = h125_.1 63 5 := by rw [eh6]; exact mm_pf_ne _ _ (by decide)
                    have qh6_59 : h6.1 63 7 = h125_.1 63 7 := by rw [eh6]; exact mm_pf_ne _ _ (by decide)
                    have qh6_60 : h6.1 63 8 = h125_.1 63 8 := by rw [eh6]; exact mm_pf_ne _ _ (by decide)
                    refine mm_fgt 0 ?_
                    exact J188 h6 i6 f6 (by omega)
                refine mm_if_eq (tgt := 172) C (mm_dec dk_X7_step 66 rfl) (by decide) (fun c126 => ?_) (fun c126 => ?_)
                · skip
                  refine mm_fgt 1 ?_
                  exact J172
                · skip
                  refine mm_aload_n C (mm_dec dk_X7_step 67 rfl) rfl ?_
                  refine mm_geti C fl_X7_34 (mm_dec dk_X7_step 68 rfl) rfl rfl (Or.inl rfl) ?_
                  refine mm_aload_n C (mm_dec dk_X7_step 69 rfl) rfl ?_
                  refine mm_geti C fl_X7_18 (mm_dec dk_X7_step 70 rfl) rfl rfl (Or.inl rfl) ?_
                  refine mm_icmp_ge (tgt := 172) C (mm_dec dk_X7_step 71 rfl) (by decide) (fun c137 => ?_) (fun c137 => ?_)
                  · skip
                    refine mm_fgt 1 ?_
                    exact J172
                  · skip
                    refine mm_aload_n C (mm_dec dk_X7_step 72 rfl) rfl ?_
                    refine mm_getr (t := 62) C fl_X7_43 (mm_dec dk_X7_step 73 rfl) rfl rfl (mm_ref i125_ rfl) ?_
                    refine mm_aload_n C (mm_dec dk_X7_step 74 rfl) rfl ?_
                    refine mm_geti C fl_X7_34 (mm_dec dk_X7_step 75 rfl) rfl rfl (Or.inl rfl) ?_
                    refine mm_iald C (mm_dec dk_X7_step 76 rfl) rfl (by omega) (by omega) ?_
                    have g61 : -2147483648 ≤ (h125_.2.1 62 (h125_.1 63 8)) ∧ (h125_.2.1 62 (h125_.1 63 8)) ≤ 2147483647 := i125_.2.1 62 (h125_.1 63 8)
                    refine mm_cSi (rest := []) C1 es_X7_131 (mm_dec dk_X7_step 77 rfl) (c_X7_kindOf x.2.1 hl (d - 1) (by omega) h125_ i125_ (h125_.2.1 62 (h125_.1 63 8))) rfl (Nat.le_of_ble_eq_true rfl) ⟨by decide, by decide⟩ rfl (fun r149 h149c hp149 => ?_) (fun _ _ q => q.elim)
                    obtain ⟨b149, z149⟩ := hp149
                    rw [z149]
                    refine mm_aload_n C (mm_dec dk_X7_step 78 rfl) rfl ?_
                    refine mm_geti C fl_X7_25 (mm_dec dk_X7_step 79 rfl) rfl rfl (Or.inl rfl) ?_
                    refine mm_icmp_ne (tgt := 172) C (mm_dec dk_X7_step 80 rfl) (by decide) (fun c156 => ?_) (fun c156 => ?_)
                    · skip
                      refine mm_fgt 1 ?_
                      exact J172
                    · skip
                      refine mm_aload_n C (mm_dec dk_X7_step 81 rfl) rfl ?_
                      refine mm_dup C (mm_dec dk_X7_step 82 rfl) (show (2 : Nat) ≠ 1 by decide) ?_
                      refine mm_geti C fl_X7_34 (mm_dec dk_X7_step 83 rfl) rfl rfl (Or.inl rfl) ?_
                      refine mm_iconst C (mm_dec dk_X7_step 84 rfl) ⟨by decide, by decide⟩ ?_
                      refine mm_iadd C (mm_dec dk_X7_step 85 rfl) ⟨by omega, by omega⟩ ?_
                      refine mm_puti C fl_X7_34 (mm_dec dk_X7_step 86 rfl) rfl rfl rfl (Or.inl ⟨rfl, rfl⟩) ?_
                      have i7 : mm_inv (mm_pf h125_ 63 8 ((h125_.1 63 8) + 1)) := mm_inv_pf i125_ (show 0 ≤ ((h125_.1 63 8) + 1) ∧ ((h125_.1 63 8) + 1) ≤ 500 from ⟨by omega, by omega⟩) (by decide)
                      have f7 : mm_fr [(63, 5), (63, 6), (63, 7), (63, 8)] [] h (mm_pf h125_ 63 8 ((h125_.1 63 8) + 1)) := mm_fr_pf f125_ (by decide)
                      obtain ⟨h7, eh7⟩ : ∃ z, z = mm_pf h125_ 63 8 ((h125_.1 63 8) + 1) := ⟨_, rfl⟩
                      rw [← eh7] at i7 f7 ⊢
                      have qh7 : h7.1 63 8 = ((h125_.1 63 8) + 1) := by rw [eh7]; exact mm_pf_same _ _ _ _
                      have qh7_63 : h7.1 63 3 = h125_.1 63 3 := by rw [eh7]; exact mm_pf_ne _ _ (by decide)
                      have qh7_64 : h7.1 63 5 = h125_.1 63 5 := by rw [eh7]; exact mm_pf_ne _ _ (by decide)
                      have qh7_65 : h7.1 63 7 = h125_.1 63 7 := by rw [eh7]; exact mm_pf_ne _ _ (by decide)
                      refine mm_goto (tgt := 125) C (mm_dec dk_X7_step 87 rfl) (by decide) ?_
                      exact ih125 x125_1 ⟨by omega, by omega⟩ h7 i7 f7 (by omega) (by omega)
            refine mm_istore_nL (ls2 := [mR 63, mI s124_0]) C (mm_dec dk_X7_step 64 rfl) (by decide) rfl ?_
            exact J125 (((500 - h5.1 63 8) : Int) + 1).toNat s124_0 ⟨by omega, by omega⟩ h5 i5 f5 (by omega) (by omega)
          have J119 : mm_W x 0 0 119 [mR 63, mU] [] h5 := by
            refine mm_iconst C (mm_dec dk_X7_step 61 rfl) ⟨by decide, by decide⟩ ?_
            refine mm_goto (tgt := 124) C (mm_dec dk_X7_step 62 rfl) (by decide) ?_
            exact J124 1 ⟨by omega, by omega⟩ (Or.inr (rfl))
          refine mm_icmp_eq (tgt := 119) C (mm_dec dk_X7_step 56 rfl) (by decide) (fun c108 => ?_) (fun c108 => ?_)
          · skip
            exact J119
          · skip
            refine mm_aload_n C (mm_dec dk_X7_step 57 rfl) rfl ?_
            refine mm_geti C fl_X7_25 (mm_dec dk_X7_step 58 rfl) rfl rfl (Or.inl rfl) ?_
            refine mm_iconst C (mm_dec dk_X7_step 59 rfl) ⟨by decide, by decide⟩ ?_
            refine mm_icmp_ne (tgt := 123) C (mm_dec dk_X7_step 60 rfl) (by decide) (fun c116 => ?_) (fun c116 => ?_)
            · skip
              refine mm_iconst C (mm_dec dk_X7_step 63 rfl) ⟨by decide, by decide⟩ ?_
              exact J124 0 ⟨by omega, by omega⟩ (Or.inl ⟨by omega, by omega, rfl⟩)
            · skip
              exact J119
        · skip
          exact mm_vret C T (mm_dec dk_X7_step 38 rfl) (by decide : 0 ≤ 0) (by decide : 0 ≤ 0) ⟨rfl, ⟨i3, f3, by omega⟩⟩
      refine mm_icmp_ge (tgt := 47) C (mm_dec dk_X7_step 8 rfl) (by decide) (fun c16 => ?_) (fun c16 => ?_)
      · skip
        exact J47
      · skip
        refine mm_aload_n C (mm_dec dk_X7_step 9 rfl) rfl ?_
        refine mm_getr (t := 62) C fl_X7_43 (mm_dec dk_X7_step 10 rfl) rfl rfl (mm_ref i8_ rfl) ?_
        refine mm_aload_n C (mm_dec dk_X7_step 11 rfl) rfl ?_
        refine mm_geti C fl_X7_31 (mm_dec dk_X7_step 12 rfl) rfl rfl (Or.inl rfl) ?_
        refine mm_iald C (mm_dec dk_X7_step 13 rfl) rfl (by omega) (by omega) ?_
        have g66 : -2147483648 ≤ (h8_.2.1 62 (h8_.1 63 7)) ∧ (h8_.2.1 62 (h8_.1 63 7)) ≤ 2147483647 := i8_.2.1 62 (h8_.1 63 7)
        refine mm_cSi (rest := []) C1 es_X7_128 (mm_dec dk_X7_step 14 rfl) (c_X7_isBlank x.2.1 hl (d - 1) (by omega) h8_ i8_ (h8_.2.1 62 (h8_.1 63 7))) rfl (Nat.le_of_ble_eq_true rfl) ⟨by decide, by decide⟩ rfl (fun r28 h28c hp28 => ?_) (fun _ _ q => q.elim)
        obtain ⟨z28, y28⟩ := hp28
        rw [z28]
        refine mm_if_eq (tgt := 47) C (mm_dec dk_X7_step 15 rfl) (by decide) (fun c31 => ?_) (fun c31 => ?_)
        · skip
          exact J47
        · skip
          refine mm_aload_n C (mm_dec dk_X7_step 16 rfl) rfl ?_
          refine mm_dup C (mm_dec dk_X7_step 17 rfl) (show (2 : Nat) ≠ 1 by decide) ?_
          refine mm_geti C fl_X7_31 (mm_dec dk_X7_step 18 rfl) rfl rfl (Or.inl rfl) ?_
          refine mm_iconst C (mm_dec dk_X7_step 19 rfl) ⟨by decide, by decide⟩ ?_
          refine mm_iadd C (mm_dec dk_X7_step 20 rfl) ⟨by omega, by omega⟩ ?_
          refine mm_puti C fl_X7_31 (mm_dec dk_X7_step 21 rfl) rfl rfl rfl (Or.inl ⟨rfl, rfl⟩) ?_
          have i8 : mm_inv (mm_pf h8_ 63 7 ((h8_.1 63 7) + 1)) := mm_inv_pf i8_ (show 0 ≤ ((h8_.1 63 7) + 1) ∧ ((h8_.1 63 7) + 1) ≤ 500 from ⟨by omega, by omega⟩) (by decide)
          have f8 : mm_fr [(63, 5), (63, 6), (63, 7), (63, 8)] [] h (mm_pf h8_ 63 7 ((h8_.1 63 7) + 1)) := mm_fr_pf f8_ (by decide)
          obtain ⟨h8, eh8⟩ : ∃ z, z = mm_pf h8_ 63 7 ((h8_.1 63 7) + 1) := ⟨_, rfl⟩
          rw [← eh8] at i8 f8 ⊢
          have qh8 : h8.1 63 7 = ((h8_.1 63 7) + 1) := by rw [eh8]; exact mm_pf_same _ _ _ _
          have qh8_68 : h8.1 63 3 = h8_.1 63 3 := by rw [eh8]; exact mm_pf_ne _ _ (by decide)
          have qh8_69 : h8.1 63 5 = h8_.1 63 5 := by rw [eh8]; exact mm_pf_ne _ _ (by decide)
          have qh8_70 : h8.1 63 8 = h8_.1 63 8 := by rw [eh8]; exact mm_pf_ne _ _ (by decide)
          refine mm_goto (tgt := 8) C (mm_dec dk_X7_step 22 rfl) (by decide) ?_
          exact ih8 h8 i8 f8 (by omega)
  refine mm_puti C fl_X7_31 (mm_dec dk_X7_step 3 rfl) rfl rfl rfl (Or.inl ⟨rfl, rfl⟩) ?_
  have i9 : mm_inv (mm_pf h 63 7 (h.1 63 8)) := mm_inv_pf i0 (show 0 ≤ (h.1 63 8) ∧ (h.1 63 8) ≤ 500 from ⟨by omega, by omega⟩) (by decide)
  have f9 : mm_fr [(63, 5), (63, 6), (63, 7), (63, 8)] [] h (mm_pf h 63 7 (h.1 63 8)) := mm_fr_pf f0 (by decide)
  obtain ⟨h9, eh9⟩ : ∃ z, z = mm_pf h 63 7 (h.1 63 8) := ⟨_, rfl⟩
  rw [← eh9] at i9 f9 ⊢
  have qh9 : h9.1 63 7 = (h.1 63 8) := by rw [eh9]; exact mm_pf_same _ _ _ _
  have qh9_71 : h9.1 63 3 = h.1 63 3 := by rw [eh9]; exact mm_pf_ne _ _ (by decide)
  have qh9_72 : h9.1 63 5 = h.1 63 5 := by rw [eh9]; exact mm_pf_ne _ _ (by decide)
  have qh9_73 : h9.1 63 8 = h.1 63 8 := by rw [eh9]; exact mm_pf_ne _ _ (by decide)
  exact J8 (((500 - h9.1 63 7) : Int) + 1).toNat h9 i9 f9 (by omega)
set_option maxRecDepth 100000 in
set_option maxHeartbeats 4000000 in
theorem c_X7_readSign (l : Launch) (hl : l.stackTraces = false) (d : Nat) (hd : 6 ≤ d) (h : mH) (i0 : mm_inv h) (p1 : Int) (t0 : (h.1 63 5 = 0 ∨ h.1 63 7 ≤ 499)) : mm_Met l d yX7_readSign cX7_readSign 2 (some .boolean) [mR 63, mI p1] h (mm_pi fun r h2 => (0 ≤ r ∧ r ≤ 1) ∧ mm_inv h2 ∧ mm_fr [(63, 5), (63, 6), (63, 7), (63, 8), (63, 9), (63, 10)] [] h h2 ∧ (h2.1 63 5 = 0 ∨ h2.1 63 7 ≤ 499)) mm_nx 0 0 := by
  refine mm_ofW (ls := [mR 63, mI p1]) hl (by decide) rfl (Nat.le_of_ble_eq_true rfl) ?_
  intro x hxl C T hnm htb
  subst hxl
  have C1 := mm_OK_le (d' := d - 1 + 1) (by omega) C
  refine mm_rng (fun hr _ => ?_)
  have ap1 : -2147483648 ≤ p1 ∧ p1 < 2147483648 := mm_ok_at hr (i := 1) rfl
  have f0 : mm_fr [(63, 5), (63, 6), (63, 7), (63, 8), (63, 9), (63, 10)] [] h h := mm_fr_rf
  have g1 : -2147483648 ≤ h.1 63 5 ∧ h.1 63 5 ≤ 2147483647 := i0.1 63 5
  have g2 : 0 ≤ h.1 63 7 ∧ h.1 63 7 ≤ 500 := i0.1 63 7
  refine mm_aload_n C (mm_dec dk_X7_readSign 0 rfl) rfl ?_
  refine mm_iload_n C (mm_dec dk_X7_readSign 1 rfl) rfl ?_
  refine mm_cVi (rest := []) C1 ev_X7_96 (mm_dec dk_X7_readSign 2 rfl) (c_X7_isSign x.2.1 hl (d - 1) (by omega) h i0 p1 (by omega)) rfl rfl (Nat.le_of_ble_eq_true rfl) ⟨by decide, by decide⟩ rfl (fun r2 h2c hp2 => ?_) (fun _ _ q => q.elim)
  obtain ⟨z2, y2⟩ := hp2
  rw [z2]
  have g4 : -2147483648 ≤ (h.2.1 62 (h.1 63 7)) ∧ (h.2.1 62 (h.1 63 7)) ≤ 2147483647 := i0.2.1 62 (h.1 63 7)
  refine mm_if_ne (tgt := 14) C (mm_dec dk_X7_readSign 3 rfl) (by decide) (fun c5 => ?_) (fun c5 => ?_)
  · skip
    refine mm_aload_n C (mm_dec dk_X7_readSign 8 rfl) rfl ?_
    refine mm_cVv (rest := []) C1 ev_X7_52 (mm_dec dk_X7_readSign 9 rfl) (c_X7_step x.2.1 hl (d - 1) (by omega) h i0 ) rfl rfl (Nat.le_of_ble_eq_true rfl) ⟨by decide, by decide⟩ rfl (fun h15c hp15 => ?_) (fun _ _ q => q.elim)
    obtain ⟨i15c, g15c, y15_0⟩ := hp15
    have f15c : mm_fr [(63, 5), (63, 6), (63, 7), (63, 8), (63, 9), (63, 10)] [] h h15c := mm_fr_tr f0 g15c (by decide +kernel)
    have g6 : -2147483648 ≤ (h15c.1 63 5) ∧ (h15c.1 63 5) ≤ 2147483647 := i15c.1 63 5
    have g7 : 0 ≤ (h15c.1 63 7) ∧ (h15c.1 63 7) ≤ 500 := i15c.1 63 7
    refine mm_iconst C (mm_dec dk_X7_readSign 10 rfl) ⟨by decide, by decide⟩ ?_
    exact mm_zret C T (mm_dec dk_X7_readSign 11 rfl) (by decide : 0 ≤ 0) (by decide : 0 ≤ 0) (by omega) ⟨_, rfl, ⟨⟨by omega, by omega⟩, i15c, f15c, by omega⟩⟩
  · skip
    refine mm_aload_n C (mm_dec dk_X7_readSign 4 rfl) rfl ?_
    refine mm_iconst C (mm_dec dk_X7_readSign 5 rfl) ⟨by decide, by decide⟩ ?_
    refine mm_cVi (rest := []) C1 ev_X7_65 (mm_dec dk_X7_readSign 6 rfl) (c_X7_refuse x.2.1 hl (d - 1) (by omega) h i0 1) rfl rfl (Nat.le_of_ble_eq_true rfl) ⟨by decide, by decide⟩ rfl (fun r10 h10c hp10 => ?_) (fun _ _ q => q.elim)
    obtain ⟨b10, i10c, g10c⟩ := hp10
    have f10c : mm_fr [(63, 5), (63, 6), (63, 7), (63, 8), (63, 9), (63, 10)] [] h h10c := mm_fr_tr f0 g10c (by decide +kernel)
    have q10c_9 : h10c.1 63 5 = h.1 63 5 := g10c.1 63 5 (by decide)
    have q10c_10 : h10c.1 63 7 = h.1 63 7 := g10c.1 63 7 (by decide)
    exact mm_zret C T (mm_dec dk_X7_readSign 7 rfl) (by decide : 0 ≤ 0) (by decide : 0 ≤ 0) (by omega) ⟨_, rfl, ⟨⟨by omega, by omega⟩, i10c, f10c, by omega⟩⟩
set_option maxRecDepth 100000 in
set_option maxHeartbeats 4000000 in
theorem c_X7_readSetting (l : Launch) (hl : l.stackTraces = false) (d : Nat) (hd : 6 ≤ d) (h : mH) (i0 : mm_inv h) (t0 : (h.1 63 5 = 0 ∨ h.1 63 7 ≤ 499)) : mm_Met l d yX7_readSetting cX7_readSetting 2 (some .boolean) [mR 63] h (mm_pi fun r h2 => (0 ≤ r ∧ r ≤ 1) ∧ mm_inv h2 ∧ mm_fr [(63, 5), (63, 6), (63, 7), (63, 8), (63, 9), (63, 10)] [65] h h2 ∧ (h2.1 63 5 = 0 ∨ h2.1 63 7 ≤ 499)) mm_nx 0 0 := by
  refine mm_ofW (ls := [mR 63, mU]) hl (by decide) rfl (Nat.le_of_ble_eq_true rfl) ?_
  intro x hxl C T hnm htb
  subst hxl
  have C1 := mm_OK_le (d' := d - 1 + 1) (by omega) C
  have f0 : mm_fr [(63, 5), (63, 6), (63, 7), (63, 8), (63, 9), (63, 10)] [65] h h := mm_fr_rf
  have g1 : -2147483648 ≤ h.1 63 5 ∧ h.1 63 5 ≤ 2147483647 := i0.1 63 5
  have g2 : 0 ≤ h.1 63 7 ∧ h.1 63 7 ≤ 500 := i0.1 63 7
  refine mm_aload_n C (mm_dec dk_X7_readSetting 0 rfl) rfl ?_
  refine mm_geti C fl_X7_25 (mm_dec dk_X7_readSetting 1 rfl) rfl rfl (Or.inl rfl) ?_
  refine mm_iconst C (mm_dec dk_X7_readSetting 2 rfl) ⟨by decide, by decide⟩ ?_
  refine mm_icmp_eq (tgt := 14) C (mm_dec dk_X7_readSetting 3 rfl) (by decide) (fun c5 => ?_) (fun c5 => ?_)
  · skip
    refine mm_aload_n C (mm_dec dk_X7_readSetting 8 rfl) rfl ?_
    refine mm_geti C fl_X7_28 (mm_dec dk_X7_readSetting 9 rfl) rfl rfl (Or.inl rfl) ?_
    have g3 : -2147483648 ≤ (h.1 63 6) ∧ (h.1 63 6) ≤ 2147483647 := i0.1 63 6
    refine mm_bipush C (mm_dec dk_X7_readSetting 10 rfl) ⟨by decide, by decide⟩ ?_
    refine mm_isubw C (mm_dec dk_X7_readSetting 11 rfl) ?_
    have g4 : -2147483648 ≤ (mm_w ((h.1 63 6) - 7)) ∧ (mm_w ((h.1 63 6) - 7)) < 2147483648 := mm_w_rg _
    refine mm_istore_nL (ls2 := [mR 63, mI (mm_w ((h.1 63 6) - 7))]) C (mm_dec dk_X7_readSetting 12 rfl) (by decide) rfl ?_
    refine mm_iload_n C (mm_dec dk_X7_readSetting 13 rfl) rfl ?_
    refine mm_iconst C (mm_dec dk_X7_readSetting 14 rfl) ⟨by decide, by decide⟩ ?_
    refine mm_iconst C (mm_dec dk_X7_readSetting 15 rfl) ⟨by decide, by decide⟩ ?_
    refine mm_cNi (host := "MapRun") (rest := []) C1 mw_X11_within (by decide) sm_X11_within (mm_dec dk_X7_readSetting 16 rfl) (c_X11_within x.2.1 hl (d - 1) (by omega) h i0 (mm_w ((h.1 63 6) - 7)) 0 2) rfl (Nat.le_of_ble_eq_true rfl) ⟨by decide, by decide⟩ rfl (fun r25 h25c hp25 => ?_)
    obtain ⟨z25, y25⟩ := hp25
    rw [z25]
    have g6 : -2147483648 ≤ (mm_w ((h.1 63 6) - 7)) ∧ (mm_w ((h.1 63 6) - 7)) < 2147483648 := mm_w_rg _
    have g7 : -2147483648 ≤ (mm_w ((h.1 63 6) - 7)) ∧ (mm_w ((h.1 63 6) - 7)) < 2147483648 := mm_w_rg _
    have g8 : -2147483648 ≤ (mm_w ((h.1 63 6) - 7)) ∧ (mm_w ((h.1 63 6) - 7)) < 2147483648 := mm_w_rg _
    have g9 : -2147483648 ≤ (mm_w ((h.1 63 6) - 7)) ∧ (mm_w ((h.1 63 6) - 7)) < 2147483648 := mm_w_rg _
    have g10 : -2147483648 ≤ (mm_w ((h.1 63 6) - 7)) ∧ (mm_w ((h.1 63 6) - 7)) < 2147483648 := mm_w_rg _
    refine mm_if_ne (tgt := 37) C (mm_dec dk_X7_readSetting 17 rfl) (by decide) (fun c28 => ?_) (fun c28 => ?_)
    · skip
      refine mm_aload_n C (mm_dec dk_X7_readSetting 22 rfl) rfl ?_
      refine mm_cVv (rest := []) C1 ev_X7_52 (mm_dec dk_X7_readSetting 23 rfl) (c_X7_step x.2.1 hl (d - 1) (by omega) h i0 ) rfl rfl (Nat.le_of_ble_eq_true rfl) ⟨by decide, by decide⟩ rfl (fun h38c hp38 => ?_) (fun _ _ q => q.elim)
      obtain ⟨i38c, g38c, y38_0⟩ := hp38
      have f38c : mm_fr [(63, 5), (63, 6), (63, 7), (63, 8), (63, 9), (63, 10)] [65] h h38c := mm_fr_tr f0 g38c (by decide +kernel)
      have g12 : -2147483648 ≤ (h38c.1 63 5) ∧ (h38c.1 63 5) ≤ 2147483647 := i38c.1 63 5
      have g13 : 0 ≤ (h38c.1 63 7) ∧ (h38c.1 63 7) ≤ 500 := i38c.1 63 7
      refine mm_aload_n C (mm_dec dk_X7_readSetting 24 rfl) rfl ?_
      refine mm_cVi (rest := []) C1 ev_X7_89 (mm_dec dk_X7_readSetting 25 rfl) (c_X7_isNumber x.2.1 hl (d - 1) (by omega) h38c i38c ) rfl rfl (Nat.le_of_ble_eq_true rfl) ⟨by decide, by decide⟩ rfl (fun r42 h42c hp42 => ?_) (fun _ _ q => q.elim)
      obtain ⟨b42, i42c, g42c⟩ := hp42
      have f42c : mm_fr [(63, 5), (63, 6), (63, 7), (63, 8), (63, 9), (63, 10)] [65] h h42c := mm_fr_tr f38c g42c (by decide +kernel)
      have q42c_15 : h42c.1 63 5 = h38c.1 63 5 := g42c.1 63 5 (by decide)
      have q42c_16 : h42c.1 63 7 = h38c.1 63 7 := g42c.1 63 7 (by decide)
      refine mm_if_ne (tgt := 50) C (mm_dec dk_X7_readSetting 26 rfl) (by decide) (fun c45 => ?_) (fun c45 => ?_)
      · skip
        refine mm_aload_n C (mm_dec dk_X7_readSetting 29 rfl) rfl ?_
        refine mm_getr (t := 65) C fl_X7_15 (mm_dec dk_X7_readSetting 30 rfl) rfl rfl (mm_ref i42c rfl) ?_
        refine mm_iload_n C (mm_dec dk_X7_readSetting 31 rfl) rfl ?_
        refine mm_aload_n C (mm_dec dk_X7_readSetting 32 rfl) rfl ?_
        refine mm_cVi (rest := [mI (mm_w ((h.1 63 6) - 7)), mR 65]) C1 ev_X7_92 (mm_dec dk_X7_readSetting 33 rfl) (c_X7_numberOfToken x.2.1 hl (d - 1) (by omega) h42c i42c ) rfl rfl (Nat.le_of_ble_eq_true rfl) ⟨by decide, by decide⟩ rfl (fun r56 h56c hp56 => ?_) (fun _ _ q => q.elim)
        obtain ⟨b56, z56⟩ := hp56
        rw [z56]
        refine mm_iast C (mm_dec dk_X7_readSetting 34 rfl) rfl (by omega) (by omega) ?_
        have i3 : mm_inv (mm_pa h42c 65 (mm_w ((h.1 63 6) - 7)) r56) := mm_inv_pa i42c (show -2147483648 ≤ r56 ∧ r56 ≤ 2147483647 from ⟨by omega, by omega⟩)
        have f3 : mm_fr [(63, 5), (63, 6), (63, 7), (63, 8), (63, 9), (63, 10)] [65] h (mm_pa h42c 65 (mm_w ((h.1 63 6) - 7)) r56) := mm_fr_pa f42c (by decide)
        obtain ⟨h3, eh3⟩ : ∃ z, z = mm_pa h42c 65 (mm_w ((h.1 63 6) - 7)) r56 := ⟨_, rfl⟩
        rw [← eh3] at i3 f3 ⊢
        have qh3_18 : h3.1 63 5 = h42c.1 63 5 := by rw [eh3]; rfl
        have qh3_19 : h3.1 63 7 = h42c.1 63 7 := by rw [eh3]; rfl
        refine mm_aload_n C (mm_dec dk_X7_readSetting 35 rfl) rfl ?_
        refine mm_cVv (rest := []) C1 ev_X7_52 (mm_dec dk_X7_readSetting 36 rfl) (c_X7_step x.2.1 hl (d - 1) (by omega) h3 i3 ) rfl rfl (Nat.le_of_ble_eq_true rfl) ⟨by decide, by decide⟩ rfl (fun h61c hp61 => ?_) (fun _ _ q => q.elim)
        obtain ⟨i61c, g61c, y61_0⟩ := hp61
        have f61c : mm_fr [(63, 5), (63, 6), (63, 7), (63, 8), (63, 9), (63, 10)] [65] h h61c := mm_fr_tr f3 g61c (by decide +kernel)
        have g21 : -2147483648 ≤ (h61c.1 63 5) ∧ (h61c.1 63 5) ≤ 2147483647 := i61c.1 63 5
        have g22 : 0 ≤ (h61c.1 63 7) ∧ (h61c.1 63 7) ≤ 500 := i61c.1 63 7
        refine mm_iconst C (mm_dec dk_X7_readSetting 37 rfl) ⟨by decide, by decide⟩ ?_
        exact mm_zret C T (mm_dec dk_X7_readSetting 38 rfl) (by decide : 0 ≤ 0) (by decide : 0 ≤ 0) (by omega) ⟨_, rfl, ⟨⟨by omega, by omega⟩, i61c, f61c, by omega⟩⟩
      · skip
        refine mm_iconst C (mm_dec dk_X7_readSetting 27 rfl) ⟨by decide, by decide⟩ ?_
        exact mm_zret C T (mm_dec dk_X7_readSetting 28 rfl) (by decide : 0 ≤ 0) (by decide : 0 ≤ 0) (by omega) ⟨_, rfl, ⟨⟨by omega, by omega⟩, i42c, f42c, by omega⟩⟩
    · skip
      refine mm_aload_n C (mm_dec dk_X7_readSetting 18 rfl) rfl ?_
      refine mm_iconst C (mm_dec dk_X7_readSetting 19 rfl) ⟨by decide, by decide⟩ ?_
      refine mm_cVi (rest := []) C1 ev_X7_65 (mm_dec dk_X7_readSetting 20 rfl) (c_X7_refuse x.2.1 hl (d - 1) (by omega) h i0 3) rfl rfl (Nat.le_of_ble_eq_true rfl) ⟨by decide, by decide⟩ rfl (fun r33 h33c hp33 => ?_) (fun _ _ q => q.elim)
      obtain ⟨b33, i33c, g33c⟩ := hp33
      have f33c : mm_fr [(63, 5), (63, 6), (63, 7), (63, 8), (63, 9), (63, 10)] [65] h h33c := mm_fr_tr f0 g33c (by decide +kernel)
      have q33c_24 : h33c.1 63 5 = h.1 63 5 := g33c.1 63 5 (by decide)
      have q33c_25 : h33c.1 63 6 = h.1 63 6 := g33c.1 63 6 (by decide)
      have q33c_26 : h33c.1 63 7 = h.1 63 7 := g33c.1 63 7 (by decide)
      exact mm_zret C T (mm_dec dk_X7_readSetting 21 rfl) (by decide : 0 ≤ 0) (by decide : 0 ≤ 0) (by omega) ⟨_, rfl, ⟨⟨by omega, by omega⟩, i33c, f33c, by omega⟩⟩
  · skip
    refine mm_aload_n C (mm_dec dk_X7_readSetting 4 rfl) rfl ?_
    refine mm_iconst C (mm_dec dk_X7_readSetting 5 rfl) ⟨by decide, by decide⟩ ?_
    refine mm_cVi (rest := []) C1 ev_X7_65 (mm_dec dk_X7_readSetting 6 rfl) (c_X7_refuse x.2.1 hl (d - 1) (by omega) h i0 1) rfl rfl (Nat.le_of_ble_eq_true rfl) ⟨by decide, by decide⟩ rfl (fun r10 h10c hp10 => ?_) (fun _ _ q => q.elim)
    obtain ⟨b10, i10c, g10c⟩ := hp10
    have f10c : mm_fr [(63, 5), (63, 6), (63, 7), (63, 8), (63, 9), (63, 10)] [65] h h10c := mm_fr_tr f0 g10c (by decide +kernel)
    have q10c_28 : h10c.1 63 5 = h.1 63 5 := g10c.1 63 5 (by decide)
    have q10c_29 : h10c.1 63 7 = h.1 63 7 := g10c.1 63 7 (by decide)
    exact mm_zret C T (mm_dec dk_X7_readSetting 7 rfl) (by decide : 0 ≤ 0) (by decide : 0 ≤ 0) (by omega) ⟨_, rfl, ⟨⟨by omega, by omega⟩, i10c, f10c, by omega⟩⟩
