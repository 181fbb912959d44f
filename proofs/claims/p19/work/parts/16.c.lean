set_option maxRecDepth 100000 in
set_option maxHeartbeats 4000000 in
theorem c_X0_reach (l : Launch) (hl : l.stackTraces = false) (d : Nat) (hd : 0 ≤ d) (h : mH) (i0 : mm_inv h) (p1 : Int) (p2 : Int) (p3 : Int) (p4 : Int) (p5 : Int) (bp1 : 0 ≤ p1 ∧ p1 ≤ 4095) (bp2 : 0 ≤ p2 ∧ p2 ≤ 11) (t0 : h.1 58 5 = 1) : mm_Met l d yX0_reach cX0_reach 7 none [mR 58, mI p1, mI p2, mI p3, mI p4, mI p5] h (mm_pv fun h2 => mm_inv h2 ∧ mm_fr [] [125] h h2) mm_nx 0 0 := by
  refine mm_ofW (ls := [mR 58, mI p1, mI p2, mI p3, mI p4, mI p5, mU]) hl (by decide) rfl (Nat.le_of_ble_eq_true rfl) ?_
  intro x hxl C T hnm htb
  subst hxl
  refine mm_rng (fun hr _ => ?_)
  have ap1 : -2147483648 ≤ p1 ∧ p1 < 2147483648 := mm_ok_at hr (i := 1) rfl
  have ap2 : -2147483648 ≤ p2 ∧ p2 < 2147483648 := mm_ok_at hr (i := 2) rfl
  have ap3 : -2147483648 ≤ p3 ∧ p3 < 2147483648 := mm_ok_at hr (i := 3) rfl
  have ap4 : -2147483648 ≤ p4 ∧ p4 < 2147483648 := mm_ok_at hr (i := 4) rfl
  have ap5 : -2147483648 ≤ p5 ∧ p5 < 2147483648 := mm_ok_at hr (i := 5) rfl
  have f0 : mm_fr [] [125] h h := mm_fr_rf
  have g1 : 0 ≤ h.1 58 5 ∧ h.1 58 5 ≤ 1 := i0.1 58 5
  refine mm_iload C (mm_dec dk_X0_reach 0 rfl) rfl ?_
  refine mm_iconst C (mm_dec dk_X0_reach 1 rfl) ⟨by decide, by decide⟩ ?_
  have J15 : mm_W x 0 0 15 [mU, mU, mU, mU, mU, mU, mU] [] h := by
    have g2 : 0 ≤ h.1 58 5 ∧ h.1 58 5 ≤ 1 := i0.1 58 5
    exact mm_vret C T (mm_dec dk_X0_reach 8 rfl) (by decide : 0 ≤ 0) (by decide : 0 ≤ 0) ⟨rfl, ⟨i0, f0⟩⟩
  refine mm_icmp_eq (tgt := 15) C (mm_dec dk_X0_reach 2 rfl) (by decide) (fun c3 => ?_) (fun c3 => ?_)
  · skip
    refine mm_fgt 0 ?_
    refine mm_fgt 1 ?_
    refine mm_fgt 2 ?_
    refine mm_fgt 3 ?_
    refine mm_fgt 4 ?_
    refine mm_fgt 5 ?_
    exact J15
  · skip
    refine mm_iload_n C (mm_dec dk_X0_reach 3 rfl) rfl ?_
    refine mm_iload C (mm_dec dk_X0_reach 4 rfl) rfl ?_
    refine mm_iaddw C (mm_dec dk_X0_reach 5 rfl) ?_
    have g3 : -2147483648 ≤ (mm_w (p3 + p4)) ∧ (mm_w (p3 + p4)) < 2147483648 := mm_w_rg _
    refine mm_iload C (mm_dec dk_X0_reach 6 rfl) rfl ?_
    refine mm_icmp_le (tgt := 16) C (mm_dec dk_X0_reach 7 rfl) (by decide) (fun c12 => ?_) (fun c12 => ?_)
    · skip
      refine mm_iload_n C (mm_dec dk_X0_reach 9 rfl) rfl ?_
      refine mm_bipush C (mm_dec dk_X0_reach 10 rfl) ⟨by decide, by decide⟩ ?_
      refine mm_imul C (mm_dec dk_X0_reach 11 rfl) ⟨by omega, by omega⟩ ?_
      refine mm_iload_n C (mm_dec dk_X0_reach 12 rfl) rfl ?_
      refine mm_iadd C (mm_dec dk_X0_reach 13 rfl) ⟨by omega, by omega⟩ ?_
      refine mm_istoreL (ls2 := [mR 58, mI p1, mI p2, mI p3, mI p4, mI p5, mI ((p1 * 12) + p2)]) C (mm_dec dk_X0_reach 14 rfl) (by decide) rfl ?_
      refine mm_iload_n C (mm_dec dk_X0_reach 15 rfl) rfl ?_
      refine mm_iload C (mm_dec dk_X0_reach 16 rfl) rfl ?_
      refine mm_iaddw C (mm_dec dk_X0_reach 17 rfl) ?_
      have g4 : -2147483648 ≤ (mm_w (p3 + p4)) ∧ (mm_w (p3 + p4)) < 2147483648 := mm_w_rg _
      refine mm_aload_n C (mm_dec dk_X0_reach 18 rfl) rfl ?_
      refine mm_getr (t := 125) C fl_X0_18 (mm_dec dk_X0_reach 19 rfl) rfl rfl (by omega) ?_
      refine mm_iload C (mm_dec dk_X0_reach 20 rfl) rfl ?_
      refine mm_iald C (mm_dec dk_X0_reach 21 rfl) rfl (by omega) (by omega) ?_
      have g5 : -2147483648 ≤ (h.2.1 125 ((p1 * 12) + p2)) ∧ (h.2.1 125 ((p1 * 12) + p2)) ≤ 2147483647 := i0.2.1 125 ((p1 * 12) + p2)
      have J49 : ∀ (h49_ : mH) (i49_ : mm_inv h49_) (f49_ : mm_fr [] [125] h h49_), mm_W x 0 0 49 [mU, mU, mU, mU, mU, mU, mU] [] h49_ := by
        intro h49_ i49_ f49_
        have g6 : 0 ≤ h49_.1 58 5 ∧ h49_.1 58 5 ≤ 1 := i49_.1 58 5
        have g7 : h49_.1 58 5 = h.1 58 5 := f49_.1 58 5 (by decide)
        exact mm_vret C T (mm_dec dk_X0_reach 30 rfl) (by decide : 0 ≤ 0) (by decide : 0 ≤ 0) ⟨rfl, ⟨i49_, f49_⟩⟩
      refine mm_icmp_ge (tgt := 49) C (mm_dec dk_X0_reach 22 rfl) (by decide) (fun c35 => ?_) (fun c35 => ?_)
      · skip
        refine mm_fgt 0 ?_
        refine mm_fgt 1 ?_
        refine mm_fgt 2 ?_
        refine mm_fgt 3 ?_
        refine mm_fgt 4 ?_
        refine mm_fgt 5 ?_
        refine mm_fgt 6 ?_
        exact J49 h i0 f0
      · skip
        refine mm_aload_n C (mm_dec dk_X0_reach 23 rfl) rfl ?_
        refine mm_getr (t := 125) C fl_X0_18 (mm_dec dk_X0_reach 24 rfl) rfl rfl (by omega) ?_
        refine mm_iload C (mm_dec dk_X0_reach 25 rfl) rfl ?_
        refine mm_iload_n C (mm_dec dk_X0_reach 26 rfl) rfl ?_
        refine mm_iload C (mm_dec dk_X0_reach 27 rfl) rfl ?_
        refine mm_iaddw C (mm_dec dk_X0_reach 28 rfl) ?_
        have g8 : -2147483648 ≤ (mm_w (p3 + p4)) ∧ (mm_w (p3 + p4)) < 2147483648 := mm_w_rg _
        refine mm_iast C (mm_dec dk_X0_reach 29 rfl) rfl (by omega) (by omega) ?_
        have i1 : mm_inv (mm_pa h 125 ((p1 * 12) + p2) (mm_w (p3 + p4))) := mm_inv_pa i0 (show -2147483648 ≤ (mm_w (p3 + p4)) ∧ (mm_w (p3 + p4)) ≤ 2147483647 from ⟨by omega, by omega⟩)
        have f1 : mm_fr [] [125] h (mm_pa h 125 ((p1 * 12) + p2) (mm_w (p3 + p4))) := mm_fr_pa f0 (by decide)
        obtain ⟨h1, eh1⟩ : ∃ z, z = mm_pa h 125 ((p1 * 12) + p2) (mm_w (p3 + p4)) := ⟨_, rfl⟩
        rw [← eh1] at i1 f1 ⊢
        have qh1_9 : h1.1 58 5 = h.1 58 5 := by rw [eh1]; rfl
        refine mm_fgt 0 ?_
        refine mm_fgt 1 ?_
        refine mm_fgt 2 ?_
        refine mm_fgt 3 ?_
        refine mm_fgt 4 ?_
        refine mm_fgt 5 ?_
        refine mm_fgt 6 ?_
        exact J49 h1 i1 f1
    · skip
      refine mm_fgt 0 ?_
      refine mm_fgt 1 ?_
      refine mm_fgt 2 ?_
      refine mm_fgt 3 ?_
      refine mm_fgt 4 ?_
      refine mm_fgt 5 ?_
      exact J15
set_option maxRecDepth 100000 in
set_option maxHeartbeats 4000000 in
theorem c_X0_closeAndExtend (l : Launch) (hl : l.stackTraces = false) (d : Nat) (hd : 1 ≤ d) (h : mH) (i0 : mm_inv h) (p1 : Int) (p2 : Int) (bp1 : 1 ≤ p1 ∧ p1 ≤ 4095) (t0 : h.1 58 5 = 1) : mm_Met l d yX0_closeAndExtend cX0_closeAndExtend 8 (some .int) [mR 58, mI p1, mI p2] h (mm_pi fun r h2 => (-2147483648 ≤ r ∧ r ≤ 2000000000) ∧ mm_inv h2 ∧ mm_fr [] [125] h h2) mm_nx 0 0 := by
  refine mm_ofW (ls := [mR 58, mI p1, mI p2, mU, mU, mU, mU, mU]) hl (by decide) rfl (Nat.le_of_ble_eq_true rfl) ?_
  intro x hxl C T hnm htb
  subst hxl
  have C1 := mm_OK_le (d' := d - 1 + 1) (by omega) C
  refine mm_rng (fun hr _ => ?_)
  have ap1 : -2147483648 ≤ p1 ∧ p1 < 2147483648 := mm_ok_at hr (i := 1) rfl
  have ap2 : -2147483648 ≤ p2 ∧ p2 < 2147483648 := mm_ok_at hr (i := 2) rfl
  have f0 : mm_fr [] [125] h h := mm_fr_rf
  have g1 : 0 ≤ h.1 58 5 ∧ h.1 58 5 ≤ 1 := i0.1 58 5
  refine mm_ldc (z := 2000000000) C (mm_dec dk_X0_closeAndExtend 0 rfl) kc_X0_88 (by decide) ?_
  refine mm_istore_nL (ls2 := [mR 58, mI p1, mI p2, mI 2000000000, mU, mU, mU, mU]) C (mm_dec dk_X0_closeAndExtend 1 rfl) (by decide) rfl ?_
  refine mm_iconst C (mm_dec dk_X0_closeAndExtend 2 rfl) ⟨by decide, by decide⟩ ?_
  have J6 : ∀ (n : Nat) (x6_3 : Int) (bx6_3 : -2147483648 ≤ x6_3 ∧ x6_3 ≤ 2000000000) (x6_4 : Int) (bx6_4 : 0 ≤ x6_4 ∧ x6_4 ≤ 12) (h6_ : mH) (i6_ : mm_inv h6_) (f6_ : mm_fr [] [125] h h6_), (12 - x6_4 : Int) < n → mm_W x 0 0 6 [mR 58, mI p1, mI p2, mI x6_3, mI x6_4, mU, mU, mU] [] h6_ := by
    intro n
    induction n with
    | zero =>
      intro x6_3 bx6_3 x6_4 bx6_4 h6_ i6_ f6_ hm
      have g2 : 0 ≤ h6_.1 58 5 ∧ h6_.1 58 5 ≤ 1 := i6_.1 58 5
      exfalso; omega
    | succ n ih6 =>
      intro x6_3 bx6_3 x6_4 bx6_4 h6_ i6_ f6_ hm6
      have g3 : 0 ≤ h6_.1 58 5 ∧ h6_.1 58 5 ≤ 1 := i6_.1 58 5
      have g4 : h6_.1 58 5 = h.1 58 5 := f6_.1 58 5 (by decide)
      refine mm_iload C (mm_dec dk_X0_closeAndExtend 4 rfl) rfl ?_
      refine mm_aload_n C (mm_dec dk_X0_closeAndExtend 5 rfl) rfl ?_
      refine mm_geti C fl_X0_21 (mm_dec dk_X0_closeAndExtend 6 rfl) rfl rfl (Or.inl rfl) ?_
      have g5 : 0 ≤ (h6_.1 58 6) ∧ (h6_.1 58 6) ≤ 12 := i6_.1 58 6
      refine mm_icmp_ge (tgt := 131) C (mm_dec dk_X0_closeAndExtend 7 rfl) (by decide) (fun c12 => ?_) (fun c12 => ?_)
      · skip
        refine mm_iload_n C (mm_dec dk_X0_closeAndExtend 73 rfl) rfl ?_
        exact mm_iret C T (mm_dec dk_X0_closeAndExtend 74 rfl) (by decide : 0 ≤ 0) (by decide : 0 ≤ 0) ⟨_, rfl, ⟨⟨by omega, by omega⟩, i6_, f6_⟩⟩
      · skip
        refine mm_aload_n C (mm_dec dk_X0_closeAndExtend 8 rfl) rfl ?_
        refine mm_getr (t := 125) C fl_X0_18 (mm_dec dk_X0_closeAndExtend 9 rfl) rfl rfl (by omega) ?_
        refine mm_iload_n C (mm_dec dk_X0_closeAndExtend 10 rfl) rfl ?_
        refine mm_bipush C (mm_dec dk_X0_closeAndExtend 11 rfl) ⟨by decide, by decide⟩ ?_
        refine mm_imul C (mm_dec dk_X0_closeAndExtend 12 rfl) ⟨by omega, by omega⟩ ?_
        refine mm_iload C (mm_dec dk_X0_closeAndExtend 13 rfl) rfl ?_
        refine mm_iadd C (mm_dec dk_X0_closeAndExtend 14 rfl) ⟨by omega, by omega⟩ ?_
        refine mm_iald C (mm_dec dk_X0_closeAndExtend 15 rfl) rfl (by omega) (by omega) ?_
        have g6 : -2147483648 ≤ (h6_.2.1 125 ((p1 * 12) + x6_4)) ∧ (h6_.2.1 125 ((p1 * 12) + x6_4)) ≤ 2147483647 := i6_.2.1 125 ((p1 * 12) + x6_4)
        refine mm_istoreL (ls2 := [mR 58, mI p1, mI p2, mI x6_3, mI x6_4, mI (h6_.2.1 125 ((p1 * 12) + x6_4)), mU, mU]) C (mm_dec dk_X0_closeAndExtend 16 rfl) (by decide) rfl ?_
        refine mm_iload C (mm_dec dk_X0_closeAndExtend 17 rfl) rfl ?_
        refine mm_ldc (z := 2000000000) C (mm_dec dk_X0_closeAndExtend 18 rfl) kc_X0_88 (by decide) ?_
        have J125 : ∀ (x125_3 : Int) (bx125_3 : -2147483648 ≤ x125_3 ∧ x125_3 ≤ 2000000000) (h125_ : mH) (i125_ : mm_inv h125_) (f125_ : mm_fr [] [125] h h125_), mm_W x 0 0 125 [mR 58, mI p1, mI p2, mI x125_3, mI x6_4, mU, mU, mU] [] h125_ := by
          intro x125_3 bx125_3 h125_ i125_ f125_
          have g7 : 0 ≤ h125_.1 58 5 ∧ h125_.1 58 5 ≤ 1 := i125_.1 58 5
          have g8 : h125_.1 58 5 = h.1 58 5 := f125_.1 58 5 (by decide)
          refine mm_iincL (ls2 := [mR 58, mI p1, mI p2, mI x125_3, mI (x6_4 + 1), mU, mU, mU]) C (mm_dec dk_X0_closeAndExtend 71 rfl) rfl (by decide) ⟨by omega, by omega⟩ rfl ?_
          refine mm_goto (tgt := 6) C (mm_dec dk_X0_closeAndExtend 72 rfl) (by decide) ?_
          exact ih6 x125_3 ⟨by omega, by omega⟩ (x6_4 + 1) ⟨by omega, by omega⟩ h125_ i125_ f125_ (by omega)
        refine mm_icmp_ne (tgt := 39) C (mm_dec dk_X0_closeAndExtend 19 rfl) (by decide) (fun c33 => ?_) (fun c33 => ?_)
        · skip
          refine mm_aload_n C (mm_dec dk_X0_closeAndExtend 21 rfl) rfl ?_
          refine mm_getr (t := 59) C fl_X0_11 (mm_dec dk_X0_closeAndExtend 22 rfl) rfl rfl (mm_ref i6_ rfl) ?_
          refine mm_iload C (mm_dec dk_X0_closeAndExtend 23 rfl) rfl ?_
          refine mm_bipush C (mm_dec dk_X0_closeAndExtend 24 rfl) ⟨by decide, by decide⟩ ?_
          refine mm_imul C (mm_dec dk_X0_closeAndExtend 25 rfl) ⟨by omega, by omega⟩ ?_
          refine mm_bipush C (mm_dec dk_X0_closeAndExtend 26 rfl) ⟨by decide, by decide⟩ ?_
          refine mm_iadd C (mm_dec dk_X0_closeAndExtend 27 rfl) ⟨by omega, by omega⟩ ?_
          refine mm_iald C (mm_dec dk_X0_closeAndExtend 28 rfl) rfl (by omega) (by omega) ?_
          have g9 : -2147483648 ≤ (h6_.2.1 59 ((x6_4 * 13) + 12)) ∧ (h6_.2.1 59 ((x6_4 * 13) + 12)) ≤ 2147483647 := i6_.2.1 59 ((x6_4 * 13) + 12)
          refine mm_istoreL (ls2 := [mR 58, mI p1, mI p2, mI x6_3, mI x6_4, mI (h6_.2.1 125 ((p1 * 12) + x6_4)), mI (h6_.2.1 59 ((x6_4 * 13) + 12)), mU]) C (mm_dec dk_X0_closeAndExtend 29 rfl) (by decide) rfl ?_
          refine mm_iload C (mm_dec dk_X0_closeAndExtend 30 rfl) rfl ?_
          refine mm_iconst C (mm_dec dk_X0_closeAndExtend 31 rfl) ⟨by decide, by decide⟩ ?_
          have J70 : ∀ (x70_3 : Int) (bx70_3 : -2147483648 ≤ x70_3 ∧ x70_3 ≤ 2000000000), mm_W x 0 0 70 [mR 58, mI p1, mI p2, mI x70_3, mI x6_4, mI (h6_.2.1 125 ((p1 * 12) + x6_4)), mU, mU] [] h6_ := by
            intro x70_3 bx70_3
            have g10 : 0 ≤ h6_.1 58 5 ∧ h6_.1 58 5 ≤ 1 := i6_.1 58 5
            refine mm_iconst C (mm_dec dk_X0_closeAndExtend 39 rfl) ⟨by decide, by decide⟩ ?_
            have J73 : ∀ (n : Nat) (x73_7 : Int) (bx73_7 : 0 ≤ x73_7 ∧ x73_7 ≤ 12) (h73_ : mH) (i73_ : mm_inv h73_) (f73_ : mm_fr [] [125] h h73_), (12 - x73_7 : Int) < n → mm_W x 0 0 73 [mR 58, mI p1, mI p2, mI x70_3, mI x6_4, mI (h6_.2.1 125 ((p1 * 12) + x6_4)), mU, mI x73_7] [] h73_ := by
              intro n
              induction n with
              | zero =>
                intro x73_7 bx73_7 h73_ i73_ f73_ hm
                have g11 : 0 ≤ h73_.1 58 5 ∧ h73_.1 58 5 ≤ 1 := i73_.1 58 5
                exfalso; omega
              | succ n ih73 =>
                intro x73_7 bx73_7 h73_ i73_ f73_ hm73
                have g12 : 0 ≤ h73_.1 58 5 ∧ h73_.1 58 5 ≤ 1 := i73_.1 58 5
                have g13 : h73_.1 58 5 = h.1 58 5 := f73_.1 58 5 (by decide)
                refine mm_iload C (mm_dec dk_X0_closeAndExtend 41 rfl) rfl ?_
                refine mm_aload_n C (mm_dec dk_X0_closeAndExtend 42 rfl) rfl ?_
                refine mm_geti C fl_X0_21 (mm_dec dk_X0_closeAndExtend 43 rfl) rfl rfl (Or.inl rfl) ?_
                have g14 : 0 ≤ (h73_.1 58 6) ∧ (h73_.1 58 6) ≤ 12 := i73_.1 58 6
                refine mm_icmp_ge (tgt := 125) C (mm_dec dk_X0_closeAndExtend 44 rfl) (by decide) (fun c79 => ?_) (fun c79 => ?_)
                · skip
                  refine mm_fgt 5 ?_
                  refine mm_fgt 7 ?_
                  exact J125 x70_3 ⟨by omega, by omega⟩ h73_ i73_ f73_
                · skip
                  refine mm_iload_n C (mm_dec dk_X0_closeAndExtend 45 rfl) rfl ?_
                  refine mm_iload C (mm_dec dk_X0_closeAndExtend 46 rfl) rfl ?_
                  refine mm_ishr C (mm_dec dk_X0_closeAndExtend 47 rfl) ?_
                  have g15 : -2147483648 ≤ (mm_vishr p1 x73_7) ∧ (mm_vishr p1 x73_7) < 2147483648 := fb_rng _
                  refine mm_iconst C (mm_dec dk_X0_closeAndExtend 48 rfl) ⟨by decide, by decide⟩ ?_
                  refine mm_iand C (mm_dec dk_X0_closeAndExtend 49 rfl) ?_
                  have g17 : 0 ≤ (mm_viand (mm_vishr p1 x73_7) 1) ∧ (mm_viand (mm_vishr p1 x73_7) 1) ≤ 1 := mm_and_rg2 (by omega) (by omega)
                  have J119 : ∀ (h119_ : mH) (i119_ : mm_inv h119_) (f119_ : mm_fr [] [125] h h119_), mm_W x 0 0 119 [mR 58, mI p1, mI p2, mI x70_3, mI x6_4, mI (h6_.2.1 125 ((p1 * 12) + x6_4)), mU, mI x73_7] [] h119_ := by
                    intro h119_ i119_ f119_
                    have g18 : 0 ≤ h119_.1 58 5 ∧ h119_.1 58 5 ≤ 1 := i119_.1 58 5
                    have g19 : h119_.1 58 5 = h.1 58 5 := f119_.1 58 5 (by decide)
                    refine mm_iincL (ls2 := [mR 58, mI p1, mI p2, mI x70_3, mI x6_4, mI (h6_.2.1 125 ((p1 * 12) + x6_4)), mU, mI (x73_7 + 1)]) C (mm_dec dk_X0_closeAndExtend 69 rfl) rfl (by decide) ⟨by omega, by omega⟩ rfl ?_
                    refine mm_goto (tgt := 73) C (mm_dec dk_X0_closeAndExtend 70 rfl) (by decide) ?_
                    exact ih73 (x73_7 + 1) ⟨by omega, by omega⟩ h119_ i119_ f119_ (by omega)
                  refine mm_if_ne (tgt := 119) C (mm_dec dk_X0_closeAndExtend 50 rfl) (by decide) (fun c88 => ?_) (fun c88 => ?_)
                  · skip
                    exact J119 h73_ i73_ f73_
                  · skip
                    refine mm_aload_n C (mm_dec dk_X0_closeAndExtend 51 rfl) rfl ?_
                    refine mm_iload_n C (mm_dec dk_X0_closeAndExtend 52 rfl) rfl ?_
                    refine mm_iconst C (mm_dec dk_X0_closeAndExtend 53 rfl) ⟨by decide, by decide⟩ ?_
                    refine mm_iload C (mm_dec dk_X0_closeAndExtend 54 rfl) rfl ?_
                    refine mm_ishl C (mm_dec dk_X0_closeAndExtend 55 rfl) ?_
                    have g20 : 1 ≤ (mm_vishl 1 x73_7) ∧ (mm_vishl 1 x73_7) ≤ 2048 := mm_shl1b ⟨by omega, by omega⟩
                    refine mm_ior C (mm_dec dk_X0_closeAndExtend 56 rfl) ?_
                    have g21 : 0 ≤ (mm_vior p1 (mm_vishl 1 x73_7)) ∧ (mm_vior p1 (mm_vishl 1 x73_7)) < 2 ^ 12 := mm_or_rg 12 (by decide) ⟨by omega, by omega⟩ ⟨by omega, by omega⟩
                    refine mm_iload C (mm_dec dk_X0_closeAndExtend 57 rfl) rfl ?_
                    refine mm_iload C (mm_dec dk_X0_closeAndExtend 58 rfl) rfl ?_
                    refine mm_aload_n C (mm_dec dk_X0_closeAndExtend 59 rfl) rfl ?_
                    refine mm_getr (t := 59) C fl_X0_11 (mm_dec dk_X0_closeAndExtend 60 rfl) rfl rfl (mm_ref i73_ rfl) ?_
                    refine mm_iload C (mm_dec dk_X0_closeAndExtend 61 rfl) rfl ?_
                    refine mm_bipush C (mm_dec dk_X0_closeAndExtend 62 rfl) ⟨by decide, by decide⟩ ?_
                    refine mm_imul C (mm_dec dk_X0_closeAndExtend 63 rfl) ⟨by omega, by omega⟩ ?_
                    refine mm_iload C (mm_dec dk_X0_closeAndExtend 64 rfl) rfl ?_
                    refine mm_iadd C (mm_dec dk_X0_closeAndExtend 65 rfl) ⟨by omega, by omega⟩ ?_
                    refine mm_iald C (mm_dec dk_X0_closeAndExtend 66 rfl) rfl (by omega) (by omega) ?_
                    have g22 : -2147483648 ≤ (h73_.2.1 59 ((x6_4 * 13) + x73_7)) ∧ (h73_.2.1 59 ((x6_4 * 13) + x73_7)) ≤ 2147483647 := i73_.2.1 59 ((x6_4 * 13) + x73_7)
                    refine mm_iload_n C (mm_dec dk_X0_closeAndExtend 67 rfl) rfl ?_
                    refine mm_cVv (rest := []) C1 ev_X0_89 (mm_dec dk_X0_closeAndExtend 68 rfl) (c_X0_reach x.2.1 hl (d - 1) (by omega) h73_ i73_ (mm_vior p1 (mm_vishl 1 x73_7)) x73_7 (h6_.2.1 125 ((p1 * 12) + x6_4)) (h73_.2.1 59 ((x6_4 * 13) + x73_7)) p2 ⟨by omega, by omega⟩ ⟨by omega, by omega⟩ (by omega)) rfl rfl (Nat.le_of_ble_eq_true rfl) ⟨by decide, by decide⟩ rfl (fun h116c hp116 => ?_) (fun _ _ q => q.elim)
                    obtain ⟨i116c, g116c⟩ := hp116
                    have f116c : mm_fr [] [125] h h116c := mm_fr_tr f73_ g116c (by decide +kernel)
                    have q116c_24 : h116c.1 58 5 = h73_.1 58 5 := g116c.1 58 5 (by decide)
                    have q116c_25 : h116c.1 58 6 = h73_.1 58 6 := g116c.1 58 6 (by decide)
                    exact J119 h116c i116c f116c
            refine mm_istoreL (ls2 := [mR 58, mI p1, mI p2, mI x70_3, mI x6_4, mI (h6_.2.1 125 ((p1 * 12) + x6_4)), mU, mI 0]) C (mm_dec dk_X0_closeAndExtend 40 rfl) (by decide) rfl ?_
            exact J73 (((12 - 0) : Int) + 1).toNat 0 ⟨by omega, by omega⟩ h6_ i6_ f6_ (by omega)
          refine mm_icmp_eq (tgt := 70) C (mm_dec dk_X0_closeAndExtend 32 rfl) (by decide) (fun c57 => ?_) (fun c57 => ?_)
          · skip
            refine mm_fgt 6 ?_
            exact J70 x6_3 ⟨by omega, by omega⟩
          · skip
            refine mm_iload_n C (mm_dec dk_X0_closeAndExtend 33 rfl) rfl ?_
            refine mm_iload C (mm_dec dk_X0_closeAndExtend 34 rfl) rfl ?_
            refine mm_iload C (mm_dec dk_X0_closeAndExtend 35 rfl) rfl ?_
            refine mm_iaddw C (mm_dec dk_X0_closeAndExtend 36 rfl) ?_
            have g26 : -2147483648 ≤ (mm_w ((h6_.2.1 125 ((p1 * 12) + x6_4)) + (h6_.2.1 59 ((x6_4 * 13) + 12)))) ∧ (mm_w ((h6_.2.1 125 ((p1 * 12) + x6_4)) + (h6_.2.1 59 ((x6_4 * 13) + 12)))) < 2147483648 := mm_w_rg _
            refine mm_mmin C1 ml_X0_100 sm_J9_min_7cf53 mw_J9_min_7cf53.2.1 mw_J9_min_7cf53.1 (mm_dec dk_X0_closeAndExtend 37 rfl) (Nat.le_of_ble_eq_true rfl) ⟨by decide, by decide⟩ (fun r66 hr66 => ?_)
            refine mm_istore_nL (ls2 := [mR 58, mI p1, mI p2, mI r66, mI x6_4, mI (h6_.2.1 125 ((p1 * 12) + x6_4)), mI (h6_.2.1 59 ((x6_4 * 13) + 12)), mU]) C (mm_dec dk_X0_closeAndExtend 38 rfl) (by decide) rfl ?_
            refine mm_fgt 6 ?_
            exact J70 r66 ⟨by omega, by omega⟩
        · skip
          refine mm_goto (tgt := 125) C (mm_dec dk_X0_closeAndExtend 20 rfl) (by decide) ?_
          refine mm_fgt 5 ?_
          exact J125 x6_3 ⟨by omega, by omega⟩ h6_ i6_ f6_
  refine mm_istoreL (ls2 := [mR 58, mI p1, mI p2, mI 2000000000, mI 0, mU, mU, mU]) C (mm_dec dk_X0_closeAndExtend 3 rfl) (by decide) rfl ?_
  exact J6 (((12 - 0) : Int) + 1).toNat 2000000000 ⟨by omega, by omega⟩ 0 ⟨by omega, by omega⟩ h i0 f0 (by omega)
set_option maxRecDepth 100000 in
set_option maxHeartbeats 4000000 in
theorem c_X0_goThroughSets_t (l : Launch) (hl : l.stackTraces = false) (d : Nat) (hd : 2 ≤ d) (h : mH) (i0 : mm_inv h) (p1 : Int) (t0 : h.1 58 5 = 1) : mm_Met l d yX0_goThroughSets cX0_goThroughSets 5 none [mR 58, mI p1] h (mm_pv fun h2 => mm_inv h2 ∧ mm_fr [(58, 7), (58, 8), (58, 9)] [125] h h2) mm_nx 0 0 := by
  refine mm_ofW (ls := [mR 58, mI p1, mU, mU, mU]) hl (by decide) rfl (Nat.le_of_ble_eq_true rfl) ?_
  intro x hxl C T hnm htb
  subst hxl
  have C1 := mm_OK_le (d' := d - 1 + 1) (by omega) C
  refine mm_rng (fun hr _ => ?_)
  have ap1 : -2147483648 ≤ p1 ∧ p1 < 2147483648 := mm_ok_at hr (i := 1) rfl
  have f0 : mm_fr [(58, 7), (58, 8), (58, 9)] [125] h h := mm_fr_rf
  have g1 : 0 ≤ h.1 58 5 ∧ h.1 58 5 ≤ 1 := i0.1 58 5
  refine mm_iconst C (mm_dec dk_X0_goThroughSets 0 rfl) ⟨by decide, by decide⟩ ?_
  refine mm_aload_n C (mm_dec dk_X0_goThroughSets 1 rfl) rfl ?_
  refine mm_geti C fl_X0_21 (mm_dec dk_X0_goThroughSets 2 rfl) rfl rfl (Or.inl rfl) ?_
  have g2 : 0 ≤ (h.1 58 6) ∧ (h.1 58 6) ≤ 12 := i0.1 58 6
  refine mm_ishl C (mm_dec dk_X0_goThroughSets 3 rfl) ?_
  have g3 : 1 ≤ (mm_vishl 1 (h.1 58 6)) ∧ (mm_vishl 1 (h.1 58 6)) ≤ 4096 := mm_shl1 ⟨by omega, by omega⟩
  refine mm_istore_nL (ls2 := [mR 58, mI p1, mI (mm_vishl 1 (h.1 58 6)), mU, mU]) C (mm_dec dk_X0_goThroughSets 4 rfl) (by decide) rfl ?_
  refine mm_aload_n C (mm_dec dk_X0_goThroughSets 5 rfl) rfl ?_
  refine mm_getr (t := 125) C fl_X0_18 (mm_dec dk_X0_goThroughSets 6 rfl) rfl rfl (by omega) ?_
  have J22 : ∀ (h22_ : mH) (i22_ : mm_inv h22_) (f22_ : mm_fr [(58, 7), (58, 8), (58, 9)] [125] h h22_), mm_W x 0 0 22 [mR 58, mI p1, mI (mm_vishl 1 (h.1 58 6)), mU, mU] [] h22_ := by
    intro h22_ i22_ f22_
    have g4 : 0 ≤ h22_.1 58 5 ∧ h22_.1 58 5 ≤ 1 := i22_.1 58 5
    have g5 : h22_.1 58 5 = h.1 58 5 := f22_.1 58 5 (by decide)
    refine mm_iconst C (mm_dec dk_X0_goThroughSets 12 rfl) ⟨by decide, by decide⟩ ?_
    have J24 : ∀ (n : Nat) (x24_3 : Int) (bx24_3 : 0 ≤ x24_3 ∧ x24_3 ≤ 49152) (h24_ : mH) (i24_ : mm_inv h24_) (f24_ : mm_fr [(58, 7), (58, 8), (58, 9)] [125] h h24_), (49152 - x24_3 : Int) < n → mm_W x 0 0 24 [mR 58, mI p1, mI (mm_vishl 1 (h.1 58 6)), mI x24_3, mU] [] h24_ := by
      intro n
      induction n with
      | zero =>
        intro x24_3 bx24_3 h24_ i24_ f24_ hm
        have g6 : 0 ≤ h24_.1 58 5 ∧ h24_.1 58 5 ≤ 1 := i24_.1 58 5
        exfalso; omega
      | succ n ih24 =>
        intro x24_3 bx24_3 h24_ i24_ f24_ hm24
        have g7 : 0 ≤ h24_.1 58 5 ∧ h24_.1 58 5 ≤ 1 := i24_.1 58 5
        have g8 : h24_.1 58 5 = h.1 58 5 := f24_.1 58 5 (by decide)
        refine mm_iload_n C (mm_dec dk_X0_goThroughSets 14 rfl) rfl ?_
        refine mm_iload_n C (mm_dec dk_X0_goThroughSets 15 rfl) rfl ?_
        refine mm_bipush C (mm_dec dk_X0_goThroughSets 16 rfl) ⟨by decide, by decide⟩ ?_
        refine mm_imul C (mm_dec dk_X0_goThroughSets 17 rfl) ⟨by omega, by omega⟩ ?_
        refine mm_icmp_ge (tgt := 46) C (mm_dec dk_X0_goThroughSets 18 rfl) (by decide) (fun c29 => ?_) (fun c29 => ?_)
        · skip
          refine mm_iconst C (mm_dec dk_X0_goThroughSets 26 rfl) ⟨by decide, by decide⟩ ?_
          have J48 : ∀ (n : Nat) (x48_3 : Int) (bx48_3 : 0 ≤ x48_3 ∧ x48_3 ≤ 12) (h48_ : mH) (i48_ : mm_inv h48_) (f48_ : mm_fr [(58, 7), (58, 8), (58, 9)] [125] h h48_), (12 - x48_3 : Int) < n → mm_W x 0 0 48 [mR 58, mI p1, mI (mm_vishl 1 (h.1 58 6)), mI x48_3, mU] [] h48_ := by
            intro n
            induction n with
            | zero =>
              intro x48_3 bx48_3 h48_ i48_ f48_ hm
              have g9 : 0 ≤ h48_.1 58 5 ∧ h48_.1 58 5 ≤ 1 := i48_.1 58 5
              exfalso; omega
            | succ n ih48 =>
              intro x48_3 bx48_3 h48_ i48_ f48_ hm48
              have g10 : 0 ≤ h48_.1 58 5 ∧ h48_.1 58 5 ≤ 1 := i48_.1 58 5
              have g11 : h48_.1 58 5 = h.1 58 5 := f48_.1 58 5 (by decide)
              refine mm_iload_n C (mm_dec dk_X0_goThroughSets 28 rfl) rfl ?_
              refine mm_aload_n C (mm_dec dk_X0_goThroughSets 29 rfl) rfl ?_
              refine mm_geti C fl_X0_21 (mm_dec dk_X0_goThroughSets 30 rfl) rfl rfl (Or.inl rfl) ?_
              have g12 : 0 ≤ (h48_.1 58 6) ∧ (h48_.1 58 6) ≤ 12 := i48_.1 58 6
              refine mm_icmp_ge (tgt := 82) C (mm_dec dk_X0_goThroughSets 31 rfl) (by decide) (fun c53 => ?_) (fun c53 => ?_)
              · skip
                refine mm_iconst C (mm_dec dk_X0_goThroughSets 48 rfl) ⟨by decide, by decide⟩ ?_
                have J84 : ∀ (n : Nat) (x84_3 : Int) (bx84_3 : 1 ≤ x84_3 ∧ x84_3 ≤ 4096) (h84_ : mH) (i84_ : mm_inv h84_) (f84_ : mm_fr [(58, 7), (58, 8), (58, 9)] [125] h h84_), (4096 - x84_3 : Int) < n → mm_W x 0 0 84 [mR 58, mI p1, mI (mm_vishl 1 (h.1 58 6)), mI x84_3, mU] [] h84_ := by
                  intro n
                  induction n with
                  | zero =>
                    intro x84_3 bx84_3 h84_ i84_ f84_ hm
                    have g13 : 0 ≤ h84_.1 58 5 ∧ h84_.1 58 5 ≤ 1 := i84_.1 58 5
                    exfalso; omega
                  | succ n ih84 =>
                    intro x84_3 bx84_3 h84_ i84_ f84_ hm84
                    have g14 : 0 ≤ h84_.1 58 5 ∧ h84_.1 58 5 ≤ 1 := i84_.1 58 5
                    have g15 : h84_.1 58 5 = h.1 58 5 := f84_.1 58 5 (by decide)
                    refine mm_iload_n C (mm_dec dk_X0_goThroughSets 50 rfl) rfl ?_
                    refine mm_iload_n C (mm_dec dk_X0_goThroughSets 51 rfl) rfl ?_
                    refine mm_icmp_ge (tgt := 123) C (mm_dec dk_X0_goThroughSets 52 rfl) (by decide) (fun c86 => ?_) (fun c86 => ?_)
                    · skip
                      exact mm_vret C T (mm_dec dk_X0_goThroughSets 70 rfl) (by decide : 0 ≤ 0) (by decide : 0 ≤ 0) ⟨rfl, ⟨i84_, f84_⟩⟩
                    · skip
                      refine mm_aload_n C (mm_dec dk_X0_goThroughSets 53 rfl) rfl ?_
                      refine mm_iload_n C (mm_dec dk_X0_goThroughSets 54 rfl) rfl ?_
                      refine mm_iload_n C (mm_dec dk_X0_goThroughSets 55 rfl) rfl ?_
                      refine mm_cVi (rest := []) C1 ev_X0_93 (mm_dec dk_X0_goThroughSets 56 rfl) (c_X0_closeAndExtend x.2.1 hl (d - 1) (by omega) h84_ i84_ x84_3 p1 ⟨by omega, by omega⟩ (by omega)) rfl rfl (Nat.le_of_ble_eq_true rfl) ⟨by decide, by decide⟩ rfl (fun r92 h92c hp92 => ?_) (fun _ _ q => q.elim)
                      obtain ⟨b92, i92c, g92c⟩ := hp92
                      have f92c : mm_fr [(58, 7), (58, 8), (58, 9)] [125] h h92c := mm_fr_tr f84_ g92c (by decide +kernel)
                      have q92c_17 : h92c.1 58 5 = h84_.1 58 5 := g92c.1 58 5 (by decide)
                      refine mm_istoreL (ls2 := [mR 58, mI p1, mI (mm_vishl 1 (h.1 58 6)), mI x84_3, mI r92]) C (mm_dec dk_X0_goThroughSets 57 rfl) (by decide) rfl ?_
                      refine mm_iload C (mm_dec dk_X0_goThroughSets 58 rfl) rfl ?_
                      refine mm_iload_n C (mm_dec dk_X0_goThroughSets 59 rfl) rfl ?_
                      have J117 : ∀ (h117_ : mH) (i117_ : mm_inv h117_) (f117_ : mm_fr [(58, 7), (58, 8), (58, 9)] [125] h h117_), mm_W x 0 0 117 [mR 58, mI p1, mI (mm_vishl 1 (h.1 58 6)), mI x84_3, mU] [] h117_ := by
                        intro h117_ i117_ f117_
                        have g18 : 0 ≤ h117_.1 58 5 ∧ h117_.1 58 5 ≤ 1 := i117_.1 58 5
                        have g19 : h117_.1 58 5 = h.1 58 5 := f117_.1 58 5 (by decide)
                        refine mm_iincL (ls2 := [mR 58, mI p1, mI (mm_vishl 1 (h.1 58 6)), mI (x84_3 + 1), mU]) C (mm_dec dk_X0_goThroughSets 68 rfl) rfl (by decide) ⟨by omega, by omega⟩ rfl ?_
                        refine mm_goto (tgt := 84) C (mm_dec dk_X0_goThroughSets 69 rfl) (by decide) ?_
                        exact ih84 (x84_3 + 1) ⟨by omega, by omega⟩ h117_ i117_ f117_ (by omega)
                      refine mm_icmp_gt (tgt := 117) C (mm_dec dk_X0_goThroughSets 60 rfl) (by decide) (fun c100 => ?_) (fun c100 => ?_)
                      · skip
                        refine mm_fgt 4 ?_
                        exact J117 h92c i92c f92c
                      · skip
                        refine mm_iload C (mm_dec dk_X0_goThroughSets 61 rfl) rfl ?_
                        refine mm_ldc (z := 2000000000) C (mm_dec dk_X0_goThroughSets 62 rfl) kc_X0_88 (by decide) ?_
                        refine mm_icmp_eq (tgt := 117) C (mm_dec dk_X0_goThroughSets 63 rfl) (by decide) (fun c107 => ?_) (fun c107 => ?_)
                        · skip
                          refine mm_fgt 4 ?_
                          exact J117 h92c i92c f92c
                        · skip
                          refine mm_aload_n C (mm_dec dk_X0_goThroughSets 64 rfl) rfl ?_
                          refine mm_iload_n C (mm_dec dk_X0_goThroughSets 65 rfl) rfl ?_
                          refine mm_iload C (mm_dec dk_X0_goThroughSets 66 rfl) rfl ?_
                          refine mm_cVv (rest := []) C1 ev_X0_97 (mm_dec dk_X0_goThroughSets 67 rfl) (c_X0_compare x.2.1 hl (d - 1) (by omega) h92c i92c x84_3 r92) rfl rfl (Nat.le_of_ble_eq_true rfl) ⟨by decide, by decide⟩ rfl (fun h114c hp114 => ?_) (fun _ _ q => q.elim)
                          obtain ⟨i114c, g114c⟩ := hp114
                          have f114c : mm_fr [(58, 7), (58, 8), (58, 9)] [125] h h114c := mm_fr_tr f92c g114c (by decide +kernel)
                          have q114c_21 : h114c.1 58 5 = h92c.1 58 5 := g114c.1 58 5 (by decide)
                          refine mm_fgt 4 ?_
                          exact J117 h114c i114c f114c
                refine mm_istore_nL (ls2 := [mR 58, mI p1, mI (mm_vishl 1 (h.1 58 6)), mI 1, mU]) C (mm_dec dk_X0_goThroughSets 49 rfl) (by decide) rfl ?_
                exact J84 (((4096 - 1) : Int) + 1).toNat 1 ⟨by omega, by omega⟩ h48_ i48_ f48_ (by omega)
              · skip
                refine mm_aload_n C (mm_dec dk_X0_goThroughSets 32 rfl) rfl ?_
                refine mm_iconst C (mm_dec dk_X0_goThroughSets 33 rfl) ⟨by decide, by decide⟩ ?_
                refine mm_iload_n C (mm_dec dk_X0_goThroughSets 34 rfl) rfl ?_
                refine mm_ishl C (mm_dec dk_X0_goThroughSets 35 rfl) ?_
                have g22 : 1 ≤ (mm_vishl 1 x48_3) ∧ (mm_vishl 1 x48_3) ≤ 2048 := mm_shl1b ⟨by omega, by omega⟩
                refine mm_iload_n C (mm_dec dk_X0_goThroughSets 36 rfl) rfl ?_
                refine mm_iconst C (mm_dec dk_X0_goThroughSets 37 rfl) ⟨by decide, by decide⟩ ?_
                refine mm_aload_n C (mm_dec dk_X0_goThroughSets 38 rfl) rfl ?_
                refine mm_getr (t := 59) C fl_X0_11 (mm_dec dk_X0_goThroughSets 39 rfl) rfl rfl (mm_ref i48_ rfl) ?_
                refine mm_sipush C (mm_dec dk_X0_goThroughSets 40 rfl) ⟨by decide, by decide⟩ ?_
                refine mm_iload_n C (mm_dec dk_X0_goThroughSets 41 rfl) rfl ?_
                refine mm_iadd C (mm_dec dk_X0_goThroughSets 42 rfl) ⟨by omega, by omega⟩ ?_
                refine mm_iald C (mm_dec dk_X0_goThroughSets 43 rfl) rfl (by omega) (by omega) ?_
                have g23 : -2147483648 ≤ (h48_.2.1 59 (156 + x48_3)) ∧ (h48_.2.1 59 (156 + x48_3)) ≤ 2147483647 := i48_.2.1 59 (156 + x48_3)
                refine mm_iload_n C (mm_dec dk_X0_goThroughSets 44 rfl) rfl ?_
                refine mm_cVv (rest := []) C1 ev_X0_89 (mm_dec dk_X0_goThroughSets 45 rfl) (c_X0_reach x.2.1 hl (d - 1) (by omega) h48_ i48_ (mm_vishl 1 x48_3) x48_3 0 (h48_.2.1 59 (156 + x48_3)) p1 ⟨by omega, by omega⟩ ⟨by omega, by omega⟩ (by omega)) rfl rfl (Nat.le_of_ble_eq_true rfl) ⟨by decide, by decide⟩ rfl (fun h73c hp73 => ?_) (fun _ _ q => q.elim)
                obtain ⟨i73c, g73c⟩ := hp73
                have f73c : mm_fr [(58, 7), (58, 8), (58, 9)] [125] h h73c := mm_fr_tr f48_ g73c (by decide +kernel)
                have q73c_25 : h73c.1 58 5 = h48_.1 58 5 := g73c.1 58 5 (by decide)
                have q73c_26 : h73c.1 58 6 = h48_.1 58 6 := g73c.1 58 6 (by decide)
                refine mm_iincL (ls2 := [mR 58, mI p1, mI (mm_vishl 1 (h.1 58 6)), mI (x48_3 + 1), mU]) C (mm_dec dk_X0_goThroughSets 46 rfl) rfl (by decide) ⟨by omega, by omega⟩ rfl ?_
                refine mm_goto (tgt := 48) C (mm_dec dk_X0_goThroughSets 47 rfl) (by decide) ?_
                exact ih48 (x48_3 + 1) ⟨by omega, by omega⟩ h73c i73c f73c (by omega)
          refine mm_istore_nL (ls2 := [mR 58, mI p1, mI (mm_vishl 1 (h.1 58 6)), mI 0, mU]) C (mm_dec dk_X0_goThroughSets 27 rfl) (by decide) rfl ?_
          exact J48 (((12 - 0) : Int) + 1).toNat 0 ⟨by omega, by omega⟩ h24_ i24_ f24_ (by omega)
        · skip
          refine mm_aload_n C (mm_dec dk_X0_goThroughSets 19 rfl) rfl ?_
          refine mm_getr (t := 125) C fl_X0_18 (mm_dec dk_X0_goThroughSets 20 rfl) rfl rfl (by omega) ?_
          refine mm_iload_n C (mm_dec dk_X0_goThroughSets 21 rfl) rfl ?_
          refine mm_ldc (z := 2000000000) C (mm_dec dk_X0_goThroughSets 22 rfl) kc_X0_88 (by decide) ?_
          refine mm_iast C (mm_dec dk_X0_goThroughSets 23 rfl) rfl (by omega) (by omega) ?_
          have i4 : mm_inv (mm_pa h24_ 125 x24_3 2000000000) := mm_inv_pa i24_ (show -2147483648 ≤ 2000000000 ∧ 2000000000 ≤ 2147483647 from ⟨by omega, by omega⟩)
          have f4 : mm_fr [(58, 7), (58, 8), (58, 9)] [125] h (mm_pa h24_ 125 x24_3 2000000000) := mm_fr_pa f24_ (by decide)
          obtain ⟨h4, eh4⟩ : ∃ z, z = mm_pa h24_ 125 x24_3 2000000000 := ⟨_, rfl⟩
          rw [← eh4] at i4 f4 ⊢
          have qh4_27 : h4.1 58 5 = h24_.1 58 5 := by rw [eh4]; rfl
          refine mm_iincL (ls2 := [mR 58, mI p1, mI (mm_vishl 1 (h.1 58 6)), mI (x24_3 + 1), mU]) C (mm_dec dk_X0_goThroughSets 24 rfl) rfl (by decide) ⟨by omega, by omega⟩ rfl ?_
          refine mm_goto (tgt := 24) C (mm_dec dk_X0_goThroughSets 25 rfl) (by decide) ?_
          exact ih24 (x24_3 + 1) ⟨by omega, by omega⟩ h4 i4 f4 (by omega)
    refine mm_istore_nL (ls2 := [mR 58, mI p1, mI (mm_vishl 1 (h.1 58 6)), mI 0, mU]) C (mm_dec dk_X0_goThroughSets 13 rfl) (by decide) rfl ?_
    exact J24 (((49152 - 0) : Int) + 1).toNat 0 ⟨by omega, by omega⟩ h22_ i22_ f22_ (by omega)
  refine mm_ifnonnull (tgt := 22) C (mm_dec dk_X0_goThroughSets 7 rfl) (by decide) ?_
  exact J22 h i0 f0
set_option maxRecDepth 100000 in
set_option maxHeartbeats 4000000 in
theorem c_X0_goThroughSets (l : Launch) (hl : l.stackTraces = false) (d : Nat) (hd : 2 ≤ d) (h : mH) (i0 : mm_inv h) (p1 : Int) : mm_Met l d yX0_goThroughSets cX0_goThroughSets 5 none [mR 58, mI p1] h (mm_pv fun h2 => mm_inv h2 ∧ mm_fr [(58, 5), (58, 7), (58, 8), (58, 9)] [125] h h2) mm_nx 1 49152 := by
  refine mm_ofW (ls := [mR 58, mI p1, mU, mU, mU]) hl (by decide) rfl (Nat.le_of_ble_eq_true rfl) ?_
  intro x hxl C T hnm htb
  subst hxl
  have C1 := mm_OK_le (d' := d - 1 + 1) (by omega) C
  refine mm_rng (fun hr _ => ?_)
  have ap1 : -2147483648 ≤ p1 ∧ p1 < 2147483648 := mm_ok_at hr (i := 1) rfl
  have f0 : mm_fr [(58, 5), (58, 7), (58, 8), (58, 9)] [125] h h := mm_fr_rf
  have g1 : 0 ≤ h.1 58 5 ∧ h.1 58 5 ≤ 1 := i0.1 58 5
  refine mm_iconst C (mm_dec dk_X0_goThroughSets 0 rfl) ⟨by decide, by decide⟩ ?_
  refine mm_aload_n C (mm_dec dk_X0_goThroughSets 1 rfl) rfl ?_
  refine mm_geti C fl_X0_21 (mm_dec dk_X0_goThroughSets 2 rfl) rfl rfl (Or.inl rfl) ?_
  have g2 : 0 ≤ (h.1 58 6) ∧ (h.1 58 6) ≤ 12 := i0.1 58 6
  refine mm_ishl C (mm_dec dk_X0_goThroughSets 3 rfl) ?_
  have g3 : 1 ≤ (mm_vishl 1 (h.1 58 6)) ∧ (mm_vishl 1 (h.1 58 6)) ≤ 4096 := mm_shl1 ⟨by omega, by omega⟩
  refine mm_istore_nL (ls2 := [mR 58, mI p1, mI (mm_vishl 1 (h.1 58 6)), mU, mU]) C (mm_dec dk_X0_goThroughSets 4 rfl) (by decide) rfl ?_
  refine mm_aload_n C (mm_dec dk_X0_goThroughSets 5 rfl) rfl ?_
  have J22 : ∀ (h22_ : mH) (i22_ : mm_inv h22_) (f22_ : mm_fr [(58, 5), (58, 7), (58, 8), (58, 9)] [125] h h22_) (w22_0 : h22_.1 58 5 = 1), mm_W x 1 49152 22 [mR 58, mI p1, mI (mm_vishl 1 (h.1 58 6)), mU, mU] [] h22_ := by
    intro h22_ i22_ f22_ w22_0
    have g4 : 0 ≤ h22_.1 58 5 ∧ h22_.1 58 5 ≤ 1 := i22_.1 58 5
    refine mm_iconst C (mm_dec dk_X0_goThroughSets 12 rfl) ⟨by decide, by decide⟩ ?_
    have J24 : ∀ (n : Nat) (x24_3 : Int) (bx24_3 : 0 ≤ x24_3 ∧ x24_3 ≤ 49152) (h24_ : mH) (i24_ : mm_inv h24_) (f24_ : mm_fr [(58, 5), (58, 7), (58, 8), (58, 9)] [125] h h24_) (w24_0 : h24_.1 58 5 = 1), (49152 - x24_3 : Int) < n → mm_W x 1 49152 24 [mR 58, mI p1, mI (mm_vishl 1 (h.1 58 6)), mI x24_3, mU] [] h24_ := by
      intro n
      induction n with
      | zero =>
        intro x24_3 bx24_3 h24_ i24_ f24_ w24_0 hm
        have g5 : 0 ≤ h24_.1 58 5 ∧ h24_.1 58 5 ≤ 1 := i24_.1 58 5
        exfalso; omega
      | succ n ih24 =>
        intro x24_3 bx24_3 h24_ i24_ f24_ w24_0 hm24
        have g6 : 0 ≤ h24_.1 58 5 ∧ h24_.1 58 5 ≤ 1 := i24_.1 58 5
        refine mm_iload_n C (mm_dec dk_X0_goThroughSets 14 rfl) rfl ?_
        refine mm_iload_n C (mm_dec dk_X0_goThroughSets 15 rfl) rfl ?_
        refine mm_bipush C (mm_dec dk_X0_goThroughSets 16 rfl) ⟨by decide, by decide⟩ ?_
        refine mm_imul C (mm_dec dk_X0_goThroughSets 17 rfl) ⟨by omega, by omega⟩ ?_
        refine mm_icmp_ge (tgt := 46) C (mm_dec dk_X0_goThroughSets 18 rfl) (by decide) (fun c29 => ?_) (fun c29 => ?_)
        · skip
          refine mm_iconst C (mm_dec dk_X0_goThroughSets 26 rfl) ⟨by decide, by decide⟩ ?_
          have J48 : ∀ (n : Nat) (x48_3 : Int) (bx48_3 : 0 ≤ x48_3 ∧ x48_3 ≤ 12) (h48_ : mH) (i48_ : mm_inv h48_) (f48_ : mm_fr [(58, 5), (58, 7), (58, 8), (58, 9)] [125] h h48_) (w48_0 : h48_.1 58 5 = 1), (12 - x48_3 : Int) < n → mm_W x 1 49152 48 [mR 58, mI p1, mI (mm_vishl 1 (h.1 58 6)), mI x48_3, mU] [] h48_ := by
            intro n
            induction n with
            | zero =>
              intro x48_3 bx48_3 h48_ i48_ f48_ w48_0 hm
              have g7 : 0 ≤ h48_.1 58 5 ∧ h48_.1 58 5 ≤ 1 := i48_.1 58 5
              exfalso; omega
            | succ n ih48 =>
              intro x48_3 bx48_3 h48_ i48_ f48_ w48_0 hm48
              have g8 : 0 ≤ h48_.1 58 5 ∧ h48_.1 58 5 ≤ 1 := i48_.1 58 5
              refine mm_iload_n C (mm_dec dk_X0_goThroughSets 28 rfl) rfl ?_
              refine mm_aload_n C (mm_dec dk_X0_goThroughSets 29 rfl) rfl ?_
              refine mm_geti C fl_X0_21 (mm_dec dk_X0_goThroughSets 30 rfl) rfl rfl (Or.inl rfl) ?_
              have g9 : 0 ≤ (h48_.1 58 6) ∧ (h48_.1 58 6) ≤ 12 := i48_.1 58 6
              refine mm_icmp_ge (tgt := 82) C (mm_dec dk_X0_goThroughSets 31 rfl) (by decide) (fun c53 => ?_) (fun c53 => ?_)
              · skip
                refine mm_iconst C (mm_dec dk_X0_goThroughSets 48 rfl) ⟨by decide, by decide⟩ ?_
                have J84 : ∀ (n : Nat) (x84_3 : Int) (bx84_3 : 1 ≤ x84_3 ∧ x84_3 ≤ 4096) (h84_ : mH) (i84_ : mm_inv h84_) (f84_ : mm_fr [(58, 5), (58, 7), (58, 8), (58, 9)] [125] h h84_) (w84_0 : h84_.1 58 5 = 1), (4096 - x84_3 : Int) < n → mm_W x 1 49152 84 [mR 58, mI p1, mI (mm_vishl 1 (h.1 58 6)), mI x84_3, mU] [] h84_ := by
                  intro n
                  induction n with
                  | zero =>
                    intro x84_3 bx84_3 h84_ i84_ f84_ w84_0 hm
                    have g10 : 0 ≤ h84_.1 58 5 ∧ h84_.1 58 5 ≤ 1 := i84_.1 58 5
                    exfalso; omega
                  | succ n ih84 =>
                    intro x84_3 bx84_3 h84_ i84_ f84_ w84_0 hm84
                    have g11 : 0 ≤ h84_.1 58 5 ∧ h84_.1 58 5 ≤ 1 := i84_.1 58 5
                    refine mm_iload_n C (mm_dec dk_X0_goThroughSets 50 rfl) rfl ?_
                    refine mm_iload_n C (mm_dec dk_X0_goThroughSets 51 rfl) rfl ?_
                    refine mm_icmp_ge (tgt := 123) C (mm_dec dk_X0_goThroughSets 52 rfl) (by decide) (fun c86 => ?_) (fun c86 => ?_)
                    · skip
                      exact mm_vret C T (mm_dec dk_X0_goThroughSets 70 rfl) (by decide : 1 ≤ 1) (by decide : 49152 ≤ 49152) ⟨rfl, ⟨i84_, f84_⟩⟩
                    · skip
                      refine mm_aload_n C (mm_dec dk_X0_goThroughSets 53 rfl) rfl ?_
                      refine mm_iload_n C (mm_dec dk_X0_goThroughSets 54 rfl) rfl ?_
                      refine mm_iload_n C (mm_dec dk_X0_goThroughSets 55 rfl) rfl ?_
                      refine mm_cVi (rest := []) C1 ev_X0_93 (mm_dec dk_X0_goThroughSets 56 rfl) (c_X0_closeAndExtend x.2.1 hl (d - 1) (by omega) h84_ i84_ x84_3 p1 ⟨by omega, by omega⟩ (by omega)) rfl rfl (Nat.le_of_ble_eq_true rfl) ⟨by decide, by decide⟩ rfl (fun r92 h92c hp92 => ?_) (fun _ _ q => q.elim)
                      obtain ⟨b92, i92c, g92c⟩ := hp92
                      have f92c : mm_fr [(58, 5), (58, 7), (58, 8), (58, 9)] [125] h h92c := mm_fr_tr f84_ g92c (by decide +kernel)
                      have q92c_13 : h92c.1 58 5 = h84_.1 58 5 := g92c.1 58 5 (by decide)
                      refine mm_istoreL (ls2 := [mR 58, mI p1, mI (mm_vishl 1 (h.1 58 6)), mI x84_3, mI r92]) C (mm_dec dk_X0_goThroughSets 57 rfl) (by decide) rfl ?_
                      refine mm_iload C (mm_dec dk_X0_goThroughSets 58 rfl) rfl ?_
                      refine mm_iload_n C (mm_dec dk_X0_goThroughSets 59 rfl) rfl ?_
                      have J117 : ∀ (h117_ : mH) (i117_ : mm_inv h117_) (f117_ : mm_fr [(58, 5), (58, 7), (58, 8), (58, 9)] [125] h h117_) (w117_0 : h117_.1 58 5 = 1), mm_W x 1 49152 117 [mR 58, mI p1, mI (mm_vishl 1 (h.1 58 6)), mI x84_3, mU] [] h117_ := by
                        intro h117_ i117_ f117_ w117_0
                        have g14 : 0 ≤ h117_.1 58 5 ∧ h117_.1 58 5 ≤ 1 := i117_.1 58 5
                        refine mm_iincL (ls2 := [mR 58, mI p1, mI (mm_vishl 1 (h.1 58 6)), mI (x84_3 + 1), mU]) C (mm_dec dk_X0_goThroughSets 68 rfl) rfl (by decide) ⟨by omega, by omega⟩ rfl ?_
                        refine mm_goto (tgt := 84) C (mm_dec dk_X0_goThroughSets 69 rfl) (by decide) ?_
                        exact ih84 (x84_3 + 1) ⟨by omega, by omega⟩ h117_ i117_ f117_ (by omega) (by omega)
                      refine mm_icmp_gt (tgt := 117) C (mm_dec dk_X0_goThroughSets 60 rfl) (by decide) (fun c100 => ?_) (fun c100 => ?_)
                      · skip
                        refine mm_fgt 4 ?_
                        exact J117 h92c i92c f92c (by omega)
                      · skip
                        refine mm_iload C (mm_dec dk_X0_goThroughSets 61 rfl) rfl ?_
                        refine mm_ldc (z := 2000000000) C (mm_dec dk_X0_goThroughSets 62 rfl) kc_X0_88 (by decide) ?_
                        refine mm_icmp_eq (tgt := 117) C (mm_dec dk_X0_goThroughSets 63 rfl) (by decide) (fun c107 => ?_) (fun c107 => ?_)
                        · skip
                          refine mm_fgt 4 ?_
                          exact J117 h92c i92c f92c (by omega)
                        · skip
                          refine mm_aload_n C (mm_dec dk_X0_goThroughSets 64 rfl) rfl ?_
                          refine mm_iload_n C (mm_dec dk_X0_goThroughSets 65 rfl) rfl ?_
                          refine mm_iload C (mm_dec dk_X0_goThroughSets 66 rfl) rfl ?_
                          refine mm_cVv (rest := []) C1 ev_X0_97 (mm_dec dk_X0_goThroughSets 67 rfl) (c_X0_compare x.2.1 hl (d - 1) (by omega) h92c i92c x84_3 r92) rfl rfl (Nat.le_of_ble_eq_true rfl) ⟨by decide, by decide⟩ rfl (fun h114c hp114 => ?_) (fun _ _ q => q.elim)
                          obtain ⟨i114c, g114c⟩ := hp114
                          have f114c : mm_fr [(58, 5), (58, 7), (58, 8), (58, 9)] [125] h h114c := mm_fr_tr f92c g114c (by decide +kernel)
                          have q114c_16 : h114c.1 58 5 = h92c.1 58 5 := g114c.1 58 5 (by decide)
                          refine mm_fgt 4 ?_
                          exact J117 h114c i114c f114c (by omega)
                refine mm_istore_nL (ls2 := [mR 58, mI p1, mI (mm_vishl 1 (h.1 58 6)), mI 1, mU]) C (mm_dec dk_X0_goThroughSets 49 rfl) (by decide) rfl ?_
                exact J84 (((4096 - 1) : Int) + 1).toNat 1 ⟨by omega, by omega⟩ h48_ i48_ f48_ (by omega) (by omega)
              · skip
                refine mm_aload_n C (mm_dec dk_X0_goThroughSets 32 rfl) rfl ?_
                refine mm_iconst C (mm_dec dk_X0_goThroughSets 33 rfl) ⟨by decide, by decide⟩ ?_
                refine mm_iload_n C (mm_dec dk_X0_goThroughSets 34 rfl) rfl ?_
                refine mm_ishl C (mm_dec dk_X0_goThroughSets 35 rfl) ?_
                have g17 : 1 ≤ (mm_vishl 1 x48_3) ∧ (mm_vishl 1 x48_3) ≤ 2048 := mm_shl1b ⟨by omega, by omega⟩
                refine mm_iload_n C (mm_dec dk_X0_goThroughSets 36 rfl) rfl ?_
                refine mm_iconst C (mm_dec dk_X0_goThroughSets 37 rfl) ⟨by decide, by decide⟩ ?_
                refine mm_aload_n C (mm_dec dk_X0_goThroughSets 38 rfl) rfl ?_
                refine mm_getr (t := 59) C fl_X0_11 (mm_dec dk_X0_goThroughSets 39 rfl) rfl rfl (mm_ref i48_ rfl) ?_
                refine mm_sipush C (mm_dec dk_X0_goThroughSets 40 rfl) ⟨by decide, by decide⟩ ?_
                refine mm_iload_n C (mm_dec dk_X0_goThroughSets 41 rfl) rfl ?_
                refine mm_iadd C (mm_dec dk_X0_goThroughSets 42 rfl) ⟨by omega, by omega⟩ ?_
                refine mm_iald C (mm_dec dk_X0_goThroughSets 43 rfl) rfl (by omega) (by omega) ?_
                have g18 : -2147483648 ≤ (h48_.2.1 59 (156 + x48_3)) ∧ (h48_.2.1 59 (156 + x48_3)) ≤ 2147483647 := i48_.2.1 59 (156 + x48_3)
                refine mm_iload_n C (mm_dec dk_X0_goThroughSets 44 rfl) rfl ?_
                refine mm_cVv (rest := []) C1 ev_X0_89 (mm_dec dk_X0_goThroughSets 45 rfl) (c_X0_reach x.2.1 hl (d - 1) (by omega) h48_ i48_ (mm_vishl 1 x48_3) x48_3 0 (h48_.2.1 59 (156 + x48_3)) p1 ⟨by omega, by omega⟩ ⟨by omega, by omega⟩ (by omega)) rfl rfl (Nat.le_of_ble_eq_true rfl) ⟨by decide, by decide⟩ rfl (fun h73c hp73 => ?_) (fun _ _ q => q.elim)
                obtain ⟨i73c, g73c⟩ := hp73
                have f73c : mm_fr [(58, 5), (58, 7), (58, 8), (58, 9)] [125] h h73c := mm_fr_tr f48_ g73c (by decide +kernel)
                have q73c_20 : h73c.1 58 5 = h48_.1 58 5 := g73c.1 58 5 (by decide)
                have q73c_21 : h73c.1 58 6 = h48_.1 58 6 := g73c.1 58 6 (by decide)
                refine mm_iincL (ls2 := [mR 58, mI p1, mI (mm_vishl 1 (h.1 58 6)), mI (x48_3 + 1), mU]) C (mm_dec dk_X0_goThroughSets 46 rfl) rfl (by decide) ⟨by omega, by omega⟩ rfl ?_
                refine mm_goto (tgt := 48) C (mm_dec dk_X0_goThroughSets 47 rfl) (by decide) ?_
                exact ih48 (x48_3 + 1) ⟨by omega, by omega⟩ h73c i73c f73c (by omega) (by omega)
          refine mm_istore_nL (ls2 := [mR 58, mI p1, mI (mm_vishl 1 (h.1 58 6)), mI 0, mU]) C (mm_dec dk_X0_goThroughSets 27 rfl) (by decide) rfl ?_
          exact J48 (((12 - 0) : Int) + 1).toNat 0 ⟨by omega, by omega⟩ h24_ i24_ f24_ (by omega) (by omega)
        · skip
          refine mm_aload_n C (mm_dec dk_X0_goThroughSets 19 rfl) rfl ?_
          refine mm_getr (t := 125) C fl_X0_18 (mm_dec dk_X0_goThroughSets 20 rfl) rfl rfl (by omega) ?_
          refine mm_iload_n C (mm_dec dk_X0_goThroughSets 21 rfl) rfl ?_
          refine mm_ldc (z := 2000000000) C (mm_dec dk_X0_goThroughSets 22 rfl) kc_X0_88 (by decide) ?_
          refine mm_iast C (mm_dec dk_X0_goThroughSets 23 rfl) rfl (by omega) (by omega) ?_
          have i4 : mm_inv (mm_pa h24_ 125 x24_3 2000000000) := mm_inv_pa i24_ (show -2147483648 ≤ 2000000000 ∧ 2000000000 ≤ 2147483647 from ⟨by omega, by omega⟩)
          have f4 : mm_fr [(58, 5), (58, 7), (58, 8), (58, 9)] [125] h (mm_pa h24_ 125 x24_3 2000000000) := mm_fr_pa f24_ (by decide)
          obtain ⟨h4, eh4⟩ : ∃ z, z = mm_pa h24_ 125 x24_3 2000000000 := ⟨_, rfl⟩
          rw [← eh4] at i4 f4 ⊢
          have qh4_22 : h4.1 58 5 = h24_.1 58 5 := by rw [eh4]; rfl
          refine mm_iincL (ls2 := [mR 58, mI p1, mI (mm_vishl 1 (h.1 58 6)), mI (x24_3 + 1), mU]) C (mm_dec dk_X0_goThroughSets 24 rfl) rfl (by decide) ⟨by omega, by omega⟩ rfl ?_
          refine mm_goto (tgt := 24) C (mm_dec dk_X0_goThroughSets 25 rfl) (by decide) ?_
          exact ih24 (x24_3 + 1) ⟨by omega, by omega⟩ h4 i4 f4 (by omega) (by omega)
    refine mm_istore_nL (ls2 := [mR 58, mI p1, mI (mm_vishl 1 (h.1 58 6)), mI 0, mU]) C (mm_dec dk_X0_goThroughSets 13 rfl) (by decide) rfl ?_
    exact J24 (((49152 - 0) : Int) + 1).toNat 0 ⟨by omega, by omega⟩ h22_ i22_ f22_ (by omega) (by omega)
  by_cases ct : h.1 58 5 = 0
  · refine mm_getn (t := 125) C fl_X0_18 (mm_dec dk_X0_goThroughSets 6 rfl) rfl rfl ct ?_
    refine mm_ifnonnullN C (mm_dec dk_X0_goThroughSets 7 rfl) ?_
    refine mm_aload_n C (mm_dec dk_X0_goThroughSets 8 rfl) rfl ?_
    refine mm_ldc (z := 49152) C (mm_dec dk_X0_goThroughSets 9 rfl) kc_X0_87 (by decide) ?_
    refine mm_newa (atype := .int) (n := 125) (len := 49152) C ac_int (mm_dec dk_X0_goThroughSets 10 rfl) (mm_tb_n i0 ct) (by decide) rfl (Or.inl ⟨rfl, rfl⟩) rfl (by decide) (by decide) (by decide) ?_
    refine mm_putr C fl_X0_18 (mm_dec dk_X0_goThroughSets 11 rfl) rfl rfl rfl (fun q => ⟨rfl, rfl⟩) (by decide) ?_
    have i5 : mm_inv (mm_tb1 h) := mm_inv_tb i0 ct
    have f5 : mm_fr [(58, 5), (58, 7), (58, 8), (58, 9)] [125] h (mm_tb1 h) := mm_fr_tb f0 i0 ct i0 (by decide) (by decide)
    have qh5 : (mm_tb1 h).1 58 5 = 1 := mm_tb1_at _
    change mm_W _ _ _ _ _ _ (mm_tb1 h)
    obtain ⟨h5, eh5⟩ : ∃ z, z = mm_tb1 h := ⟨_, rfl⟩
    rw [← eh5] at i5 f5 qh5 ⊢
    exact J22 h5 i5 f5 (by omega)
  · have ct2 : 0 ≤ h.1 58 5 ∧ h.1 58 5 ≤ 1 := i0.1 58 5
    refine mm_getr (t := 125) C fl_X0_18 (mm_dec dk_X0_goThroughSets 6 rfl) rfl rfl ct ?_
    refine mm_ifnonnull (tgt := 22) C (mm_dec dk_X0_goThroughSets 7 rfl) (by decide) ?_
    refine mm_widen (k := 1) (n := 49152) (by decide) (by decide) ?_
    exact J22 h i0 f0 (by omega)
set_option maxRecDepth 100000 in
set_option maxHeartbeats 4000000 in
theorem c_X0_search_t (l : Launch) (hl : l.stackTraces = false) (d : Nat) (hd : 5 ≤ d) (h : mH) (i0 : mm_inv h) (p1 : Int) (p2 : Int) (bp1 : 0 ≤ p1 ∧ p1 ≤ 7) (t0 : h.1 58 5 = 1) : mm_Met l d yX0_search cX0_search 4 (some .int) [mR 58, mI p1, mI p2] h (mm_pi fun r h2 => (-2147483648 ≤ r ∧ r ≤ 2147483647) ∧ mm_inv h2 ∧ mm_fr [(7, 7), (7, 8), (58, 6), (58, 7), (58, 8), (58, 9), (58, 10)] [8, 9, 10, 11, 59, 60, 125] h h2) mm_nx 0 0 := by
  refine mm_ofW (ls := [mR 58, mI p1, mI p2, mU]) hl (by decide) rfl (Nat.le_of_ble_eq_true rfl) ?_
  intro x hxl C T hnm htb
  subst hxl
  have C1 := mm_OK_le (d' := d - 1 + 1) (by omega) C
  refine mm_rng (fun hr _ => ?_)
  have ap1 : -2147483648 ≤ p1 ∧ p1 < 2147483648 := mm_ok_at hr (i := 1) rfl
  have ap2 : -2147483648 ≤ p2 ∧ p2 < 2147483648 := mm_ok_at hr (i := 2) rfl
  have f0 : mm_fr [(7, 7), (7, 8), (58, 6), (58, 7), (58, 8), (58, 9), (58, 10)] [8, 9, 10, 11, 59, 60, 125] h h := mm_fr_rf
  have g1 : 0 ≤ h.1 58 5 ∧ h.1 58 5 ≤ 1 := i0.1 58 5
  refine mm_aload_n C (mm_dec dk_X0_search 0 rfl) rfl ?_
  refine mm_aload_n C (mm_dec dk_X0_search 1 rfl) rfl ?_
  refine mm_getr (t := 14) C fl_X0_46 (mm_dec dk_X0_search 2 rfl) rfl rfl (mm_ref i0 rfl) ?_
  refine mm_iload_n C (mm_dec dk_X0_search 3 rfl) rfl ?_
  refine mm_iconst C (mm_dec dk_X0_search 4 rfl) ⟨by decide, by decide⟩ ?_
  refine mm_aload_n C (mm_dec dk_X0_search 5 rfl) rfl ?_
  refine mm_getr (t := 60) C fl_X0_15 (mm_dec dk_X0_search 6 rfl) rfl rfl (mm_ref i0 rfl) ?_
  refine mm_cVi (rest := [mR 58]) C1 ev_X0_50 (mm_dec dk_X0_search 7 rfl) (c_X2_fillRow_60 x.2.1 hl (d - 1) (by omega) h i0 p1 0 ⟨by omega, by omega⟩ ⟨by omega, by omega⟩) rfl rfl (Nat.le_of_ble_eq_true rfl) ⟨by decide, by decide⟩ rfl (fun r11 h11c hp11 => ?_) (fun _ _ q => q.elim)
  obtain ⟨b11, i11c, g11c⟩ := hp11
  have f11c : mm_fr [(7, 7), (7, 8), (58, 6), (58, 7), (58, 8), (58, 9), (58, 10)] [8, 9, 10, 11, 59, 60, 125] h h11c := mm_fr_tr f0 g11c (by decide +kernel)
  have q11c_3 : h11c.1 58 5 = h.1 58 5 := g11c.1 58 5 (by decide)
  refine mm_puti C fl_X0_21 (mm_dec dk_X0_search 8 rfl) rfl rfl rfl (Or.inl ⟨rfl, rfl⟩) ?_
  have i2 : mm_inv (mm_pf h11c 58 6 r11) := mm_inv_pf i11c (show 0 ≤ r11 ∧ r11 ≤ 12 from ⟨by omega, by omega⟩) (by decide)
  have f2 : mm_fr [(7, 7), (7, 8), (58, 6), (58, 7), (58, 8), (58, 9), (58, 10)] [8, 9, 10, 11, 59, 60, 125] h (mm_pf h11c 58 6 r11) := mm_fr_pf f11c (by decide)
  obtain ⟨h2, eh2⟩ : ∃ z, z = mm_pf h11c 58 6 r11 := ⟨_, rfl⟩
  rw [← eh2] at i2 f2 ⊢
  have qh2 : h2.1 58 6 = r11 := by rw [eh2]; exact mm_pf_same _ _ _ _
  have qh2_4 : h2.1 58 5 = h11c.1 58 5 := by rw [eh2]; exact mm_pf_ne _ _ (by decide)
  refine mm_aload_n C (mm_dec dk_X0_search 9 rfl) rfl ?_
  refine mm_cVv (rest := []) C1 ev_X0_56 (mm_dec dk_X0_search 10 rfl) (c_X0_measureLegs x.2.1 hl (d - 1) (by omega) h2 i2 ) rfl rfl (Nat.le_of_ble_eq_true rfl) ⟨by decide, by decide⟩ rfl (fun h18c hp18 => ?_) (fun _ _ q => q.elim)
  obtain ⟨i18c, g18c⟩ := hp18
  have f18c : mm_fr [(7, 7), (7, 8), (58, 6), (58, 7), (58, 8), (58, 9), (58, 10)] [8, 9, 10, 11, 59, 60, 125] h h18c := mm_fr_tr f2 g18c (by decide +kernel)
  have q18c_6 : h18c.1 58 5 = h2.1 58 5 := g18c.1 58 5 (by decide)
  have q18c_7 : h18c.1 58 6 = h2.1 58 6 := g18c.1 58 6 (by decide)
  refine mm_aload_n C (mm_dec dk_X0_search 11 rfl) rfl ?_
  refine mm_getr (t := 59) C fl_X0_11 (mm_dec dk_X0_search 12 rfl) rfl rfl (mm_ref i18c rfl) ?_
  refine mm_sipush C (mm_dec dk_X0_search 13 rfl) ⟨by decide, by decide⟩ ?_
  refine mm_iald C (mm_dec dk_X0_search 14 rfl) rfl (by omega) (by omega) ?_
  have g8 : -2147483648 ≤ (h18c.2.1 59 168) ∧ (h18c.2.1 59 168) ≤ 2147483647 := i18c.2.1 59 168
  refine mm_istore_nL (ls2 := [mR 58, mI p1, mI p2, mI (h18c.2.1 59 168)]) C (mm_dec dk_X0_search 15 rfl) (by decide) rfl ?_
  refine mm_iload_n C (mm_dec dk_X0_search 16 rfl) rfl ?_
  refine mm_iconst C (mm_dec dk_X0_search 17 rfl) ⟨by decide, by decide⟩ ?_
  have J40 : mm_W x 0 0 40 [mU, mU, mU, mU] [] h18c := by
    refine mm_iconst C (mm_dec dk_X0_search 22 rfl) ⟨by decide, by decide⟩ ?_
    exact mm_iret C T (mm_dec dk_X0_search 23 rfl) (by decide : 0 ≤ 0) (by decide : 0 ≤ 0) ⟨_, rfl, ⟨⟨by omega, by omega⟩, i18c, f18c⟩⟩
  refine mm_icmp_eq (tgt := 40) C (mm_dec dk_X0_search 18 rfl) (by decide) (fun c32 => ?_) (fun c32 => ?_)
  · skip
    refine mm_fgt 0 ?_
    refine mm_fgt 1 ?_
    refine mm_fgt 2 ?_
    refine mm_fgt 3 ?_
    exact J40
  · skip
    refine mm_iload_n C (mm_dec dk_X0_search 19 rfl) rfl ?_
    refine mm_iload_n C (mm_dec dk_X0_search 20 rfl) rfl ?_
    refine mm_icmp_le (tgt := 42) C (mm_dec dk_X0_search 21 rfl) (by decide) (fun c37 => ?_) (fun c37 => ?_)
    · skip
      refine mm_aload_n C (mm_dec dk_X0_search 24 rfl) rfl ?_
      refine mm_iconst C (mm_dec dk_X0_search 25 rfl) ⟨by decide, by decide⟩ ?_
      refine mm_puti C fl_X0_34 (mm_dec dk_X0_search 26 rfl) rfl rfl rfl (Or.inr ⟨rfl, rfl, by omega⟩) ?_
      have i4 : mm_inv (mm_pf h18c 58 10 1) := mm_inv_pf i18c (show 0 ≤ 1 ∧ 1 ≤ 1 from ⟨by omega, by omega⟩) (by decide)
      have f4 : mm_fr [(7, 7), (7, 8), (58, 6), (58, 7), (58, 8), (58, 9), (58, 10)] [8, 9, 10, 11, 59, 60, 125] h (mm_pf h18c 58 10 1) := mm_fr_pf f18c (by decide)
      obtain ⟨h4, eh4⟩ : ∃ z, z = mm_pf h18c 58 10 1 := ⟨_, rfl⟩
      rw [← eh4] at i4 f4 ⊢
      have qh4 : h4.1 58 10 = 1 := by rw [eh4]; exact mm_pf_same _ _ _ _
      have qh4_9 : h4.1 58 5 = h18c.1 58 5 := by rw [eh4]; exact mm_pf_ne _ _ (by decide)
      have qh4_10 : h4.1 58 6 = h18c.1 58 6 := by rw [eh4]; exact mm_pf_ne _ _ (by decide)
      refine mm_aload_n C (mm_dec dk_X0_search 27 rfl) rfl ?_
      refine mm_iconst C (mm_dec dk_X0_search 28 rfl) ⟨by decide, by decide⟩ ?_
      refine mm_puti C fl_X0_31 (mm_dec dk_X0_search 29 rfl) rfl rfl rfl (Or.inl ⟨rfl, rfl⟩) ?_
      have i5 : mm_inv (mm_pf h4 58 9 0) := mm_inv_pf i4 (show -2147483648 ≤ 0 ∧ 0 ≤ 2147483647 from ⟨by omega, by omega⟩) (by decide)
      have f5 : mm_fr [(7, 7), (7, 8), (58, 6), (58, 7), (58, 8), (58, 9), (58, 10)] [8, 9, 10, 11, 59, 60, 125] h (mm_pf h4 58 9 0) := mm_fr_pf f4 (by decide)
      obtain ⟨h5, eh5⟩ : ∃ z, z = mm_pf h4 58 9 0 := ⟨_, rfl⟩
      rw [← eh5] at i5 f5 ⊢
      have qh5 : h5.1 58 9 = 0 := by rw [eh5]; exact mm_pf_same _ _ _ _
      have qh5_11 : h5.1 58 5 = h4.1 58 5 := by rw [eh5]; exact mm_pf_ne _ _ (by decide)
      have qh5_12 : h5.1 58 6 = h4.1 58 6 := by rw [eh5]; exact mm_pf_ne _ _ (by decide)
      have qh5_13 : h5.1 58 10 = h4.1 58 10 := by rw [eh5]; exact mm_pf_ne _ _ (by decide)
      refine mm_aload_n C (mm_dec dk_X0_search 30 rfl) rfl ?_
      refine mm_iconst C (mm_dec dk_X0_search 31 rfl) ⟨by decide, by decide⟩ ?_
      refine mm_puti C fl_X0_25 (mm_dec dk_X0_search 32 rfl) rfl rfl rfl (Or.inl ⟨rfl, rfl⟩) ?_
      have i6 : mm_inv (mm_pf h5 58 7 0) := mm_inv_pf i5 (show -2147483648 ≤ 0 ∧ 0 ≤ 2147483647 from ⟨by omega, by omega⟩) (by decide)
      have f6 : mm_fr [(7, 7), (7, 8), (58, 6), (58, 7), (58, 8), (58, 9), (58, 10)] [8, 9, 10, 11, 59, 60, 125] h (mm_pf h5 58 7 0) := mm_fr_pf f5 (by decide)
      obtain ⟨h6, eh6⟩ : ∃ z, z = mm_pf h5 58 7 0 := ⟨_, rfl⟩
      rw [← eh6] at i6 f6 ⊢
      have qh6 : h6.1 58 7 = 0 := by rw [eh6]; exact mm_pf_same _ _ _ _
      have qh6_14 : h6.1 58 5 = h5.1 58 5 := by rw [eh6]; exact mm_pf_ne _ _ (by decide)
      have qh6_15 : h6.1 58 6 = h5.1 58 6 := by rw [eh6]; exact mm_pf_ne _ _ (by decide)
      have qh6_16 : h6.1 58 9 = h5.1 58 9 := by rw [eh6]; exact mm_pf_ne _ _ (by decide)
      have qh6_17 : h6.1 58 10 = h5.1 58 10 := by rw [eh6]; exact mm_pf_ne _ _ (by decide)
      refine mm_aload_n C (mm_dec dk_X0_search 33 rfl) rfl ?_
      refine mm_iload_n C (mm_dec dk_X0_search 34 rfl) rfl ?_
      refine mm_puti C fl_X0_28 (mm_dec dk_X0_search 35 rfl) rfl rfl rfl (Or.inl ⟨rfl, rfl⟩) ?_
      have i7 : mm_inv (mm_pf h6 58 8 (h18c.2.1 59 168)) := mm_inv_pf i6 (show -2147483648 ≤ (h18c.2.1 59 168) ∧ (h18c.2.1 59 168) ≤ 2147483647 from ⟨by omega, by omega⟩) (by decide)
      have f7 : mm_fr [(7, 7), (7, 8), (58, 6), (58, 7), (58, 8), (58, 9), (58, 10)] [8, 9, 10, 11, 59, 60, 125] h (mm_pf h6 58 8 (h18c.2.1 59 168)) := mm_fr_pf f6 (by decide)
      obtain ⟨h7, eh7⟩ : ∃ z, z = mm_pf h6 58 8 (h18c.2.1 59 168) := ⟨_, rfl⟩
      rw [← eh7] at i7 f7 ⊢
      have qh7 : h7.1 58 8 = (h18c.2.1 59 168) := by rw [eh7]; exact mm_pf_same _ _ _ _
      have qh7_18 : h7.1 58 5 = h6.1 58 5 := by rw [eh7]; exact mm_pf_ne _ _ (by decide)
      have qh7_19 : h7.1 58 6 = h6.1 58 6 := by rw [eh7]; exact mm_pf_ne _ _ (by decide)
      have qh7_20 : h7.1 58 7 = h6.1 58 7 := by rw [eh7]; exact mm_pf_ne _ _ (by decide)
      have qh7_21 : h7.1 58 9 = h6.1 58 9 := by rw [eh7]; exact mm_pf_ne _ _ (by decide)
      have qh7_22 : h7.1 58 10 = h6.1 58 10 := by rw [eh7]; exact mm_pf_ne _ _ (by decide)
      refine mm_aload_n C (mm_dec dk_X0_search 36 rfl) rfl ?_
      refine mm_iload_n C (mm_dec dk_X0_search 37 rfl) rfl ?_
      refine mm_cVv (rest := []) C1 ev_X0_59 (mm_dec dk_X0_search 38 rfl) (c_X0_goThroughSets_t x.2.1 hl (d - 1) (by omega) h7 i7 p2 (by omega)) rfl rfl (Nat.le_of_ble_eq_true rfl) ⟨by decide, by decide⟩ rfl (fun h64c hp64 => ?_) (fun _ _ q => q.elim)
      obtain ⟨i64c, g64c⟩ := hp64
      have f64c : mm_fr [(7, 7), (7, 8), (58, 6), (58, 7), (58, 8), (58, 9), (58, 10)] [8, 9, 10, 11, 59, 60, 125] h h64c := mm_fr_tr f7 g64c (by decide +kernel)
      have q64c_24 : h64c.1 58 5 = h7.1 58 5 := g64c.1 58 5 (by decide)
      have q64c_25 : h64c.1 58 6 = h7.1 58 6 := g64c.1 58 6 (by decide)
      have q64c_26 : h64c.1 58 10 = h7.1 58 10 := g64c.1 58 10 (by decide)
      refine mm_aload_n C (mm_dec dk_X0_search 39 rfl) rfl ?_
      refine mm_geti C fl_X0_25 (mm_dec dk_X0_search 40 rfl) rfl rfl (Or.inl rfl) ?_
      have g27 : -2147483648 ≤ (h64c.1 58 7) ∧ (h64c.1 58 7) ≤ 2147483647 := i64c.1 58 7
      exact mm_iret C T (mm_dec dk_X0_search 41 rfl) (by decide : 0 ≤ 0) (by decide : 0 ≤ 0) ⟨_, rfl, ⟨⟨by omega, by omega⟩, i64c, f64c⟩⟩
    · skip
      refine mm_fgt 0 ?_
      refine mm_fgt 1 ?_
      refine mm_fgt 2 ?_
      refine mm_fgt 3 ?_
      exact J40
set_option maxRecDepth 100000 in
set_option maxHeartbeats 4000000 in
theorem c_X11_best_t (l : Launch) (hl : l.stackTraces = false) (d : Nat) (hd : 9 ≤ d) (h : mH) (i0 : mm_inv h) (p1 : Int) (p2 : Int) (t0 : h.1 58 5 = 1) : mm_Met l d yX11_best cX11_best 3 (some .int) [mR 0, mI p1, mI p2] h (mm_pi fun r h2 => (-2147483648 ≤ r ∧ r ≤ 2147483647) ∧ mm_inv h2 ∧ mm_fr [(7, 7), (7, 8), (58, 6), (58, 7), (58, 8), (58, 9), (58, 10)] [8, 9, 10, 11, 59, 60, 125] h h2) (mm_xp h) 2 12 := by
  refine mm_ofW (ls := [mR 0, mI p1, mI p2]) hl (by decide) rfl (Nat.le_of_ble_eq_true rfl) ?_
  intro x hxl C T hnm htb
  subst hxl
  have C1 := mm_OK_le (d' := d - 1 + 1) (by omega) C
  have C8 := mm_OK_le (d' := d - 8 + 8) (by omega) C
  refine mm_rng (fun hr _ => ?_)
  have ap1 : -2147483648 ≤ p1 ∧ p1 < 2147483648 := mm_ok_at hr (i := 1) rfl
  have ap2 : -2147483648 ≤ p2 ∧ p2 < 2147483648 := mm_ok_at hr (i := 2) rfl
  have f0 : mm_fr [(7, 7), (7, 8), (58, 6), (58, 7), (58, 8), (58, 9), (58, 10)] [8, 9, 10, 11, 59, 60, 125] h h := mm_fr_rf
  refine mm_aload_n C (mm_dec dk_X11_best 0 rfl) rfl ?_
  refine mm_iload_n C (mm_dec dk_X11_best 1 rfl) rfl ?_
  refine mm_cVv (rest := []) C1 ev_X11_207 (mm_dec dk_X11_best 2 rfl) (c_X11_needCourse x.2.1 hl (d - 1) (by omega) h i0 p1) rfl rfl (Nat.le_of_ble_eq_true rfl) ⟨by decide, by decide⟩ rfl (fun h2c hp2 => ?_) (fun E hx q => mm_out C T htb (by decide) (by decide) (by rcases q with ⟨q1, q2⟩ | ⟨q1, q2⟩ <;> first | exact Or.inl ⟨q1, q2⟩ | exact Or.inr ⟨q1, q2⟩))
  obtain ⟨z2, k2_0, k2_1⟩ := hp2
  rw [z2]
  have g2 : 0 ≤ (h.1 14 8) ∧ (h.1 14 8) ≤ 8 := i0.1 14 8
  refine mm_iload_n C (mm_dec dk_X11_best 3 rfl) rfl ?_
  refine mm_if_ge (tgt := 20) C (mm_dec dk_X11_best 4 rfl) (by decide) (fun c6 => ?_) (fun c6 => ?_)
  · skip
    refine mm_aload_n C (mm_dec dk_X11_best 10 rfl) rfl ?_
    refine mm_getr (t := 14) C fl_X11_28 (mm_dec dk_X11_best 11 rfl) rfl rfl (mm_ref i0 rfl) ?_
    refine mm_iload_n C (mm_dec dk_X11_best 12 rfl) rfl ?_
    refine mm_cVi (rest := []) C1 ev_X11_220 (mm_dec dk_X11_best 13 rfl) (c_X2_isFree x.2.1 hl (d - 1) (by omega) h i0 p1 ⟨by omega, by omega⟩) rfl rfl (Nat.le_of_ble_eq_true rfl) ⟨by decide, by decide⟩ rfl (fun r25 h25c hp25 => ?_) (fun _ _ q => q.elim)
    obtain ⟨z25, y25⟩ := hp25
    rw [z25, y25]
    have g4 : 0 ≤ (h.2.1 17 p1) ∧ (h.2.1 17 p1) ≤ 1 := i0.2.1 17 p1
    refine mm_if_ne (tgt := 33) C (mm_dec dk_X11_best 14 rfl) (by decide) (fun c28 => ?_) (fun c28 => ?_)
    · skip
      refine mm_aload_n C (mm_dec dk_X11_best 17 rfl) rfl ?_
      refine mm_getr (t := 58) C fl_X11_78 (mm_dec dk_X11_best 18 rfl) rfl rfl (mm_ref i0 rfl) ?_
      refine mm_iload_n C (mm_dec dk_X11_best 19 rfl) rfl ?_
      refine mm_iload_n C (mm_dec dk_X11_best 20 rfl) rfl ?_
      refine mm_cVi (rest := []) C1 ev_X11_357 (mm_dec dk_X11_best 21 rfl) (c_X0_search_t x.2.1 hl (d - 1) (by omega) h i0 p1 p2 ⟨by omega, by omega⟩ (by omega)) rfl rfl (Nat.le_of_ble_eq_true rfl) ⟨by decide, by decide⟩ rfl (fun r39 h39c hp39 => ?_) (fun _ _ q => q.elim)
      obtain ⟨b39, i39c, g39c⟩ := hp39
      have f39c : mm_fr [(7, 7), (7, 8), (58, 6), (58, 7), (58, 8), (58, 9), (58, 10)] [8, 9, 10, 11, 59, 60, 125] h h39c := mm_fr_tr f0 g39c (by decide +kernel)
      have q39c_6 : h39c.1 14 8 = h.1 14 8 := g39c.1 14 8 (by decide)
      exact mm_iret C T (mm_dec dk_X11_best 22 rfl) (by decide : 1 ≤ 2) (by decide : 6 ≤ 12) ⟨_, rfl, ⟨⟨by omega, by omega⟩, i39c, f39c⟩⟩
    · skip
      refine mm_iconst C (mm_dec dk_X11_best 15 rfl) ⟨by decide, by decide⟩ ?_
      exact mm_iret C T (mm_dec dk_X11_best 16 rfl) (by decide : 1 ≤ 2) (by decide : 6 ≤ 12) ⟨_, rfl, ⟨⟨by omega, by omega⟩, i0, f0⟩⟩
  · skip
    exact mm_throwXW C8 T htb th_iae (i := 17) rfl (mm_dec dk_X11_best 5 rfl) (mm_dec dk_X11_best 6 rfl) (mm_dec dk_X11_best 7 rfl) (mm_dec dk_X11_best 8 rfl) (mm_dec dk_X11_best 9 rfl) (Nat.le_of_ble_eq_true rfl) ⟨by decide, by decide⟩ ⟨by decide, by decide⟩ (Or.inr ⟨rfl, rfl⟩)
set_option maxRecDepth 100000 in
set_option maxHeartbeats 4000000 in
theorem c_X0_search (l : Launch) (hl : l.stackTraces = false) (d : Nat) (hd : 5 ≤ d) (h : mH) (i0 : mm_inv h) (p1 : Int) (p2 : Int) (bp1 : 0 ≤ p1 ∧ p1 ≤ 7) : mm_Met l d yX0_search cX0_search 4 (some .int) [mR 58, mI p1, mI p2] h (mm_pi fun r h2 => (-2147483648 ≤ r ∧ r ≤ 2147483647) ∧ mm_inv h2 ∧ mm_fr [(7, 7), (7, 8), (58, 5), (58, 6), (58, 7), (58, 8), (58, 9), (58, 10)] [8, 9, 10, 11, 59, 60, 125] h h2) mm_nx 1 49152 := by
  refine mm_ofW (ls := [mR 58, mI p1, mI p2, mU]) hl (by decide) rfl (Nat.le_of_ble_eq_true rfl) ?_
  intro x hxl C T hnm htb
  subst hxl
  have C1 := mm_OK_le (d' := d - 1 + 1) (by omega) C
  refine mm_rng (fun hr _ => ?_)
  have ap1 : -2147483648 ≤ p1 ∧ p1 < 2147483648 := mm_ok_at hr (i := 1) rfl
  have ap2 : -2147483648 ≤ p2 ∧ p2 < 2147483648 := mm_ok_at hr (i := 2) rfl
  have f0 : mm_fr [(7, 7), (7, 8), (58, 5), (58, 6), (58, 7), (58, 8), (58, 9), (58, 10)] [8, 9, 10, 11, 59, 60, 125] h h := mm_fr_rf
  refine mm_aload_n C (mm_dec dk_X0_search 0 rfl) rfl ?_
  refine mm_aload_n C (mm_dec dk_X0_search 1 rfl) rfl ?_
  refine mm_getr (t := 14) C fl_X0_46 (mm_dec dk_X0_search 2 rfl) rfl rfl (mm_ref i0 rfl) ?_
  refine mm_iload_n C (mm_dec dk_X0_search 3 rfl) rfl ?_
  refine mm_iconst C (mm_dec dk_X0_search 4 rfl) ⟨by decide, by decide⟩ ?_
  refine mm_aload_n C (mm_dec dk_X0_search 5 rfl) rfl ?_
  refine mm_getr (t := 60) C fl_X0_15 (mm_dec dk_X0_search 6 rfl) rfl rfl (mm_ref i0 rfl) ?_
  refine mm_cVi (rest := [mR 58]) C1 ev_X0_50 (mm_dec dk_X0_search 7 rfl) (c_X2_fillRow_60 x.2.1 hl (d - 1) (by omega) h i0 p1 0 ⟨by omega, by omega⟩ ⟨by omega, by omega⟩) rfl rfl (Nat.le_of_ble_eq_true rfl) ⟨by decide, by decide⟩ rfl (fun r11 h11c hp11 => ?_) (fun _ _ q => q.elim)
  obtain ⟨b11, i11c, g11c⟩ := hp11
  have f11c : mm_fr [(7, 7), (7, 8), (58, 5), (58, 6), (58, 7), (58, 8), (58, 9), (58, 10)] [8, 9, 10, 11, 59, 60, 125] h h11c := mm_fr_tr f0 g11c (by decide +kernel)
  refine mm_puti C fl_X0_21 (mm_dec dk_X0_search 8 rfl) rfl rfl rfl (Or.inl ⟨rfl, rfl⟩) ?_
  have i2 : mm_inv (mm_pf h11c 58 6 r11) := mm_inv_pf i11c (show 0 ≤ r11 ∧ r11 ≤ 12 from ⟨by omega, by omega⟩) (by decide)
  have f2 : mm_fr [(7, 7), (7, 8), (58, 5), (58, 6), (58, 7), (58, 8), (58, 9), (58, 10)] [8, 9, 10, 11, 59, 60, 125] h (mm_pf h11c 58 6 r11) := mm_fr_pf f11c (by decide)
  obtain ⟨h2, eh2⟩ : ∃ z, z = mm_pf h11c 58 6 r11 := ⟨_, rfl⟩
  rw [← eh2] at i2 f2 ⊢
  have qh2 : h2.1 58 6 = r11 := by rw [eh2]; exact mm_pf_same _ _ _ _
  refine mm_aload_n C (mm_dec dk_X0_search 9 rfl) rfl ?_
  refine mm_cVv (rest := []) C1 ev_X0_56 (mm_dec dk_X0_search 10 rfl) (c_X0_measureLegs x.2.1 hl (d - 1) (by omega) h2 i2 ) rfl rfl (Nat.le_of_ble_eq_true rfl) ⟨by decide, by decide⟩ rfl (fun h18c hp18 => ?_) (fun _ _ q => q.elim)
  obtain ⟨i18c, g18c⟩ := hp18
  have f18c : mm_fr [(7, 7), (7, 8), (58, 5), (58, 6), (58, 7), (58, 8), (58, 9), (58, 10)] [8, 9, 10, 11, 59, 60, 125] h h18c := mm_fr_tr f2 g18c (by decide +kernel)
  have q18c_3 : h18c.1 58 6 = h2.1 58 6 := g18c.1 58 6 (by decide)
  refine mm_aload_n C (mm_dec dk_X0_search 11 rfl) rfl ?_
  refine mm_getr (t := 59) C fl_X0_11 (mm_dec dk_X0_search 12 rfl) rfl rfl (mm_ref i18c rfl) ?_
  refine mm_sipush C (mm_dec dk_X0_search 13 rfl) ⟨by decide, by decide⟩ ?_
  refine mm_iald C (mm_dec dk_X0_search 14 rfl) rfl (by omega) (by omega) ?_
  have g4 : -2147483648 ≤ (h18c.2.1 59 168) ∧ (h18c.2.1 59 168) ≤ 2147483647 := i18c.2.1 59 168
  refine mm_istore_nL (ls2 := [mR 58, mI p1, mI p2, mI (h18c.2.1 59 168)]) C (mm_dec dk_X0_search 15 rfl) (by decide) rfl ?_
  refine mm_iload_n C (mm_dec dk_X0_search 16 rfl) rfl ?_
  refine mm_iconst C (mm_dec dk_X0_search 17 rfl) ⟨by decide, by decide⟩ ?_
  have J40 : mm_W x 0 0 40 [mU, mU, mU, mU] [] h18c := by
    refine mm_iconst C (mm_dec dk_X0_search 22 rfl) ⟨by decide, by decide⟩ ?_
    exact mm_iret C T (mm_dec dk_X0_search 23 rfl) (by decide : 0 ≤ 1) (by decide : 0 ≤ 49152) ⟨_, rfl, ⟨⟨by omega, by omega⟩, i18c, f18c⟩⟩
  refine mm_icmp_eq (tgt := 40) C (mm_dec dk_X0_search 18 rfl) (by decide) (fun c32 => ?_) (fun c32 => ?_)
  · skip
    refine mm_fgt 0 ?_
    refine mm_fgt 1 ?_
    refine mm_fgt 2 ?_
    refine mm_fgt 3 ?_
    exact J40
  · skip
    refine mm_iload_n C (mm_dec dk_X0_search 19 rfl) rfl ?_
    refine mm_iload_n C (mm_dec dk_X0_search 20 rfl) rfl ?_
    refine mm_icmp_le (tgt := 42) C (mm_dec dk_X0_search 21 rfl) (by decide) (fun c37 => ?_) (fun c37 => ?_)
    · skip
      refine mm_aload_n C (mm_dec dk_X0_search 24 rfl) rfl ?_
      refine mm_iconst C (mm_dec dk_X0_search 25 rfl) ⟨by decide, by decide⟩ ?_
      refine mm_puti C fl_X0_34 (mm_dec dk_X0_search 26 rfl) rfl rfl rfl (Or.inr ⟨rfl, rfl, by omega⟩) ?_
      have i4 : mm_inv (mm_pf h18c 58 10 1) := mm_inv_pf i18c (show 0 ≤ 1 ∧ 1 ≤ 1 from ⟨by omega, by omega⟩) (by decide)
      have f4 : mm_fr [(7, 7), (7, 8), (58, 5), (58, 6), (58, 7), (58, 8), (58, 9), (58, 10)] [8, 9, 10, 11, 59, 60, 125] h (mm_pf h18c 58 10 1) := mm_fr_pf f18c (by decide)
      obtain ⟨h4, eh4⟩ : ∃ z, z = mm_pf h18c 58 10 1 := ⟨_, rfl⟩
      rw [← eh4] at i4 f4 ⊢
      have qh4 : h4.1 58 10 = 1 := by rw [eh4]; exact mm_pf_same _ _ _ _
      have qh4_5 : h4.1 58 6 = h18c.1 58 6 := by rw [eh4]; exact mm_pf_ne _ _ (by decide)
      refine mm_aload_n C (mm_dec dk_X0_search 27 rfl) rfl ?_
      refine mm_iconst C (mm_dec dk_X0_search 28 rfl) ⟨by decide, by decide⟩ ?_
      refine mm_puti C fl_X0_31 (mm_dec dk_X0_search 29 rfl) rfl rfl rfl (Or.inl ⟨rfl, rfl⟩) ?_
      have i5 : mm_inv (mm_pf h4 58 9 0) := mm_inv_pf i4 (show -2147483648 ≤ 0 ∧ 0 ≤ 2147483647 from ⟨by omega, by omega⟩) (by decide)
      have f5 : mm_fr [(7, 7), (7, 8), (58, 5), (58, 6), (58, 7), (58, 8), (58, 9), (58, 10)] [8, 9, 10, 11, 59, 60, 125] h (mm_pf h4 58 9 0) := mm_fr_pf f4 (by decide)
      obtain ⟨h5, eh5⟩ : ∃ z, z = mm_pf h4 58 9 0 := ⟨_, rfl⟩
      rw [← eh5] at i5 f5 ⊢
      have qh5 : h5.1 58 9 = 0 := by rw [eh5]; exact mm_pf_same _ _ _ _
      have qh5_6 : h5.1 58 6 = h4.1 58 6 := by rw [eh5]; exact mm_pf_ne _ _ (by decide)
      have qh5_7 : h5.1 58 10 = h4.1 58 10 := by rw [eh5]; exact mm_pf_ne _ _ (by decide)
      refine mm_aload_n C (mm_dec dk_X0_search 30 rfl) rfl ?_
      refine mm_iconst C (mm_dec dk_X0_search 31 rfl) ⟨by decide, by decide⟩ ?_
      refine mm_puti C fl_X0_25 (mm_dec dk_X0_search 32 rfl) rfl rfl rfl (Or.inl ⟨rfl, rfl⟩) ?_
      have i6 : mm_inv (mm_pf h5 58 7 0) := mm_inv_pf i5 (show -2147483648 ≤ 0 ∧ 0 ≤ 2147483647 from ⟨by omega, by omega⟩) (by decide)
      have f6 : mm_fr [(7, 7), (7, 8), (58, 5), (58, 6), (58, 7), (58, 8), (58, 9), (58, 10)] [8, 9, 10, 11, 59, 60, 125] h (mm_pf h5 58 7 0) := mm_fr_pf f5 (by decide)
      obtain ⟨h6, eh6⟩ : ∃ z, z = mm_pf h5 58 7 0 := ⟨_, rfl⟩
      rw [← eh6] at i6 f6 ⊢
      have qh6 : h6.1 58 7 = 0 := by rw [eh6]; exact mm_pf_same _ _ _ _
      have qh6_8 : h6.1 58 6 = h5.1 58 6 := by rw [eh6]; exact mm_pf_ne _ _ (by decide)
      have qh6_9 : h6.1 58 9 = h5.1 58 9 := by rw [eh6]; exact mm_pf_ne _ _ (by decide)
      have qh6_10 : h6.1 58 10 = h5.1 58 10 := by rw [eh6]; exact mm_pf_ne _ _ (by decide)
      refine mm_aload_n C (mm_dec dk_X0_search 33 rfl) rfl ?_
      refine mm_iload_n C (mm_dec dk_X0_search 34 rfl) rfl ?_
      refine mm_puti C fl_X0_28 (mm_dec dk_X0_search 35 rfl) rfl rfl rfl (Or.inl ⟨rfl, rfl⟩) ?_
      have i7 : mm_inv (mm_pf h6 58 8 (h18c.2.1 59 168)) := mm_inv_pf i6 (show -2147483648 ≤ (h18c.2.1 59 168) ∧ (h18c.2.1 59 168) ≤ 2147483647 from ⟨by omega, by omega⟩) (by decide)
      have f7 : mm_fr [(7, 7), (7, 8), (58, 5), (58, 6), (58, 7), (58, 8), (58, 9), (58, 10)] [8, 9, 10, 11, 59, 60, 125] h (mm_pf h6 58 8 (h18c.2.1 59 168)) := mm_fr_pf f6 (by decide)
      obtain ⟨h7, eh7⟩ : ∃ z, z = mm_pf h6 58 8 (h18c.2.1 59 168) := ⟨_, rfl⟩
      rw [← eh7] at i7 f7 ⊢
      have qh7 : h7.1 58 8 = (h18c.2.1 59 168) := by rw [eh7]; exact mm_pf_same _ _ _ _
      have qh7_11 : h7.1 58 6 = h6.1 58 6 := by rw [eh7]; exact mm_pf_ne _ _ (by decide)
      have qh7_12 : h7.1 58 7 = h6.1 58 7 := by rw [eh7]; exact mm_pf_ne _ _ (by decide)
      have qh7_13 : h7.1 58 9 = h6.1 58 9 := by rw [eh7]; exact mm_pf_ne _ _ (by decide)
      have qh7_14 : h7.1 58 10 = h6.1 58 10 := by rw [eh7]; exact mm_pf_ne _ _ (by decide)
      refine mm_aload_n C (mm_dec dk_X0_search 36 rfl) rfl ?_
      refine mm_iload_n C (mm_dec dk_X0_search 37 rfl) rfl ?_
      refine mm_cVv (rest := []) C1 ev_X0_59 (mm_dec dk_X0_search 38 rfl) (c_X0_goThroughSets x.2.1 hl (d - 1) (by omega) h7 i7 p2) rfl rfl (Nat.le_of_ble_eq_true rfl) ⟨by decide, by decide⟩ rfl (fun h64c hp64 => ?_) (fun _ _ q => q.elim)
      obtain ⟨i64c, g64c⟩ := hp64
      have f64c : mm_fr [(7, 7), (7, 8), (58, 5), (58, 6), (58, 7), (58, 8), (58, 9), (58, 10)] [8, 9, 10, 11, 59, 60, 125] h h64c := mm_fr_tr f7 g64c (by decide +kernel)
      have q64c_16 : h64c.1 58 6 = h7.1 58 6 := g64c.1 58 6 (by decide)
      have q64c_17 : h64c.1 58 10 = h7.1 58 10 := g64c.1 58 10 (by decide)
      refine mm_aload_n C (mm_dec dk_X0_search 39 rfl) rfl ?_
      refine mm_geti C fl_X0_25 (mm_dec dk_X0_search 40 rfl) rfl rfl (Or.inl rfl) ?_
      have g18 : -2147483648 ≤ (h64c.1 58 7) ∧ (h64c.1 58 7) ≤ 2147483647 := i64c.1 58 7
      exact mm_iret C T (mm_dec dk_X0_search 41 rfl) (by decide : 1 ≤ 1) (by decide : 49152 ≤ 49152) ⟨_, rfl, ⟨⟨by omega, by omega⟩, i64c, f64c⟩⟩
    · skip
      refine mm_fgt 0 ?_
      refine mm_fgt 1 ?_
      refine mm_fgt 2 ?_
      refine mm_fgt 3 ?_
      exact J40
set_option maxRecDepth 100000 in
set_option maxHeartbeats 4000000 in
theorem c_X11_best (l : Launch) (hl : l.stackTraces = false) (d : Nat) (hd : 9 ≤ d) (h : mH) (i0 : mm_inv h) (p1 : Int) (p2 : Int) : mm_Met l d yX11_best cX11_best 3 (some .int) [mR 0, mI p1, mI p2] h (mm_pi fun r h2 => (-2147483648 ≤ r ∧ r ≤ 2147483647) ∧ mm_inv h2 ∧ mm_fr [(7, 7), (7, 8), (58, 5), (58, 6), (58, 7), (58, 8), (58, 9), (58, 10)] [8, 9, 10, 11, 59, 60, 125] h h2) (mm_xp h) 2 49158 := by
  refine mm_ofW (ls := [mR 0, mI p1, mI p2]) hl (by decide) rfl (Nat.le_of_ble_eq_true rfl) ?_
  intro x hxl C T hnm htb
  subst hxl
  have C1 := mm_OK_le (d' := d - 1 + 1) (by omega) C
  have C8 := mm_OK_le (d' := d - 8 + 8) (by omega) C
  refine mm_rng (fun hr _ => ?_)
  have ap1 : -2147483648 ≤ p1 ∧ p1 < 2147483648 := mm_ok_at hr (i := 1) rfl
  have ap2 : -2147483648 ≤ p2 ∧ p2 < 2147483648 := mm_ok_at hr (i := 2) rfl
  have f0 : mm_fr [(7, 7), (7, 8), (58, 5), (58, 6), (58, 7), (58, 8), (58, 9), (58, 10)] [8, 9, 10, 11, 59, 60, 125] h h := mm_fr_rf
  refine mm_aload_n C (mm_dec dk_X11_best 0 rfl) rfl ?_
  refine mm_iload_n C (mm_dec dk_X11_best 1 rfl) rfl ?_
  refine mm_cVv (rest := []) C1 ev_X11_207 (mm_dec dk_X11_best 2 rfl) (c_X11_needCourse x.2.1 hl (d - 1) (by omega) h i0 p1) rfl rfl (Nat.le_of_ble_eq_true rfl) ⟨by decide, by decide⟩ rfl (fun h2c hp2 => ?_) (fun E hx q => mm_out C T htb (by decide) (by decide) (by rcases q with ⟨q1, q2⟩ | ⟨q1, q2⟩ <;> first | exact Or.inl ⟨q1, q2⟩ | exact Or.inr ⟨q1, q2⟩))
  obtain ⟨z2, k2_0, k2_1⟩ := hp2
  rw [z2]
  have g2 : 0 ≤ (h.1 14 8) ∧ (h.1 14 8) ≤ 8 := i0.1 14 8
  refine mm_iload_n C (mm_dec dk_X11_best 3 rfl) rfl ?_
  refine mm_if_ge (tgt := 20) C (mm_dec dk_X11_best 4 rfl) (by decide) (fun c6 => ?_) (fun c6 => ?_)
  · skip
    refine mm_aload_n C (mm_dec dk_X11_best 10 rfl) rfl ?_
    refine mm_getr (t := 14) C fl_X11_28 (mm_dec dk_X11_best 11 rfl) rfl rfl (mm_ref i0 rfl) ?_
    refine mm_iload_n C (mm_dec dk_X11_best 12 rfl) rfl ?_
    refine mm_cVi (rest := []) C1 ev_X11_220 (mm_dec dk_X11_best 13 rfl) (c_X2_isFree x.2.1 hl (d - 1) (by omega) h i0 p1 ⟨by omega, by omega⟩) rfl rfl (Nat.le_of_ble_eq_true rfl) ⟨by decide, by decide⟩ rfl (fun r25 h25c hp25 => ?_) (fun _ _ q => q.elim)
    obtain ⟨z25, y25⟩ := hp25
    rw [z25, y25]
    have g4 : 0 ≤ (h.2.1 17 p1) ∧ (h.2.1 17 p1) ≤ 1 := i0.2.1 17 p1
    refine mm_if_ne (tgt := 33) C (mm_dec dk_X11_best 14 rfl) (by decide) (fun c28 => ?_) (fun c28 => ?_)
    · skip
      refine mm_aload_n C (mm_dec dk_X11_best 17 rfl) rfl ?_
      refine mm_getr (t := 58) C fl_X11_78 (mm_dec dk_X11_best 18 rfl) rfl rfl (mm_ref i0 rfl) ?_
      refine mm_iload_n C (mm_dec dk_X11_best 19 rfl) rfl ?_
      refine mm_iload_n C (mm_dec dk_X11_best 20 rfl) rfl ?_
      refine mm_cVi (rest := []) C1 ev_X11_357 (mm_dec dk_X11_best 21 rfl) (c_X0_search x.2.1 hl (d - 1) (by omega) h i0 p1 p2 ⟨by omega, by omega⟩) rfl rfl (Nat.le_of_ble_eq_true rfl) ⟨by decide, by decide⟩ rfl (fun r39 h39c hp39 => ?_) (fun _ _ q => q.elim)
      obtain ⟨b39, i39c, g39c⟩ := hp39
      have f39c : mm_fr [(7, 7), (7, 8), (58, 5), (58, 6), (58, 7), (58, 8), (58, 9), (58, 10)] [8, 9, 10, 11, 59, 60, 125] h h39c := mm_fr_tr f0 g39c (by decide +kernel)
      have q39c_6 : h39c.1 14 8 = h.1 14 8 := g39c.1 14 8 (by decide)
      exact mm_iret C T (mm_dec dk_X11_best 22 rfl) (by decide : 2 ≤ 2) (by decide : 49158 ≤ 49158) ⟨_, rfl, ⟨⟨by omega, by omega⟩, i39c, f39c⟩⟩
    · skip
      refine mm_iconst C (mm_dec dk_X11_best 15 rfl) ⟨by decide, by decide⟩ ?_
      exact mm_iret C T (mm_dec dk_X11_best 16 rfl) (by decide : 1 ≤ 2) (by decide : 6 ≤ 49158) ⟨_, rfl, ⟨⟨by omega, by omega⟩, i0, f0⟩⟩
  · skip
    exact mm_throwXW C8 T htb th_iae (i := 17) rfl (mm_dec dk_X11_best 5 rfl) (mm_dec dk_X11_best 6 rfl) (mm_dec dk_X11_best 7 rfl) (mm_dec dk_X11_best 8 rfl) (mm_dec dk_X11_best 9 rfl) (Nat.le_of_ble_eq_true rfl) ⟨by decide, by decide⟩ ⟨by decide, by decide⟩ (Or.inr ⟨rfl, rfl⟩)
