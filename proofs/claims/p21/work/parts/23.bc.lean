set_option maxRecDepth 100000 in
set_option maxHeartbeats 4000000 in
theorem lw_c3 {x : mX} {L : Nat} {xs : Nat → Int32} (C : mm_OK 60 601024 7293034 code RL 8 ret x) (X : mm_scr x L xs) (hl : x.2.1.stackTraces = false) (hL : L ≤ 3072) (i : Int) (hi : 0 ≤ i ∧ i + 6 ≤ L) (h : mH) (i0 : mm_inv h) (r0 : mm_RO h) (rl0 : mm_Rl i h) (K : mm_K x i) : mm_W x (mm_aA i h) (mm_bB i h) 321 (mm_lls i) [] h := by
  have zl := mm_zf_le h
  have ea : mm_aA i h = 200 + i.toNat + (mm_zf h).1 := rfl
  have eb : mm_bB i h = 90000 + 6 * i.toNat + (mm_zf h).2 := rfl
  obtain ⟨rs0, rs1, rs2, rs3, rs4, rs5, rs6, rs7, rs8, rs9, rs10, rs11, rs12, ra0, ra1, ra2, ra3, ra4, ra5, ra6, ra7, ra8, ra9, ra10, ra11, ra12, ra13, ra14, ra15, ra16, ra17, ra18, ra19, ra20, ra21, ra22, ra23, ra24, ra25, ra26, ra27, ra28, ra29, ra30, ra31, ra32, ra33, ra34, ra35⟩ := rl0
  refine mm_aload_n C (mm_dec dk_law2 8 rfl) rfl ?_
  refine mm_aload_n C (mm_dec dk_law2 9 rfl) rfl ?_
  refine mm_iload C (mm_dec dk_law2 10 rfl) rfl ?_
  refine mm_iconst C (mm_dec dk_law2 11 rfl) ⟨by decide, by decide⟩ ?_
  refine mm_iadd C (mm_dec dk_law2 12 rfl) ⟨by omega, by omega⟩ ?_
  refine mm_sld C X (mm_dec dk_law2 13 rfl) (by omega) (by omega) ?_
  refine mm_aload_n C (mm_dec dk_law2 14 rfl) rfl ?_
  refine mm_iload C (mm_dec dk_law2 15 rfl) rfl ?_
  refine mm_iconst C (mm_dec dk_law2 16 rfl) ⟨by decide, by decide⟩ ?_
  refine mm_iadd C (mm_dec dk_law2 17 rfl) ⟨by omega, by omega⟩ ?_
  refine mm_sld C X (mm_dec dk_law2 18 rfl) (by omega) (by omega) ?_
  refine mm_aload_n C (mm_dec dk_law2 19 rfl) rfl ?_
  refine mm_iload C (mm_dec dk_law2 20 rfl) rfl ?_
  refine mm_iconst C (mm_dec dk_law2 21 rfl) ⟨by decide, by decide⟩ ?_
  refine mm_iadd C (mm_dec dk_law2 22 rfl) ⟨by omega, by omega⟩ ?_
  refine mm_sld C X (mm_dec dk_law2 23 rfl) (by omega) (by omega) ?_
  refine mm_aload_n C (mm_dec dk_law2 24 rfl) rfl ?_
  refine mm_iload C (mm_dec dk_law2 25 rfl) rfl ?_
  refine mm_iconst C (mm_dec dk_law2 26 rfl) ⟨by decide, by decide⟩ ?_
  refine mm_iadd C (mm_dec dk_law2 27 rfl) ⟨by omega, by omega⟩ ?_
  refine mm_sld C X (mm_dec dk_law2 28 rfl) (by omega) (by omega) ?_
  refine mm_if_eq (tgt := 353) C (mm_dec dk_law2 29 rfl) (by decide) (fun ca1 => ?_) (fun ca1 => ?_)
  · skip
    refine mm_iconst C (mm_dec dk_law2 32 rfl) ⟨by decide, by decide⟩ ?_
    refine mm_aload_n C (mm_dec dk_law2 33 rfl) rfl ?_
    refine mm_cHi (d := 59) (rest := []) C mh_L_wall ml_L_123 sm_L_wall (mm_dec dk_law2 34 rfl) (c_L_wall_q x.2.1 hl 59 (by decide) h i0 (mm_sc xs (i + 1)) (mm_sc xs (i + 2)) (mm_sc xs (i + 3)) 0 ⟨by omega, by omega⟩) rfl (Nat.le_of_ble_eq_true rfl) ⟨by omega, by omega⟩ rfl (fun r1 h1 hp1 => ?_)
    obtain ⟨b1, i1, g1, y1_0, y1_1⟩ := hp1
    have q1_1_5 : h1.1 1 5 = h.1 1 5 := g1.1 1 5 (by decide)
    have q1_66_1 : h1.1 66 1 = h.1 66 1 := g1.1 66 1 (by decide)
    have q1_1_6 : h1.1 1 6 = h.1 1 6 := g1.1 1 6 (by decide)
    have q1_66_2 : h1.1 66 2 = h.1 66 2 := g1.1 66 2 (by decide)
    have q1_14_8 : h1.1 14 8 = h.1 14 8 := g1.1 14 8 (by decide)
    have q1_66_22 : h1.1 66 22 = h.1 66 22 := g1.1 66 22 (by decide)
    have q1_22_8 : h1.1 22 8 = h.1 22 8 := g1.1 22 8 (by decide)
    have q1_66_23 : h1.1 66 23 = h.1 66 23 := g1.1 66 23 (by decide)
    have q1_14_7 : h1.1 14 7 = h.1 14 7 := g1.1 14 7 (by decide)
    have q1_66_21 : h1.1 66 21 = h.1 66 21 := g1.1 66 21 (by decide)
    have q1_22_9 : h1.1 22 9 = h.1 22 9 := g1.1 22 9 (by decide)
    have q1_66_24 : h1.1 66 24 = h.1 66 24 := g1.1 66 24 (by decide)
    have q1_0_12 : h1.1 0 12 = h.1 0 12 := g1.1 0 12 (by decide)
    have q1_66_56 : h1.1 66 56 = h.1 66 56 := g1.1 66 56 (by decide)
    have q1_0_14 : h1.1 0 14 = h.1 0 14 := g1.1 0 14 (by decide)
    have q1_66_58 : h1.1 66 58 = h.1 66 58 := g1.1 66 58 (by decide)
    have q1_30_6 : h1.1 30 6 = h.1 30 6 := g1.1 30 6 (by decide)
    have q1_66_40 : h1.1 66 40 = h.1 66 40 := g1.1 66 40 (by decide)
    have q1_30_12 : h1.1 30 12 = h.1 30 12 := g1.1 30 12 (by decide)
    have q1_66_82 : h1.1 66 82 = h.1 66 82 := g1.1 66 82 (by decide)
    have q1_0_13 : h1.1 0 13 = h.1 0 13 := g1.1 0 13 (by decide)
    have q1_66_41 : h1.1 66 41 = h.1 66 41 := g1.1 66 41 (by decide)
    have q1_1_7 : h1.1 1 7 = h.1 1 7 := g1.1 1 7 (by decide)
    have q1_66_3 : h1.1 66 3 = h.1 66 3 := g1.1 66 3 (by decide)
    have q1_66_9 : h1.1 66 9 = h.1 66 9 := g1.1 66 9 (by decide)
    have q1_66_10 : h1.1 66 10 = h.1 66 10 := g1.1 66 10 (by decide)
    have q1_1_8 : h1.1 1 8 = h.1 1 8 := g1.1 1 8 (by decide)
    have q1_66_11 : h1.1 66 11 = h.1 66 11 := g1.1 66 11 (by decide)
    have q1_66_12 : h1.1 66 12 = h.1 66 12 := g1.1 66 12 (by decide)
    have q1_66_67 : h1.1 66 67 = h.1 66 67 := g1.1 66 67 (by decide)
    have q1_66_68 : h1.1 66 68 = h.1 66 68 := g1.1 66 68 (by decide)
    have q1_30_13 : h1.1 30 13 = h.1 30 13 := g1.1 30 13 (by decide)
    have q1_66_91 : h1.1 66 91 = h.1 66 91 := g1.1 66 91 (by decide)
    have q1_42_3 : h1.1 42 3 = h.1 42 3 := g1.1 42 3 (by decide)
    refine mm_istoreL (ls2 := [mR 3000, mR 0, mR 66, mR 124, mI i, mI r1, mU, mU]) C (mm_dec dk_law2 35 rfl) (by decide) rfl ?_
    refine mm_aload_n C (mm_dec dk_law2 36 rfl) rfl ?_
    refine mm_aload_n C (mm_dec dk_law2 37 rfl) rfl ?_
    refine mm_iload C (mm_dec dk_law2 38 rfl) rfl ?_
    refine mm_iconst C (mm_dec dk_law2 39 rfl) ⟨by decide, by decide⟩ ?_
    refine mm_iadd C (mm_dec dk_law2 40 rfl) ⟨by omega, by omega⟩ ?_
    refine mm_sld C X (mm_dec dk_law2 41 rfl) (by omega) (by omega) ?_
    refine mm_aload_n C (mm_dec dk_law2 42 rfl) rfl ?_
    refine mm_iload C (mm_dec dk_law2 43 rfl) rfl ?_
    refine mm_iconst C (mm_dec dk_law2 44 rfl) ⟨by decide, by decide⟩ ?_
    refine mm_iadd C (mm_dec dk_law2 45 rfl) ⟨by omega, by omega⟩ ?_
    refine mm_sld C X (mm_dec dk_law2 46 rfl) (by omega) (by omega) ?_
    refine mm_aload_n C (mm_dec dk_law2 47 rfl) rfl ?_
    refine mm_iload C (mm_dec dk_law2 48 rfl) rfl ?_
    refine mm_iconst C (mm_dec dk_law2 49 rfl) ⟨by decide, by decide⟩ ?_
    refine mm_iadd C (mm_dec dk_law2 50 rfl) ⟨by omega, by omega⟩ ?_
    refine mm_sld C X (mm_dec dk_law2 51 rfl) (by omega) (by omega) ?_
    refine mm_aload_n C (mm_dec dk_law2 52 rfl) rfl ?_
    refine mm_iload C (mm_dec dk_law2 53 rfl) rfl ?_
    refine mm_iconst C (mm_dec dk_law2 54 rfl) ⟨by decide, by decide⟩ ?_
    refine mm_iadd C (mm_dec dk_law2 55 rfl) ⟨by omega, by omega⟩ ?_
    refine mm_sld C X (mm_dec dk_law2 56 rfl) (by omega) (by omega) ?_
    refine mm_if_eq (tgt := 392) C (mm_dec dk_law2 57 rfl) (by decide) (fun ca2 => ?_) (fun ca2 => ?_)
    · skip
      refine mm_iconst C (mm_dec dk_law3 0 rfl) ⟨by decide, by decide⟩ ?_
      refine mm_cVi (d := 59) (rest := []) C ev_L_126 (mm_dec dk_law3 1 rfl) (c_X12_wall_q x.2.1 hl 59 (by decide) h1 i1 (mm_sc xs (i + 1)) (mm_sc xs (i + 2)) (mm_sc xs (i + 3)) 0 ⟨by omega, by omega⟩) rfl rfl (Nat.le_of_ble_eq_true rfl) ⟨by omega, by omega⟩ rfl (fun r2 h2 hp2 => ?_) (fun _ _ q => q.elim)
      obtain ⟨b2, i2, g2, y2_0, y2_1⟩ := hp2
      have q2_1_5 : h2.1 1 5 = h1.1 1 5 := g2.1 1 5 (by decide)
      have q2_66_1 : h2.1 66 1 = h1.1 66 1 := g2.1 66 1 (by decide)
      have q2_1_6 : h2.1 1 6 = h1.1 1 6 := g2.1 1 6 (by decide)
      have q2_66_2 : h2.1 66 2 = h1.1 66 2 := g2.1 66 2 (by decide)
      have q2_14_8 : h2.1 14 8 = h1.1 14 8 := g2.1 14 8 (by decide)
      have q2_66_22 : h2.1 66 22 = h1.1 66 22 := g2.1 66 22 (by decide)
      have q2_22_8 : h2.1 22 8 = h1.1 22 8 := g2.1 22 8 (by decide)
      have q2_66_23 : h2.1 66 23 = h1.1 66 23 := g2.1 66 23 (by decide)
      have q2_14_7 : h2.1 14 7 = h1.1 14 7 := g2.1 14 7 (by decide)
      have q2_66_21 : h2.1 66 21 = h1.1 66 21 := g2.1 66 21 (by decide)
      have q2_22_9 : h2.1 22 9 = h1.1 22 9 := g2.1 22 9 (by decide)
      have q2_66_24 : h2.1 66 24 = h1.1 66 24 := g2.1 66 24 (by decide)
      have q2_0_12 : h2.1 0 12 = h1.1 0 12 := g2.1 0 12 (by decide)
      have q2_66_56 : h2.1 66 56 = h1.1 66 56 := g2.1 66 56 (by decide)
      have q2_0_14 : h2.1 0 14 = h1.1 0 14 := g2.1 0 14 (by decide)
      have q2_66_58 : h2.1 66 58 = h1.1 66 58 := g2.1 66 58 (by decide)
      have q2_30_6 : h2.1 30 6 = h1.1 30 6 := g2.1 30 6 (by decide)
      have q2_66_40 : h2.1 66 40 = h1.1 66 40 := g2.1 66 40 (by decide)
      have q2_30_12 : h2.1 30 12 = h1.1 30 12 := g2.1 30 12 (by decide)
      have q2_66_82 : h2.1 66 82 = h1.1 66 82 := g2.1 66 82 (by decide)
      have q2_0_13 : h2.1 0 13 = h1.1 0 13 := g2.1 0 13 (by decide)
      have q2_66_41 : h2.1 66 41 = h1.1 66 41 := g2.1 66 41 (by decide)
      have q2_1_7 : h2.1 1 7 = h1.1 1 7 := g2.1 1 7 (by decide)
      have q2_66_3 : h2.1 66 3 = h1.1 66 3 := g2.1 66 3 (by decide)
      have q2_66_9 : h2.1 66 9 = h1.1 66 9 := g2.1 66 9 (by decide)
      have q2_66_10 : h2.1 66 10 = h1.1 66 10 := g2.1 66 10 (by decide)
      have q2_1_8 : h2.1 1 8 = h1.1 1 8 := g2.1 1 8 (by decide)
      have q2_66_11 : h2.1 66 11 = h1.1 66 11 := g2.1 66 11 (by decide)
      have q2_66_12 : h2.1 66 12 = h1.1 66 12 := g2.1 66 12 (by decide)
      have q2_66_67 : h2.1 66 67 = h1.1 66 67 := g2.1 66 67 (by decide)
      have q2_66_68 : h2.1 66 68 = h1.1 66 68 := g2.1 66 68 (by decide)
      have q2_30_13 : h2.1 30 13 = h1.1 30 13 := g2.1 30 13 (by decide)
      have q2_66_91 : h2.1 66 91 = h1.1 66 91 := g2.1 66 91 (by decide)
      have q2_42_3 : h2.1 42 3 = h1.1 42 3 := g2.1 42 3 (by decide)
      obtain ⟨f1, k1, hf1, u4, u5⟩ := y1_1
      obtain ⟨f2, k2, hf2, w70, w71⟩ := y2_1
      have rb10 : mm_eq h2 4 70 399 := mm_eq_up ra10 u4 (fun j => g1.2 70 (by decide) j) w70 (fun j => g2.2 4 (by decide) j) (Or.inl (by omega)) (Or.inl (Int.le_refl _))
      have rb11 : mm_eq h2 5 71 399 := mm_eq_up ra11 u5 (fun j => g1.2 71 (by decide) j) w71 (fun j => g2.2 5 (by decide) j) (Or.inl (by omega)) (Or.inl (Int.le_refl _))
      have qa2 : h2.2.1 124 0 = h1.2.1 124 0 := g2.2 124 (by decide) 0
      refine mm_istoreL (ls2 := [mR 3000, mR 0, mR 66, mR 124, mI i, mI r1, mI r2, mU]) C (mm_dec dk_law3 2 rfl) (by decide) rfl ?_
      refine mm_goto (tgt := 1668) C (mm_dec dk_law3 3 rfl) (by decide) ?_
      refine mm_fgt 5 ?_
      refine mm_fgt 6 ?_
      have ze := mm_zf_eq (show h2.1 58 5 = h.1 58 5 from (g2.1 58 5 (by decide)).trans ((g1.1 58 5 (by decide)).trans (rfl)))
      refine mm_widen (k := mm_aA (i + 6) h2) (n := mm_bB (i + 6) h2) (by rw [show mm_aA (i + 6) h2 = 200 + (i + 6).toNat + (mm_zf h).1 from by unfold mm_aA; rw [ze]]; omega) (by rw [show mm_bB (i + 6) h2 = 90000 + 6 * (i + 6).toNat + (mm_zf h).2 from by unfold mm_bB; rw [ze]]; omega) ?_
      exact K h2 i2 (mm_RO_fr (mm_RO_fr (r0) g1 (by decide)) g2 (by decide)) (by unfold mm_Rl; exact ⟨by omega, by omega, by omega, by omega, by omega, by omega, by omega, by omega, by omega, by omega, by omega, by omega, by omega, mm_eq_fr (mm_eq_fr (ra0) g1 (by decide) (by decide)) g2 (by decide) (by decide), mm_eq_fr (mm_eq_fr (ra1) g1 (by decide) (by decide)) g2 (by decide) (by decide), mm_eq_le (mm_eq_fr (mm_eq_fr (ra2) g1 (by decide) (by decide)) g2 (by decide) (by decide)) (by omega), mm_eq_le (mm_eq_fr (mm_eq_fr (ra3) g1 (by decide) (by decide)) g2 (by decide) (by decide)) (by omega), mm_eq_le (mm_eq_fr (mm_eq_fr (ra4) g1 (by decide) (by decide)) g2 (by decide) (by decide)) (by omega), mm_eq_le (mm_eq_fr (mm_eq_fr (ra5) g1 (by decide) (by decide)) g2 (by decide) (by decide)) (by omega), mm_tk_sm (mm_tk_sm (ra6) (fun j => g1.2 18 (by decide) j) (fun j => g1.2 85 (by decide) j) (by omega) (by omega)) (fun j => g2.2 18 (by decide) j) (fun j => g2.2 85 (by decide) j) (by omega) (by omega), mm_cb_sm (mm_cb_sm (ra7) (fun j => g1.2 85 (by decide) j) (by omega) (by omega)) (fun j => g2.2 85 (by decide) j) (by omega) (by omega), mm_fb_sm (mm_fb_sm (ra8) (fun j => g1.2 20 (by decide) j) (by omega)) (fun j => g2.2 20 (by decide) j) (by omega), mm_eq_fr (mm_eq_fr (ra9) g1 (by decide) (by decide)) g2 (by decide) (by decide), rb10, rb11, mm_eq_le (mm_eq_fr (mm_eq_fr (ra12) g1 (by decide) (by decide)) g2 (by decide) (by decide)) (by omega), mm_go_sm (mm_go_sm (ra13) (fun j => g1.2 6 (by decide) j) (by omega) (by omega) (by omega) (by omega) (by omega) (by omega)) (fun j => g2.2 6 (by decide) j) (by omega) (by omega) (by omega) (by omega) (by omega) (by omega), mm_eq_le (mm_eq_fr (mm_eq_fr (ra14) g1 (by decide) (by decide)) g2 (by decide) (by decide)) (by omega), mm_eq_le (mm_eq_fr (mm_eq_fr (ra15) g1 (by decide) (by decide)) g2 (by decide) (by decide)) (by omega), mm_it_sm (mm_it_sm (ra16) (fun j => g1.2 28 (by decide) j) (fun j => g1.2 88 (by decide) j) (by omega)) (fun j => g2.2 28 (by decide) j) (fun j => g2.2 88 (by decide) j) (by omega), mm_br_sm (mm_br_sm (ra17) (fun j => g1.2 21 (by decide) j) (fun j => g1.2 82 (by decide) j) (fun j => g1.2 84 (by decide) j) (fun j => g1.2 19 (by decide) j) (by omega)) (fun j => g2.2 21 (by decide) j) (fun j => g2.2 82 (by decide) j) (fun j => g2.2 84 (by decide) j) (fun j => g2.2 19 (by decide) j) (by omega), mm_gn_sm (mm_gn_sm (ra18)  (by omega) (by omega) (by omega) (by omega) (by omega))  (by omega) (by omega) (by omega) (by omega) (by omega), mm_pc_sm (mm_pc_sm (ra19) (fun j => g1.2 15 (by decide) j) (by omega) (by omega) (by omega)) (fun j => g2.2 15 (by decide) j) (by omega) (by omega) (by omega), mm_bv_sm (mm_bv_sm (ra20) (fun j => g1.2 21 (by decide) j) (fun j => g1.2 19 (by decide) j) (by omega) (by omega)) (fun j => g2.2 21 (by decide) j) (fun j => g2.2 19 (by decide) j) (by omega) (by omega), mm_eq_le (mm_eq_fr (mm_eq_fr (ra21) g1 (by decide) (by decide)) g2 (by decide) (by decide)) (by omega), mm_eq_le (mm_eq_fr (mm_eq_fr (ra22) g1 (by decide) (by decide)) g2 (by decide) (by decide)) (by omega), mm_eq_le (mm_eq_fr (mm_eq_fr (ra23) g1 (by decide) (by decide)) g2 (by decide) (by decide)) (by omega), mm_eq_le (mm_eq_fr (mm_eq_fr (ra24) g1 (by decide) (by decide)) g2 (by decide) (by decide)) (by omega), mm_eq_le (mm_eq_fr (mm_eq_fr (ra25) g1 (by decide) (by decide)) g2 (by decide) (by decide)) (by omega), mm_eq_le (mm_eq_fr (mm_eq_fr (ra26) g1 (by decide) (by decide)) g2 (by decide) (by decide)) (by omega), mm_ah_sm (mm_ah_sm (ra27) (fun j => g1.2 27 (by decide) j) (fun j => g1.2 88 (by decide) j) (fun j => g1.2 89 (by decide) j) (by omega)) (fun j => g2.2 27 (by decide) j) (fun j => g2.2 88 (by decide) j) (fun j => g2.2 89 (by decide) j) (by omega), mm_pw9_sm (mm_pw9_sm (ra28) (fun j => g1.2 44 (by decide) j) (fun j => g1.2 102 (by decide) j) (by omega) (by omega)) (fun j => g2.2 44 (by decide) j) (fun j => g2.2 102 (by decide) j) (by omega) (by omega), mm_eq_le (mm_eq_fr (mm_eq_fr (ra29) g1 (by decide) (by decide)) g2 (by decide) (by decide)) (by omega), mm_ep8_sm (mm_ep8_sm (ra30) (fun j => g1.2 31 (by decide) j) (fun j => g1.2 33 (by decide) j) (fun j => g1.2 94 (by decide) j) (by omega)) (fun j => g2.2 31 (by decide) j) (fun j => g2.2 33 (by decide) j) (fun j => g2.2 94 (by decide) j) (by omega), mm_ab8_sm (mm_ab8_sm (ra31) (fun j => g1.2 27 (by decide) j) (fun j => g1.2 88 (by decide) j) (fun j => g1.2 89 (by decide) j) (fun j => g1.2 90 (by decide) j) (by omega) (by omega)) (fun j => g2.2 27 (by decide) j) (fun j => g2.2 88 (by decide) j) (fun j => g2.2 89 (by decide) j) (fun j => g2.2 90 (by decide) j) (by omega) (by omega), mm_eq_le (mm_eq_fr (mm_eq_fr (ra32) g1 (by decide) (by decide)) g2 (by decide) (by decide)) (by omega), mm_cJ_sm (mm_cJ_sm (ra33) (fun j => g1.2 43 (by decide) j) (fun j => g1.2 103 (by decide) j) (fun j => g1.2 104 (by decide) j) (fun j => g1.2 105 (by decide) j) (fun j => g1.2 106 (by decide) j) (fun j => g1.2 107 (by decide) j) (by omega) (by omega) (by omega)) (fun j => g2.2 43 (by decide) j) (fun j => g2.2 103 (by decide) j) (fun j => g2.2 104 (by decide) j) (fun j => g2.2 105 (by decide) j) (fun j => g2.2 106 (by decide) j) (fun j => g2.2 107 (by decide) j) (by omega) (by omega) (by omega), mm_pt9_sm (mm_pt9_sm (ra34) (fun j => g1.2 37 (by decide) j) (fun j => g1.2 38 (by decide) j) (fun j => g1.2 39 (by decide) j) (fun j => g1.2 40 (by decide) j) (fun j => g1.2 41 (by decide) j) (fun j => g1.2 112 (by decide) j) (fun j => g1.2 114 (by decide) j) (fun j => g1.2 115 (by decide) j) (fun j => g1.2 116 (by decide) j) (by omega) (by omega) (by omega)) (fun j => g2.2 37 (by decide) j) (fun j => g2.2 38 (by decide) j) (fun j => g2.2 39 (by decide) j) (fun j => g2.2 40 (by decide) j) (fun j => g2.2 41 (by decide) j) (fun j => g2.2 112 (by decide) j) (fun j => g2.2 114 (by decide) j) (fun j => g2.2 115 (by decide) j) (fun j => g2.2 116 (by decide) j) (by omega) (by omega) (by omega), mm_tm9_sm (mm_tm9_sm (ra35) (fun j => g1.2 29 (by decide) j) (fun j => g1.2 90 (by decide) j) (by omega) (by omega)) (fun j => g2.2 29 (by decide) j) (fun j => g2.2 90 (by decide) j) (by omega) (by omega)⟩)
    · exfalso; omega
  · skip
    refine mm_iconst C (mm_dec dk_law2 30 rfl) ⟨by decide, by decide⟩ ?_
    refine mm_goto (tgt := 354) C (mm_dec dk_law2 31 rfl) (by decide) ?_
    refine mm_aload_n C (mm_dec dk_law2 33 rfl) rfl ?_
    refine mm_cHi (d := 59) (rest := []) C mh_L_wall ml_L_123 sm_L_wall (mm_dec dk_law2 34 rfl) (c_L_wall_q x.2.1 hl 59 (by decide) h i0 (mm_sc xs (i + 1)) (mm_sc xs (i + 2)) (mm_sc xs (i + 3)) 1 ⟨by omega, by omega⟩) rfl (Nat.le_of_ble_eq_true rfl) ⟨by omega, by omega⟩ rfl (fun r3 h3 hp3 => ?_)
    obtain ⟨b3, i3, g3, y3_0, y3_1⟩ := hp3
    have q3_1_5 : h3.1 1 5 = h.1 1 5 := g3.1 1 5 (by decide)
    have q3_66_1 : h3.1 66 1 = h.1 66 1 := g3.1 66 1 (by decide)
    have q3_1_6 : h3.1 1 6 = h.1 1 6 := g3.1 1 6 (by decide)
    have q3_66_2 : h3.1 66 2 = h.1 66 2 := g3.1 66 2 (by decide)
    have q3_14_8 : h3.1 14 8 = h.1 14 8 := g3.1 14 8 (by decide)
    have q3_66_22 : h3.1 66 22 = h.1 66 22 := g3.1 66 22 (by decide)
    have q3_22_8 : h3.1 22 8 = h.1 22 8 := g3.1 22 8 (by decide)
    have q3_66_23 : h3.1 66 23 = h.1 66 23 := g3.1 66 23 (by decide)
    have q3_14_7 : h3.1 14 7 = h.1 14 7 := g3.1 14 7 (by decide)
    have q3_66_21 : h3.1 66 21 = h.1 66 21 := g3.1 66 21 (by decide)
    have q3_22_9 : h3.1 22 9 = h.1 22 9 := g3.1 22 9 (by decide)
    have q3_66_24 : h3.1 66 24 = h.1 66 24 := g3.1 66 24 (by decide)
    have q3_0_12 : h3.1 0 12 = h.1 0 12 := g3.1 0 12 (by decide)
    have q3_66_56 : h3.1 66 56 = h.1 66 56 := g3.1 66 56 (by decide)
    have q3_0_14 : h3.1 0 14 = h.1 0 14 := g3.1 0 14 (by decide)
    have q3_66_58 : h3.1 66 58 = h.1 66 58 := g3.1 66 58 (by decide)
    have q3_30_6 : h3.1 30 6 = h.1 30 6 := g3.1 30 6 (by decide)
    have q3_66_40 : h3.1 66 40 = h.1 66 40 := g3.1 66 40 (by decide)
    have q3_30_12 : h3.1 30 12 = h.1 30 12 := g3.1 30 12 (by decide)
    have q3_66_82 : h3.1 66 82 = h.1 66 82 := g3.1 66 82 (by decide)
    have q3_0_13 : h3.1 0 13 = h.1 0 13 := g3.1 0 13 (by decide)
    have q3_66_41 : h3.1 66 41 = h.1 66 41 := g3.1 66 41 (by decide)
    have q3_1_7 : h3.1 1 7 = h.1 1 7 := g3.1 1 7 (by decide)
    have q3_66_3 : h3.1 66 3 = h.1 66 3 := g3.1 66 3 (by decide)
    have q3_66_9 : h3.1 66 9 = h.1 66 9 := g3.1 66 9 (by decide)
    have q3_66_10 : h3.1 66 10 = h.1 66 10 := g3.1 66 10 (by decide)
    have q3_1_8 : h3.1 1 8 = h.1 1 8 := g3.1 1 8 (by decide)
    have q3_66_11 : h3.1 66 11 = h.1 66 11 := g3.1 66 11 (by decide)
    have q3_66_12 : h3.1 66 12 = h.1 66 12 := g3.1 66 12 (by decide)
    have q3_66_67 : h3.1 66 67 = h.1 66 67 := g3.1 66 67 (by decide)
    have q3_66_68 : h3.1 66 68 = h.1 66 68 := g3.1 66 68 (by decide)
    have q3_30_13 : h3.1 30 13 = h.1 30 13 := g3.1 30 13 (by decide)
    have q3_66_91 : h3.1 66 91 = h.1 66 91 := g3.1 66 91 (by decide)
    have q3_42_3 : h3.1 42 3 = h.1 42 3 := g3.1 42 3 (by decide)
    refine mm_istoreL (ls2 := [mR 3000, mR 0, mR 66, mR 124, mI i, mI r3, mU, mU]) C (mm_dec dk_law2 35 rfl) (by decide) rfl ?_
    refine mm_aload_n C (mm_dec dk_law2 36 rfl) rfl ?_
    refine mm_aload_n C (mm_dec dk_law2 37 rfl) rfl ?_
    refine mm_iload C (mm_dec dk_law2 38 rfl) rfl ?_
    refine mm_iconst C (mm_dec dk_law2 39 rfl) ⟨by decide, by decide⟩ ?_
    refine mm_iadd C (mm_dec dk_law2 40 rfl) ⟨by omega, by omega⟩ ?_
    refine mm_sld C X (mm_dec dk_law2 41 rfl) (by omega) (by omega) ?_
    refine mm_aload_n C (mm_dec dk_law2 42 rfl) rfl ?_
    refine mm_iload C (mm_dec dk_law2 43 rfl) rfl ?_
    refine mm_iconst C (mm_dec dk_law2 44 rfl) ⟨by decide, by decide⟩ ?_
    refine mm_iadd C (mm_dec dk_law2 45 rfl) ⟨by omega, by omega⟩ ?_
    refine mm_sld C X (mm_dec dk_law2 46 rfl) (by omega) (by omega) ?_
    refine mm_aload_n C (mm_dec dk_law2 47 rfl) rfl ?_
    refine mm_iload C (mm_dec dk_law2 48 rfl) rfl ?_
    refine mm_iconst C (mm_dec dk_law2 49 rfl) ⟨by decide, by decide⟩ ?_
    refine mm_iadd C (mm_dec dk_law2 50 rfl) ⟨by omega, by omega⟩ ?_
    refine mm_sld C X (mm_dec dk_law2 51 rfl) (by omega) (by omega) ?_
    refine mm_aload_n C (mm_dec dk_law2 52 rfl) rfl ?_
    refine mm_iload C (mm_dec dk_law2 53 rfl) rfl ?_
    refine mm_iconst C (mm_dec dk_law2 54 rfl) ⟨by decide, by decide⟩ ?_
    refine mm_iadd C (mm_dec dk_law2 55 rfl) ⟨by omega, by omega⟩ ?_
    refine mm_sld C X (mm_dec dk_law2 56 rfl) (by omega) (by omega) ?_
    refine mm_if_eq (tgt := 392) C (mm_dec dk_law2 57 rfl) (by decide) (fun ca3 => ?_) (fun ca3 => ?_)
    · exfalso; omega
    · skip
      refine mm_iconst C (mm_dec dk_law2 58 rfl) ⟨by decide, by decide⟩ ?_
      refine mm_goto (tgt := 393) C (mm_dec dk_law2 59 rfl) (by decide) ?_
      refine mm_cVi (d := 59) (rest := []) C ev_L_126 (mm_dec dk_law3 1 rfl) (c_X12_wall_q x.2.1 hl 59 (by decide) h3 i3 (mm_sc xs (i + 1)) (mm_sc xs (i + 2)) (mm_sc xs (i + 3)) 1 ⟨by omega, by omega⟩) rfl rfl (Nat.le_of_ble_eq_true rfl) ⟨by omega, by omega⟩ rfl (fun r4 h4 hp4 => ?_) (fun _ _ q => q.elim)
      obtain ⟨b4, i4, g4, y4_0, y4_1⟩ := hp4
      have q4_1_5 : h4.1 1 5 = h3.1 1 5 := g4.1 1 5 (by decide)
      have q4_66_1 : h4.1 66 1 = h3.1 66 1 := g4.1 66 1 (by decide)
      have q4_1_6 : h4.1 1 6 = h3.1 1 6 := g4.1 1 6 (by decide)
      have q4_66_2 : h4.1 66 2 = h3.1 66 2 := g4.1 66 2 (by decide)
      have q4_14_8 : h4.1 14 8 = h3.1 14 8 := g4.1 14 8 (by decide)
      have q4_66_22 : h4.1 66 22 = h3.1 66 22 := g4.1 66 22 (by decide)
      have q4_22_8 : h4.1 22 8 = h3.1 22 8 := g4.1 22 8 (by decide)
      have q4_66_23 : h4.1 66 23 = h3.1 66 23 := g4.1 66 23 (by decide)
      have q4_14_7 : h4.1 14 7 = h3.1 14 7 := g4.1 14 7 (by decide)
      have q4_66_21 : h4.1 66 21 = h3.1 66 21 := g4.1 66 21 (by decide)
      have q4_22_9 : h4.1 22 9 = h3.1 22 9 := g4.1 22 9 (by decide)
      have q4_66_24 : h4.1 66 24 = h3.1 66 24 := g4.1 66 24 (by decide)
      have q4_0_12 : h4.1 0 12 = h3.1 0 12 := g4.1 0 12 (by decide)
      have q4_66_56 : h4.1 66 56 = h3.1 66 56 := g4.1 66 56 (by decide)
      have q4_0_14 : h4.1 0 14 = h3.1 0 14 := g4.1 0 14 (by decide)
      have q4_66_58 : h4.1 66 58 = h3.1 66 58 := g4.1 66 58 (by decide)
      have q4_30_6 : h4.1 30 6 = h3.1 30 6 := g4.1 30 6 (by decide)
      have q4_66_40 : h4.1 66 40 = h3.1 66 40 := g4.1 66 40 (by decide)
      have q4_30_12 : h4.1 30 12 = h3.1 30 12 := g4.1 30 12 (by decide)
      have q4_66_82 : h4.1 66 82 = h3.1 66 82 := g4.1 66 82 (by decide)
      have q4_0_13 : h4.1 0 13 = h3.1 0 13 := g4.1 0 13 (by decide)
      have q4_66_41 : h4.1 66 41 = h3.1 66 41 := g4.1 66 41 (by decide)
      have q4_1_7 : h4.1 1 7 = h3.1 1 7 := g4.1 1 7 (by decide)
      have q4_66_3 : h4.1 66 3 = h3.1 66 3 := g4.1 66 3 (by decide)
      have q4_66_9 : h4.1 66 9 = h3.1 66 9 := g4.1 66 9 (by decide)
      have q4_66_10 : h4.1 66 10 = h3.1 66 10 := g4.1 66 10 (by decide)
      have q4_1_8 : h4.1 1 8 = h3.1 1 8 := g4.1 1 8 (by decide)
      have q4_66_11 : h4.1 66 11 = h3.1 66 11 := g4.1 66 11 (by decide)
      have q4_66_12 : h4.1 66 12 = h3.1 66 12 := g4.1 66 12 (by decide)
      have q4_66_67 : h4.1 66 67 = h3.1 66 67 := g4.1 66 67 (by decide)
      have q4_66_68 : h4.1 66 68 = h3.1 66 68 := g4.1 66 68 (by decide)
      have q4_30_13 : h4.1 30 13 = h3.1 30 13 := g4.1 30 13 (by decide)
      have q4_66_91 : h4.1 66 91 = h3.1 66 91 := g4.1 66 91 (by decide)
      have q4_42_3 : h4.1 42 3 = h3.1 42 3 := g4.1 42 3 (by decide)
      obtain ⟨f1, k1, hf1, u4, u5⟩ := y3_1
      obtain ⟨f2, k2, hf2, w70, w71⟩ := y4_1
      have rb10 : mm_eq h4 4 70 399 := mm_eq_up ra10 u4 (fun j => g3.2 70 (by decide) j) w70 (fun j => g4.2 4 (by decide) j) (Or.inl (by omega)) (Or.inl (Int.le_refl _))
      have rb11 : mm_eq h4 5 71 399 := mm_eq_up ra11 u5 (fun j => g3.2 71 (by decide) j) w71 (fun j => g4.2 5 (by decide) j) (Or.inl (by omega)) (Or.inl (Int.le_refl _))
      have qa4 : h4.2.1 124 0 = h3.2.1 124 0 := g4.2 124 (by decide) 0
      refine mm_istoreL (ls2 := [mR 3000, mR 0, mR 66, mR 124, mI i, mI r3, mI r4, mU]) C (mm_dec dk_law3 2 rfl) (by decide) rfl ?_
      refine mm_goto (tgt := 1668) C (mm_dec dk_law3 3 rfl) (by decide) ?_
      refine mm_fgt 5 ?_
      refine mm_fgt 6 ?_
      have ze := mm_zf_eq (show h4.1 58 5 = h.1 58 5 from (g4.1 58 5 (by decide)).trans ((g3.1 58 5 (by decide)).trans (rfl)))
      refine mm_widen (k := mm_aA (i + 6) h4) (n := mm_bB (i + 6) h4) (by rw [show mm_aA (i + 6) h4 = 200 + (i + 6).toNat + (mm_zf h).1 from by unfold mm_aA; rw [ze]]; omega) (by rw [show mm_bB (i + 6) h4 = 90000 + 6 * (i + 6).toNat + (mm_zf h).2 from by unfold mm_bB; rw [ze]]; omega) ?_
      exact K h4 i4 (mm_RO_fr (mm_RO_fr (r0) g3 (by decide)) g4 (by decide)) (by unfold mm_Rl; exact ⟨by omega, by omega, by omega, by omega, by omega, by omega, by omega, by omega, by omega, by omega, by omega, by omega, by omega, mm_eq_fr (mm_eq_fr (ra0) g3 (by decide) (by decide)) g4 (by decide) (by decide), mm_eq_fr (mm_eq_fr (ra1) g3 (by decide) (by decide)) g4 (by decide) (by decide), mm_eq_le (mm_eq_fr (mm_eq_fr (ra2) g3 (by decide) (by decide)) g4 (by decide) (by decide)) (by omega), mm_eq_le (mm_eq_fr (mm_eq_fr (ra3) g3 (by decide) (by decide)) g4 (by decide) (by decide)) (by omega), mm_eq_le (mm_eq_fr (mm_eq_fr (ra4) g3 (by decide) (by decide)) g4 (by decide) (by decide)) (by omega), mm_eq_le (mm_eq_fr (mm_eq_fr (ra5) g3 (by decide) (by decide)) g4 (by decide) (by decide)) (by omega), mm_tk_sm (mm_tk_sm (ra6) (fun j => g3.2 18 (by decide) j) (fun j => g3.2 85 (by decide) j) (by omega) (by omega)) (fun j => g4.2 18 (by decide) j) (fun j => g4.2 85 (by decide) j) (by omega) (by omega), mm_cb_sm (mm_cb_sm (ra7) (fun j => g3.2 85 (by decide) j) (by omega) (by omega)) (fun j => g4.2 85 (by decide) j) (by omega) (by omega), mm_fb_sm (mm_fb_sm (ra8) (fun j => g3.2 20 (by decide) j) (by omega)) (fun j => g4.2 20 (by decide) j) (by omega), mm_eq_fr (mm_eq_fr (ra9) g3 (by decide) (by decide)) g4 (by decide) (by decide), rb10, rb11, mm_eq_le (mm_eq_fr (mm_eq_fr (ra12) g3 (by decide) (by decide)) g4 (by decide) (by decide)) (by omega), mm_go_sm (mm_go_sm (ra13) (fun j => g3.2 6 (by decide) j) (by omega) (by omega) (by omega) (by omega) (by omega) (by omega)) (fun j => g4.2 6 (by decide) j) (by omega) (by omega) (by omega) (by omega) (by omega) (by omega), mm_eq_le (mm_eq_fr (mm_eq_fr (ra14) g3 (by decide) (by decide)) g4 (by decide) (by decide)) (by omega), mm_eq_le (mm_eq_fr (mm_eq_fr (ra15) g3 (by decide) (by decide)) g4 (by decide) (by decide)) (by omega), mm_it_sm (mm_it_sm (ra16) (fun j => g3.2 28 (by decide) j) (fun j => g3.2 88 (by decide) j) (by omega)) (fun j => g4.2 28 (by decide) j) (fun j => g4.2 88 (by decide) j) (by omega), mm_br_sm (mm_br_sm (ra17) (fun j => g3.2 21 (by decide) j) (fun j => g3.2 82 (by decide) j) (fun j => g3.2 84 (by decide) j) (fun j => g3.2 19 (by decide) j) (by omega)) (fun j => g4.2 21 (by decide) j) (fun j => g4.2 82 (by decide) j) (fun j => g4.2 84 (by decide) j) (fun j => g4.2 19 (by decide) j) (by omega), mm_gn_sm (mm_gn_sm (ra18)  (by omega) (by omega) (by omega) (by omega) (by omega))  (by omega) (by omega) (by omega) (by omega) (by omega), mm_pc_sm (mm_pc_sm (ra19) (fun j => g3.2 15 (by decide) j) (by omega) (by omega) (by omega)) (fun j => g4.2 15 (by decide) j) (by omega) (by omega) (by omega), mm_bv_sm (mm_bv_sm (ra20) (fun j => g3.2 21 (by decide) j) (fun j => g3.2 19 (by decide) j) (by omega) (by omega)) (fun j => g4.2 21 (by decide) j) (fun j => g4.2 19 (by decide) j) (by omega) (by omega), mm_eq_le (mm_eq_fr (mm_eq_fr (ra21) g3 (by decide) (by decide)) g4 (by decide) (by decide)) (by omega), mm_eq_le (mm_eq_fr (mm_eq_fr (ra22) g3 (by decide) (by decide)) g4 (by decide) (by decide)) (by omega), mm_eq_le (mm_eq_fr (mm_eq_fr (ra23) g3 (by decide) (by decide)) g4 (by decide) (by decide)) (by omega), mm_eq_le (mm_eq_fr (mm_eq_fr (ra24) g3 (by decide) (by decide)) g4 (by decide) (by decide)) (by omega), mm_eq_le (mm_eq_fr (mm_eq_fr (ra25) g3 (by decide) (by decide)) g4 (by decide) (by decide)) (by omega), mm_eq_le (mm_eq_fr (mm_eq_fr (ra26) g3 (by decide) (by decide)) g4 (by decide) (by decide)) (by omega), mm_ah_sm (mm_ah_sm (ra27) (fun j => g3.2 27 (by decide) j) (fun j => g3.2 88 (by decide) j) (fun j => g3.2 89 (by decide) j) (by omega)) (fun j => g4.2 27 (by decide) j) (fun j => g4.2 88 (by decide) j) (fun j => g4.2 89 (by decide) j) (by omega), mm_pw9_sm (mm_pw9_sm (ra28) (fun j => g3.2 44 (by decide) j) (fun j => g3.2 102 (by decide) j) (by omega) (by omega)) (fun j => g4.2 44 (by decide) j) (fun j => g4.2 102 (by decide) j) (by omega) (by omega), mm_eq_le (mm_eq_fr (mm_eq_fr (ra29) g3 (by decide) (by decide)) g4 (by decide) (by decide)) (by omega), mm_ep8_sm (mm_ep8_sm (ra30) (fun j => g3.2 31 (by decide) j) (fun j => g3.2 33 (by decide) j) (fun j => g3.2 94 (by decide) j) (by omega)) (fun j => g4.2 31 (by decide) j) (fun j => g4.2 33 (by decide) j) (fun j => g4.2 94 (by decide) j) (by omega), mm_ab8_sm (mm_ab8_sm (ra31) (fun j => g3.2 27 (by decide) j) (fun j => g3.2 88 (by decide) j) (fun j => g3.2 89 (by decide) j) (fun j => g3.2 90 (by decide) j) (by omega) (by omega)) (fun j => g4.2 27 (by decide) j) (fun j => g4.2 88 (by decide) j) (fun j => g4.2 89 (by decide) j) (fun j => g4.2 90 (by decide) j) (by omega) (by omega), mm_eq_le (mm_eq_fr (mm_eq_fr (ra32) g3 (by decide) (by decide)) g4 (by decide) (by decide)) (by omega), mm_cJ_sm (mm_cJ_sm (ra33) (fun j => g3.2 43 (by decide) j) (fun j => g3.2 103 (by decide) j) (fun j => g3.2 104 (by decide) j) (fun j => g3.2 105 (by decide) j) (fun j => g3.2 106 (by decide) j) (fun j => g3.2 107 (by decide) j) (by omega) (by omega) (by omega)) (fun j => g4.2 43 (by decide) j) (fun j => g4.2 103 (by decide) j) (fun j => g4.2 104 (by decide) j) (fun j => g4.2 105 (by decide) j) (fun j => g4.2 106 (by decide) j) (fun j => g4.2 107 (by decide) j) (by omega) (by omega) (by omega), mm_pt9_sm (mm_pt9_sm (ra34) (fun j => g3.2 37 (by decide) j) (fun j => g3.2 38 (by decide) j) (fun j => g3.2 39 (by decide) j) (fun j => g3.2 40 (by decide) j) (fun j => g3.2 41 (by decide) j) (fun j => g3.2 112 (by decide) j) (fun j => g3.2 114 (by decide) j) (fun j => g3.2 115 (by decide) j) (fun j => g3.2 116 (by decide) j) (by omega) (by omega) (by omega)) (fun j => g4.2 37 (by decide) j) (fun j => g4.2 38 (by decide) j) (fun j => g4.2 39 (by decide) j) (fun j => g4.2 40 (by decide) j) (fun j => g4.2 41 (by decide) j) (fun j => g4.2 112 (by decide) j) (fun j => g4.2 114 (by decide) j) (fun j => g4.2 115 (by decide) j) (fun j => g4.2 116 (by decide) j) (by omega) (by omega) (by omega), mm_tm9_sm (mm_tm9_sm (ra35) (fun j => g3.2 29 (by decide) j) (fun j => g3.2 90 (by decide) j) (by omega) (by omega)) (fun j => g4.2 29 (by decide) j) (fun j => g4.2 90 (by decide) j) (by omega) (by omega)⟩)
