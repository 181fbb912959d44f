set_option maxRecDepth 100000 in
set_option maxHeartbeats 4000000 in
theorem lw_c24 {x : mX} {L : Nat} {xs : Nat → Int32} (C : mm_OK 60 1082649 5848156 code RL 8 ret x) (X : mm_scr x L xs) (hl : x.2.1.stackTraces = false) (hL : L ≤ 3072) (i : Int) (hi : 0 ≤ i ∧ i + 6 ≤ L) (h : mH) (i0 : mm_inv h) (r0 : mm_RO h) (rl0 : mm_Rl h) (K : mm_K x i) : mm_W x (mm_aA i h) (mm_bB i h) 1340 (mm_lls i) [] h := by
  have zl := mm_zf_le h
  have ea : mm_aA i h = 200 + i.toNat + (mm_zf h).1 := rfl
  have eb : mm_bB i h = 90000 + 6 * i.toNat + (mm_zf h).2 := rfl
  obtain ⟨rs0, rs1, rs2, rs3, rs4, rs5, rs6, rs7, rs8, rs9, ra0, ra1, ra2, ra3, ra4, ra5, ra6, ra7, ra8, ra9, ra10, ra11, ra12, ra13, ra14, ra15, ra16, ra17, ra18, ra19, ra20, ra21⟩ := rl0
  refine mm_aload_n C (mm_dec dk_law14 19 rfl) rfl ?_
  refine mm_aload_n C (mm_dec dk_law14 20 rfl) rfl ?_
  refine mm_iload C (mm_dec dk_law14 21 rfl) rfl ?_
  refine mm_iconst C (mm_dec dk_law14 22 rfl) ⟨by decide, by decide⟩ ?_
  refine mm_iadd C (mm_dec dk_law14 23 rfl) ⟨by omega, by omega⟩ ?_
  refine mm_sld C X (mm_dec dk_law14 24 rfl) (by omega) (by omega) ?_
  refine mm_aload_n C (mm_dec dk_law14 25 rfl) rfl ?_
  refine mm_iload C (mm_dec dk_law14 26 rfl) rfl ?_
  refine mm_iconst C (mm_dec dk_law14 27 rfl) ⟨by decide, by decide⟩ ?_
  refine mm_iadd C (mm_dec dk_law14 28 rfl) ⟨by omega, by omega⟩ ?_
  refine mm_sld C X (mm_dec dk_law14 29 rfl) (by omega) (by omega) ?_
  refine mm_aload_n C (mm_dec dk_law14 30 rfl) rfl ?_
  refine mm_iload C (mm_dec dk_law14 31 rfl) rfl ?_
  refine mm_iconst C (mm_dec dk_law14 32 rfl) ⟨by decide, by decide⟩ ?_
  refine mm_iadd C (mm_dec dk_law14 33 rfl) ⟨by omega, by omega⟩ ?_
  refine mm_sld C X (mm_dec dk_law14 34 rfl) (by omega) (by omega) ?_
  refine mm_aload_n C (mm_dec dk_law14 35 rfl) rfl ?_
  refine mm_cHi (d := 59) (rest := []) C mh_L_decide ml_L_195 sm_L_decide (mm_dec dk_law14 36 rfl) (c_L_decide x.2.1 hl 59 (by decide) h i0 (mm_sc xs (i + 1)) (mm_sc xs (i + 2)) (mm_sc xs (i + 3))) rfl (Nat.le_of_ble_eq_true rfl) ⟨by omega, by omega⟩ rfl (fun r1 h1 hp1 => ?_)
  obtain ⟨b1, i1, g1⟩ := hp1
  have q1_1_5 : h1.1 1 5 = h.1 1 5 := g1.1 1 5 (by decide)
  have q1_66_1 : h1.1 66 1 = h.1 66 1 := g1.1 66 1 (by decide)
  have q1_1_6 : h1.1 1 6 = h.1 1 6 := g1.1 1 6 (by decide)
  have q1_66_2 : h1.1 66 2 = h.1 66 2 := g1.1 66 2 (by decide)
  have q1_14_8 : h1.1 14 8 = h.1 14 8 := g1.1 14 8 (by decide)
  have q1_66_22 : h1.1 66 22 = h.1 66 22 := g1.1 66 22 (by decide)
  have q1_22_8 : h1.1 22 8 = h.1 22 8 := g1.1 22 8 (by decide)
  have q1_66_23 : h1.1 66 23 = h.1 66 23 := g1.1 66 23 (by decide)
  have q1_14_7 : h1.1 14 7 = h.1 14 7 := g1.1 14 7 (by decide)
  have q1_66_21 : h1.1 66 21 = h.1 66 21 := g1.1 66 21 (by decide)
  have q1_22_9 : h1.1 22 9 = h.1 22 9 := g1.1 22 9 (by decide)
  have q1_66_24 : h1.1 66 24 = h.1 66 24 := g1.1 66 24 (by decide)
  have q1_0_12 : h1.1 0 12 = h.1 0 12 := g1.1 0 12 (by decide)
  have q1_66_56 : h1.1 66 56 = h.1 66 56 := g1.1 66 56 (by decide)
  have q1_58_10 : h1.1 58 10 = h.1 58 10 := g1.1 58 10 (by decide)
  have q1_66_95 : h1.1 66 95 = h.1 66 95 := g1.1 66 95 (by decide)
  have q1_58_9 : h1.1 58 9 = h.1 58 9 := g1.1 58 9 (by decide)
  have q1_66_96 : h1.1 66 96 = h.1 66 96 := g1.1 66 96 (by decide)
  have q1_58_8 : h1.1 58 8 = h.1 58 8 := g1.1 58 8 (by decide)
  have q1_66_97 : h1.1 66 97 = h.1 66 97 := g1.1 66 97 (by decide)
  have q1_1_7 : h1.1 1 7 = h.1 1 7 := g1.1 1 7 (by decide)
  have q1_66_3 : h1.1 66 3 = h.1 66 3 := g1.1 66 3 (by decide)
  have q1_66_9 : h1.1 66 9 = h.1 66 9 := g1.1 66 9 (by decide)
  have q1_66_10 : h1.1 66 10 = h.1 66 10 := g1.1 66 10 (by decide)
  have q1_1_8 : h1.1 1 8 = h.1 1 8 := g1.1 1 8 (by decide)
  have q1_66_11 : h1.1 66 11 = h.1 66 11 := g1.1 66 11 (by decide)
  have q1_66_12 : h1.1 66 12 = h.1 66 12 := g1.1 66 12 (by decide)
  refine mm_istoreL (ls2 := [mR 3000, mR 0, mR 66, mR 124, mI i, mI r1, mU, mU]) C (mm_dec dk_law14 37 rfl) (by decide) rfl ?_
  refine mm_aload_n C (mm_dec dk_law14 38 rfl) rfl ?_
  refine mm_aload_n C (mm_dec dk_law14 39 rfl) rfl ?_
  refine mm_iload C (mm_dec dk_law14 40 rfl) rfl ?_
  refine mm_iconst C (mm_dec dk_law14 41 rfl) ⟨by decide, by decide⟩ ?_
  refine mm_iadd C (mm_dec dk_law14 42 rfl) ⟨by omega, by omega⟩ ?_
  refine mm_sld C X (mm_dec dk_law14 43 rfl) (by omega) (by omega) ?_
  refine mm_aload_n C (mm_dec dk_law14 44 rfl) rfl ?_
  refine mm_iload C (mm_dec dk_law14 45 rfl) rfl ?_
  refine mm_iconst C (mm_dec dk_law14 46 rfl) ⟨by decide, by decide⟩ ?_
  refine mm_iadd C (mm_dec dk_law14 47 rfl) ⟨by omega, by omega⟩ ?_
  refine mm_sld C X (mm_dec dk_law14 48 rfl) (by omega) (by omega) ?_
  refine mm_aload_n C (mm_dec dk_law14 49 rfl) rfl ?_
  refine mm_iload C (mm_dec dk_law14 50 rfl) rfl ?_
  refine mm_iconst C (mm_dec dk_law14 51 rfl) ⟨by decide, by decide⟩ ?_
  refine mm_iadd C (mm_dec dk_law14 52 rfl) ⟨by omega, by omega⟩ ?_
  refine mm_sld C X (mm_dec dk_law14 53 rfl) (by omega) (by omega) ?_
  refine mm_cVi (d := 59) (rest := []) C ev_L_197 (mm_dec dk_law14 54 rfl) (c_X12_decide x.2.1 hl 59 (by decide) h1 i1 (mm_sc xs (i + 1)) (mm_sc xs (i + 2)) (mm_sc xs (i + 3))) rfl rfl (Nat.le_of_ble_eq_true rfl) ⟨by omega, by omega⟩ rfl (fun r2 h2 hp2 => ?_) (fun _ _ q => q.elim)
  obtain ⟨b2, i2, g2⟩ := hp2
  have q2_1_5 : h2.1 1 5 = h1.1 1 5 := g2.1 1 5 (by decide)
  have q2_66_1 : h2.1 66 1 = h1.1 66 1 := g2.1 66 1 (by decide)
  have q2_1_6 : h2.1 1 6 = h1.1 1 6 := g2.1 1 6 (by decide)
  have q2_66_2 : h2.1 66 2 = h1.1 66 2 := g2.1 66 2 (by decide)
  have q2_14_8 : h2.1 14 8 = h1.1 14 8 := g2.1 14 8 (by decide)
  have q2_66_22 : h2.1 66 22 = h1.1 66 22 := g2.1 66 22 (by decide)
  have q2_22_8 : h2.1 22 8 = h1.1 22 8 := g2.1 22 8 (by decide)
  have q2_66_23 : h2.1 66 23 = h1.1 66 23 := g2.1 66 23 (by decide)
  have q2_14_7 : h2.1 14 7 = h1.1 14 7 := g2.1 14 7 (by decide)
  have q2_66_21 : h2.1 66 21 = h1.1 66 21 := g2.1 66 21 (by decide)
  have q2_22_9 : h2.1 22 9 = h1.1 22 9 := g2.1 22 9 (by decide)
  have q2_66_24 : h2.1 66 24 = h1.1 66 24 := g2.1 66 24 (by decide)
  have q2_0_12 : h2.1 0 12 = h1.1 0 12 := g2.1 0 12 (by decide)
  have q2_66_56 : h2.1 66 56 = h1.1 66 56 := g2.1 66 56 (by decide)
  have q2_58_10 : h2.1 58 10 = h1.1 58 10 := g2.1 58 10 (by decide)
  have q2_66_95 : h2.1 66 95 = h1.1 66 95 := g2.1 66 95 (by decide)
  have q2_58_9 : h2.1 58 9 = h1.1 58 9 := g2.1 58 9 (by decide)
  have q2_66_96 : h2.1 66 96 = h1.1 66 96 := g2.1 66 96 (by decide)
  have q2_58_8 : h2.1 58 8 = h1.1 58 8 := g2.1 58 8 (by decide)
  have q2_66_97 : h2.1 66 97 = h1.1 66 97 := g2.1 66 97 (by decide)
  have q2_1_7 : h2.1 1 7 = h1.1 1 7 := g2.1 1 7 (by decide)
  have q2_66_3 : h2.1 66 3 = h1.1 66 3 := g2.1 66 3 (by decide)
  have q2_66_9 : h2.1 66 9 = h1.1 66 9 := g2.1 66 9 (by decide)
  have q2_66_10 : h2.1 66 10 = h1.1 66 10 := g2.1 66 10 (by decide)
  have q2_1_8 : h2.1 1 8 = h1.1 1 8 := g2.1 1 8 (by decide)
  have q2_66_11 : h2.1 66 11 = h1.1 66 11 := g2.1 66 11 (by decide)
  have q2_66_12 : h2.1 66 12 = h1.1 66 12 := g2.1 66 12 (by decide)
  have qa2 : h2.2.1 124 0 = h1.2.1 124 0 := g2.2 124 (by decide) 0
  refine mm_istoreL (ls2 := [mR 3000, mR 0, mR 66, mR 124, mI i, mI r1, mI r2, mU]) C (mm_dec dk_law14 55 rfl) (by decide) rfl ?_
  refine mm_goto (tgt := 1668) C (mm_dec dk_law14 56 rfl) (by decide) ?_
  refine mm_fgt 5 ?_
  refine mm_fgt 6 ?_
  have ze := mm_zf_eq (show h2.1 58 5 = h.1 58 5 from (g2.1 58 5 (by decide)).trans ((g1.1 58 5 (by decide)).trans (rfl)))
  refine mm_widen (k := mm_aA (i + 6) h2) (n := mm_bB (i + 6) h2) (by rw [show mm_aA (i + 6) h2 = 200 + (i + 6).toNat + (mm_zf h).1 from by unfold mm_aA; rw [ze]]; omega) (by rw [show mm_bB (i + 6) h2 = 90000 + 6 * (i + 6).toNat + (mm_zf h).2 from by unfold mm_bB; rw [ze]]; omega) ?_
  exact K h2 i2 (mm_RO_fr (mm_RO_fr (r0) g1 (by decide)) g2 (by decide)) (by unfold mm_Rl; exact ⟨by omega, by omega, by omega, by omega, by omega, by omega, by omega, by omega, by omega, by omega, mm_eq_fr (mm_eq_fr (ra0) g1 (by decide) (by decide)) g2 (by decide) (by decide), mm_eq_fr (mm_eq_fr (ra1) g1 (by decide) (by decide)) g2 (by decide) (by decide), mm_eq_le (mm_eq_fr (mm_eq_fr (ra2) g1 (by decide) (by decide)) g2 (by decide) (by decide)) (by omega), mm_eq_le (mm_eq_fr (mm_eq_fr (ra3) g1 (by decide) (by decide)) g2 (by decide) (by decide)) (by omega), mm_eq_le (mm_eq_fr (mm_eq_fr (ra4) g1 (by decide) (by decide)) g2 (by decide) (by decide)) (by omega), mm_eq_le (mm_eq_fr (mm_eq_fr (ra5) g1 (by decide) (by decide)) g2 (by decide) (by decide)) (by omega), mm_tk_sm (mm_tk_sm (ra6) (fun j => g1.2 18 (by decide) j) (fun j => g1.2 85 (by decide) j) (by omega) (by omega)) (fun j => g2.2 18 (by decide) j) (fun j => g2.2 85 (by decide) j) (by omega) (by omega), mm_cb_sm (mm_cb_sm (ra7) (fun j => g1.2 85 (by decide) j) (by omega) (by omega)) (fun j => g2.2 85 (by decide) j) (by omega) (by omega), mm_fb_sm (mm_fb_sm (ra8) (fun j => g1.2 20 (by decide) j) (by omega)) (fun j => g2.2 20 (by decide) j) (by omega), mm_eq_fr (mm_eq_fr (ra9) g1 (by decide) (by decide)) g2 (by decide) (by decide), mm_eq_fr (mm_eq_fr (ra10) g1 (by decide) (by decide)) g2 (by decide) (by decide), mm_eq_fr (mm_eq_fr (ra11) g1 (by decide) (by decide)) g2 (by decide) (by decide), mm_eq_le (mm_eq_fr (mm_eq_fr (ra12) g1 (by decide) (by decide)) g2 (by decide) (by decide)) (by omega), mm_go_sm (mm_go_sm (ra13) (fun j => g1.2 6 (by decide) j) (by omega) (by omega) (by omega) (by omega) (by omega) (by omega)) (fun j => g2.2 6 (by decide) j) (by omega) (by omega) (by omega) (by omega) (by omega) (by omega), mm_eq_le (mm_eq_fr (mm_eq_fr (ra14) g1 (by decide) (by decide)) g2 (by decide) (by decide)) (by omega), mm_eq_le (mm_eq_fr (mm_eq_fr (ra15) g1 (by decide) (by decide)) g2 (by decide) (by decide)) (by omega), mm_it_sm (mm_it_sm (ra16) (fun j => g1.2 28 (by decide) j) (fun j => g1.2 88 (by decide) j) (by omega)) (fun j => g2.2 28 (by decide) j) (fun j => g2.2 88 (by decide) j) (by omega), mm_br_sm (mm_br_sm (ra17) (fun j => g1.2 21 (by decide) j) (fun j => g1.2 82 (by decide) j) (fun j => g1.2 84 (by decide) j) (fun j => g1.2 19 (by decide) j) (by omega)) (fun j => g2.2 21 (by decide) j) (fun j => g2.2 82 (by decide) j) (fun j => g2.2 84 (by decide) j) (fun j => g2.2 19 (by decide) j) (by omega), mm_gn_sm (mm_gn_sm (ra18)  (by omega) (by omega) (by omega) (by omega) (by omega))  (by omega) (by omega) (by omega) (by omega) (by omega), mm_pc_sm (mm_pc_sm (ra19) (fun j => g1.2 15 (by decide) j) (by omega) (by omega) (by omega)) (fun j => g2.2 15 (by decide) j) (by omega) (by omega) (by omega), mm_bv_sm (mm_bv_sm (ra20) (fun j => g1.2 21 (by decide) j) (fun j => g1.2 19 (by decide) j) (by omega) (by omega)) (fun j => g2.2 21 (by decide) j) (fun j => g2.2 19 (by decide) j) (by omega) (by omega), mm_eq_le (mm_eq_fr (mm_eq_fr (ra21) g1 (by decide) (by decide)) g2 (by decide) (by decide)) (by omega)⟩)
set_option maxRecDepth 100000 in
set_option maxHeartbeats 4000000 in
theorem lw_c25 {x : mX} {L : Nat} {xs : Nat → Int32} (C : mm_OK 60 1082649 5848156 code RL 8 ret x) (X : mm_scr x L xs) (hl : x.2.1.stackTraces = false) (hL : L ≤ 3072) (i : Int) (hi : 0 ≤ i ∧ i + 6 ≤ L) (h : mH) (i0 : mm_inv h) (r0 : mm_RO h) (rl0 : mm_Rl h) (K : mm_K x i) : mm_W x (mm_aA i h) (mm_bB i h) 1392 (mm_lls i) [] h := by
  have zl := mm_zf_le h
  have ea : mm_aA i h = 200 + i.toNat + (mm_zf h).1 := rfl
  have eb : mm_bB i h = 90000 + 6 * i.toNat + (mm_zf h).2 := rfl
  obtain ⟨rs0, rs1, rs2, rs3, rs4, rs5, rs6, rs7, rs8, rs9, ra0, ra1, ra2, ra3, ra4, ra5, ra6, ra7, ra8, ra9, ra10, ra11, ra12, ra13, ra14, ra15, ra16, ra17, ra18, ra19, ra20, ra21⟩ := rl0
  refine mm_aload_n C (mm_dec dk_law14 57 rfl) rfl ?_
  refine mm_aload_n C (mm_dec dk_law14 58 rfl) rfl ?_
  refine mm_iload C (mm_dec dk_law14 59 rfl) rfl ?_
  refine mm_iconst C (mm_dec dk_law15 0 rfl) ⟨by decide, by decide⟩ ?_
  refine mm_iadd C (mm_dec dk_law15 1 rfl) ⟨by omega, by omega⟩ ?_
  refine mm_sld C X (mm_dec dk_law15 2 rfl) (by omega) (by omega) ?_
  refine mm_aload_n C (mm_dec dk_law15 3 rfl) rfl ?_
  refine mm_iload C (mm_dec dk_law15 4 rfl) rfl ?_
  refine mm_iconst C (mm_dec dk_law15 5 rfl) ⟨by decide, by decide⟩ ?_
  refine mm_iadd C (mm_dec dk_law15 6 rfl) ⟨by omega, by omega⟩ ?_
  refine mm_sld C X (mm_dec dk_law15 7 rfl) (by omega) (by omega) ?_
  refine mm_i2l C (mm_dec dk_law15 8 rfl) ?_
  refine mm_bipush C (mm_dec dk_law15 9 rfl) ⟨by decide, by decide⟩ ?_
  refine mm_lshl C (mm_dec dk_law15 10 rfl) ?_
  refine mm_aload_n C (mm_dec dk_law15 11 rfl) rfl ?_
  refine mm_iload C (mm_dec dk_law15 12 rfl) rfl ?_
  refine mm_iconst C (mm_dec dk_law15 13 rfl) ⟨by decide, by decide⟩ ?_
  refine mm_iadd C (mm_dec dk_law15 14 rfl) ⟨by omega, by omega⟩ ?_
  refine mm_sld C X (mm_dec dk_law15 15 rfl) (by omega) (by omega) ?_
  refine mm_i2l C (mm_dec dk_law15 16 rfl) ?_
  refine mm_ldc2 (z := 4294967295) C (mm_dec dk_law15 17 rfl) kc_L_198 (by decide) ?_
  refine mm_land C (mm_dec dk_law15 18 rfl) ?_
  refine mm_lor C (mm_dec dk_law15 19 rfl) ?_
  refine mm_aload_n C (mm_dec dk_law15 20 rfl) rfl ?_
  refine mm_iload C (mm_dec dk_law15 21 rfl) rfl ?_
  refine mm_iconst C (mm_dec dk_law15 22 rfl) ⟨by decide, by decide⟩ ?_
  refine mm_iadd C (mm_dec dk_law15 23 rfl) ⟨by omega, by omega⟩ ?_
  refine mm_sld C X (mm_dec dk_law15 24 rfl) (by omega) (by omega) ?_
  refine mm_aload_n C (mm_dec dk_law15 25 rfl) rfl ?_
  refine mm_cHi (d := 59) (rest := []) C mh_L_draw ml_L_200 sm_L_draw (mm_dec dk_law15 26 rfl) (c_L_draw x.2.1 hl 59 (by decide) h i0 (mm_sc xs (i + 1)) (mm_vlor (mm_vlshl (mm_sc xs (i + 2)) 32) (mm_vland (mm_sc xs (i + 3)) 4294967295)) (mm_sc xs (i + 4))) rfl (Nat.le_of_ble_eq_true rfl) ⟨by omega, by omega⟩ rfl (fun r1 h1 hp1 => ?_)
  obtain ⟨b1, i1, g1⟩ := hp1
  have q1_1_5 : h1.1 1 5 = h.1 1 5 := g1.1 1 5 (by decide)
  have q1_66_1 : h1.1 66 1 = h.1 66 1 := g1.1 66 1 (by decide)
  have q1_1_6 : h1.1 1 6 = h.1 1 6 := g1.1 1 6 (by decide)
  have q1_66_2 : h1.1 66 2 = h.1 66 2 := g1.1 66 2 (by decide)
  have q1_14_8 : h1.1 14 8 = h.1 14 8 := g1.1 14 8 (by decide)
  have q1_66_22 : h1.1 66 22 = h.1 66 22 := g1.1 66 22 (by decide)
  have q1_22_8 : h1.1 22 8 = h.1 22 8 := g1.1 22 8 (by decide)
  have q1_66_23 : h1.1 66 23 = h.1 66 23 := g1.1 66 23 (by decide)
  have q1_14_7 : h1.1 14 7 = h.1 14 7 := g1.1 14 7 (by decide)
  have q1_66_21 : h1.1 66 21 = h.1 66 21 := g1.1 66 21 (by decide)
  have q1_22_9 : h1.1 22 9 = h.1 22 9 := g1.1 22 9 (by decide)
  have q1_66_24 : h1.1 66 24 = h.1 66 24 := g1.1 66 24 (by decide)
  have q1_0_12 : h1.1 0 12 = h.1 0 12 := g1.1 0 12 (by decide)
  have q1_66_56 : h1.1 66 56 = h.1 66 56 := g1.1 66 56 (by decide)
  have q1_58_10 : h1.1 58 10 = h.1 58 10 := g1.1 58 10 (by decide)
  have q1_66_95 : h1.1 66 95 = h.1 66 95 := g1.1 66 95 (by decide)
  have q1_58_9 : h1.1 58 9 = h.1 58 9 := g1.1 58 9 (by decide)
  have q1_66_96 : h1.1 66 96 = h.1 66 96 := g1.1 66 96 (by decide)
  have q1_58_8 : h1.1 58 8 = h.1 58 8 := g1.1 58 8 (by decide)
  have q1_66_97 : h1.1 66 97 = h.1 66 97 := g1.1 66 97 (by decide)
  have q1_1_7 : h1.1 1 7 = h.1 1 7 := g1.1 1 7 (by decide)
  have q1_66_3 : h1.1 66 3 = h.1 66 3 := g1.1 66 3 (by decide)
  have q1_66_9 : h1.1 66 9 = h.1 66 9 := g1.1 66 9 (by decide)
  have q1_66_10 : h1.1 66 10 = h.1 66 10 := g1.1 66 10 (by decide)
  have q1_1_8 : h1.1 1 8 = h.1 1 8 := g1.1 1 8 (by decide)
  have q1_66_11 : h1.1 66 11 = h.1 66 11 := g1.1 66 11 (by decide)
  have q1_66_12 : h1.1 66 12 = h.1 66 12 := g1.1 66 12 (by decide)
  refine mm_istoreL (ls2 := [mR 3000, mR 0, mR 66, mR 124, mI i, mI r1, mU, mU]) C (mm_dec dk_law15 27 rfl) (by decide) rfl ?_
  refine mm_aload_n C (mm_dec dk_law15 28 rfl) rfl ?_
  refine mm_aload_n C (mm_dec dk_law15 29 rfl) rfl ?_
  refine mm_iload C (mm_dec dk_law15 30 rfl) rfl ?_
  refine mm_iconst C (mm_dec dk_law15 31 rfl) ⟨by decide, by decide⟩ ?_
  refine mm_iadd C (mm_dec dk_law15 32 rfl) ⟨by omega, by omega⟩ ?_
  refine mm_sld C X (mm_dec dk_law15 33 rfl) (by omega) (by omega) ?_
  refine mm_aload_n C (mm_dec dk_law15 34 rfl) rfl ?_
  refine mm_iload C (mm_dec dk_law15 35 rfl) rfl ?_
  refine mm_iconst C (mm_dec dk_law15 36 rfl) ⟨by decide, by decide⟩ ?_
  refine mm_iadd C (mm_dec dk_law15 37 rfl) ⟨by omega, by omega⟩ ?_
  refine mm_sld C X (mm_dec dk_law15 38 rfl) (by omega) (by omega) ?_
  refine mm_i2l C (mm_dec dk_law15 39 rfl) ?_
  refine mm_bipush C (mm_dec dk_law15 40 rfl) ⟨by decide, by decide⟩ ?_
  refine mm_lshl C (mm_dec dk_law15 41 rfl) ?_
  refine mm_aload_n C (mm_dec dk_law15 42 rfl) rfl ?_
  refine mm_iload C (mm_dec dk_law15 43 rfl) rfl ?_
  refine mm_iconst C (mm_dec dk_law15 44 rfl) ⟨by decide, by decide⟩ ?_
  refine mm_iadd C (mm_dec dk_law15 45 rfl) ⟨by omega, by omega⟩ ?_
  refine mm_sld C X (mm_dec dk_law15 46 rfl) (by omega) (by omega) ?_
  refine mm_i2l C (mm_dec dk_law15 47 rfl) ?_
  refine mm_ldc2 (z := 4294967295) C (mm_dec dk_law15 48 rfl) kc_L_198 (by decide) ?_
  refine mm_land C (mm_dec dk_law15 49 rfl) ?_
  refine mm_lor C (mm_dec dk_law15 50 rfl) ?_
  refine mm_aload_n C (mm_dec dk_law15 51 rfl) rfl ?_
  refine mm_iload C (mm_dec dk_law15 52 rfl) rfl ?_
  refine mm_iconst C (mm_dec dk_law15 53 rfl) ⟨by decide, by decide⟩ ?_
  refine mm_iadd C (mm_dec dk_law15 54 rfl) ⟨by omega, by omega⟩ ?_
  refine mm_sld C X (mm_dec dk_law15 55 rfl) (by omega) (by omega) ?_
  refine mm_cVi (d := 59) (rest := []) C ev_L_203 (mm_dec dk_law15 56 rfl) (c_X12_draw x.2.1 hl 59 (by decide) h1 i1 (mm_sc xs (i + 1)) (mm_vlor (mm_vlshl (mm_sc xs (i + 2)) 32) (mm_vland (mm_sc xs (i + 3)) 4294967295)) (mm_sc xs (i + 4))) rfl rfl (Nat.le_of_ble_eq_true rfl) ⟨by omega, by omega⟩ rfl (fun r2 h2 hp2 => ?_) (fun _ _ q => q.elim)
  obtain ⟨b2, i2, g2⟩ := hp2
  have q2_1_5 : h2.1 1 5 = h1.1 1 5 := g2.1 1 5 (by decide)
  have q2_66_1 : h2.1 66 1 = h1.1 66 1 := g2.1 66 1 (by decide)
  have q2_1_6 : h2.1 1 6 = h1.1 1 6 := g2.1 1 6 (by decide)
  have q2_66_2 : h2.1 66 2 = h1.1 66 2 := g2.1 66 2 (by decide)
  have q2_14_8 : h2.1 14 8 = h1.1 14 8 := g2.1 14 8 (by decide)
  have q2_66_22 : h2.1 66 22 = h1.1 66 22 := g2.1 66 22 (by decide)
  have q2_22_8 : h2.1 22 8 = h1.1 22 8 := g2.1 22 8 (by decide)
  have q2_66_23 : h2.1 66 23 = h1.1 66 23 := g2.1 66 23 (by decide)
  have q2_14_7 : h2.1 14 7 = h1.1 14 7 := g2.1 14 7 (by decide)
  have q2_66_21 : h2.1 66 21 = h1.1 66 21 := g2.1 66 21 (by decide)
  have q2_22_9 : h2.1 22 9 = h1.1 22 9 := g2.1 22 9 (by decide)
  have q2_66_24 : h2.1 66 24 = h1.1 66 24 := g2.1 66 24 (by decide)
  have q2_0_12 : h2.1 0 12 = h1.1 0 12 := g2.1 0 12 (by decide)
  have q2_66_56 : h2.1 66 56 = h1.1 66 56 := g2.1 66 56 (by decide)
  have q2_58_10 : h2.1 58 10 = h1.1 58 10 := g2.1 58 10 (by decide)
  have q2_66_95 : h2.1 66 95 = h1.1 66 95 := g2.1 66 95 (by decide)
  have q2_58_9 : h2.1 58 9 = h1.1 58 9 := g2.1 58 9 (by decide)
  have q2_66_96 : h2.1 66 96 = h1.1 66 96 := g2.1 66 96 (by decide)
  have q2_58_8 : h2.1 58 8 = h1.1 58 8 := g2.1 58 8 (by decide)
  have q2_66_97 : h2.1 66 97 = h1.1 66 97 := g2.1 66 97 (by decide)
  have q2_1_7 : h2.1 1 7 = h1.1 1 7 := g2.1 1 7 (by decide)
  have q2_66_3 : h2.1 66 3 = h1.1 66 3 := g2.1 66 3 (by decide)
  have q2_66_9 : h2.1 66 9 = h1.1 66 9 := g2.1 66 9 (by decide)
  have q2_66_10 : h2.1 66 10 = h1.1 66 10 := g2.1 66 10 (by decide)
  have q2_1_8 : h2.1 1 8 = h1.1 1 8 := g2.1 1 8 (by decide)
  have q2_66_11 : h2.1 66 11 = h1.1 66 11 := g2.1 66 11 (by decide)
  have q2_66_12 : h2.1 66 12 = h1.1 66 12 := g2.1 66 12 (by decide)
  have qa2 : h2.2.1 124 0 = h1.2.1 124 0 := g2.2 124 (by decide) 0
  refine mm_istoreL (ls2 := [mR 3000, mR 0, mR 66, mR 124, mI i, mI r1, mI r2, mU]) C (mm_dec dk_law15 57 rfl) (by decide) rfl ?_
  refine mm_goto (tgt := 1668) C (mm_dec dk_law15 58 rfl) (by decide) ?_
  refine mm_fgt 5 ?_
  refine mm_fgt 6 ?_
  have ze := mm_zf_eq (show h2.1 58 5 = h.1 58 5 from (g2.1 58 5 (by decide)).trans ((g1.1 58 5 (by decide)).trans (rfl)))
  refine mm_widen (k := mm_aA (i + 6) h2) (n := mm_bB (i + 6) h2) (by rw [show mm_aA (i + 6) h2 = 200 + (i + 6).toNat + (mm_zf h).1 from by unfold mm_aA; rw [ze]]; omega) (by rw [show mm_bB (i + 6) h2 = 90000 + 6 * (i + 6).toNat + (mm_zf h).2 from by unfold mm_bB; rw [ze]]; omega) ?_
  exact K h2 i2 (mm_RO_fr (mm_RO_fr (r0) g1 (by decide)) g2 (by decide)) (by unfold mm_Rl; exact ⟨by omega, by omega, by omega, by omega, by omega, by omega, by omega, by omega, by omega, by omega, mm_eq_fr (mm_eq_fr (ra0) g1 (by decide) (by decide)) g2 (by decide) (by decide), mm_eq_fr (mm_eq_fr (ra1) g1 (by decide) (by decide)) g2 (by decide) (by decide), mm_eq_le (mm_eq_fr (mm_eq_fr (ra2) g1 (by decide) (by decide)) g2 (by decide) (by decide)) (by omega), mm_eq_le (mm_eq_fr (mm_eq_fr (ra3) g1 (by decide) (by decide)) g2 (by decide) (by decide)) (by omega), mm_eq_le (mm_eq_fr (mm_eq_fr (ra4) g1 (by decide) (by decide)) g2 (by decide) (by decide)) (by omega), mm_eq_le (mm_eq_fr (mm_eq_fr (ra5) g1 (by decide) (by decide)) g2 (by decide) (by decide)) (by omega), mm_tk_sm (mm_tk_sm (ra6) (fun j => g1.2 18 (by decide) j) (fun j => g1.2 85 (by decide) j) (by omega) (by omega)) (fun j => g2.2 18 (by decide) j) (fun j => g2.2 85 (by decide) j) (by omega) (by omega), mm_cb_sm (mm_cb_sm (ra7) (fun j => g1.2 85 (by decide) j) (by omega) (by omega)) (fun j => g2.2 85 (by decide) j) (by omega) (by omega), mm_fb_sm (mm_fb_sm (ra8) (fun j => g1.2 20 (by decide) j) (by omega)) (fun j => g2.2 20 (by decide) j) (by omega), mm_eq_fr (mm_eq_fr (ra9) g1 (by decide) (by decide)) g2 (by decide) (by decide), mm_eq_fr (mm_eq_fr (ra10) g1 (by decide) (by decide)) g2 (by decide) (by decide), mm_eq_fr (mm_eq_fr (ra11) g1 (by decide) (by decide)) g2 (by decide) (by decide), mm_eq_le (mm_eq_fr (mm_eq_fr (ra12) g1 (by decide) (by decide)) g2 (by decide) (by decide)) (by omega), mm_go_sm (mm_go_sm (ra13) (fun j => g1.2 6 (by decide) j) (by omega) (by omega) (by omega) (by omega) (by omega) (by omega)) (fun j => g2.2 6 (by decide) j) (by omega) (by omega) (by omega) (by omega) (by omega) (by omega), mm_eq_le (mm_eq_fr (mm_eq_fr (ra14) g1 (by decide) (by decide)) g2 (by decide) (by decide)) (by omega), mm_eq_le (mm_eq_fr (mm_eq_fr (ra15) g1 (by decide) (by decide)) g2 (by decide) (by decide)) (by omega), mm_it_sm (mm_it_sm (ra16) (fun j => g1.2 28 (by decide) j) (fun j => g1.2 88 (by decide) j) (by omega)) (fun j => g2.2 28 (by decide) j) (fun j => g2.2 88 (by decide) j) (by omega), mm_br_sm (mm_br_sm (ra17) (fun j => g1.2 21 (by decide) j) (fun j => g1.2 82 (by decide) j) (fun j => g1.2 84 (by decide) j) (fun j => g1.2 19 (by decide) j) (by omega)) (fun j => g2.2 21 (by decide) j) (fun j => g2.2 82 (by decide) j) (fun j => g2.2 84 (by decide) j) (fun j => g2.2 19 (by decide) j) (by omega), mm_gn_sm (mm_gn_sm (ra18)  (by omega) (by omega) (by omega) (by omega) (by omega))  (by omega) (by omega) (by omega) (by omega) (by omega), mm_pc_sm (mm_pc_sm (ra19) (fun j => g1.2 15 (by decide) j) (by omega) (by omega) (by omega)) (fun j => g2.2 15 (by decide) j) (by omega) (by omega) (by omega), mm_bv_sm (mm_bv_sm (ra20) (fun j => g1.2 21 (by decide) j) (fun j => g1.2 19 (by decide) j) (by omega) (by omega)) (fun j => g2.2 21 (by decide) j) (fun j => g2.2 19 (by decide) j) (by omega) (by omega), mm_eq_le (mm_eq_fr (mm_eq_fr (ra21) g1 (by decide) (by decide)) g2 (by decide) (by decide)) (by omega)⟩)
set_option maxRecDepth 100000 in
set_option maxHeartbeats 4000000 in
theorem lw_c26 {x : mX} {L : Nat} {xs : Nat → Int32} (C : mm_OK 60 1082649 5848156 code RL 8 ret x) (X : mm_scr x L xs) (hl : x.2.1.stackTraces = false) (hL : L ≤ 3072) (i : Int) (hi : 0 ≤ i ∧ i + 6 ≤ L) (h : mH) (i0 : mm_inv h) (r0 : mm_RO h) (rl0 : mm_Rl h) (K : mm_K x i) : mm_W x (mm_aA i h) (mm_bB i h) 1476 (mm_lls i) [] h := by
  have zl := mm_zf_le h
  have ea : mm_aA i h = 200 + i.toNat + (mm_zf h).1 := rfl
  have eb : mm_bB i h = 90000 + 6 * i.toNat + (mm_zf h).2 := rfl
  obtain ⟨rs0, rs1, rs2, rs3, rs4, rs5, rs6, rs7, rs8, rs9, ra0, ra1, ra2, ra3, ra4, ra5, ra6, ra7, ra8, ra9, ra10, ra11, ra12, ra13, ra14, ra15, ra16, ra17, ra18, ra19, ra20, ra21⟩ := rl0
  refine mm_aload_n C (mm_dec dk_law15 59 rfl) rfl ?_
  refine mm_aload_n C (mm_dec dk_law16 0 rfl) rfl ?_
  refine mm_iload C (mm_dec dk_law16 1 rfl) rfl ?_
  refine mm_iconst C (mm_dec dk_law16 2 rfl) ⟨by decide, by decide⟩ ?_
  refine mm_iadd C (mm_dec dk_law16 3 rfl) ⟨by omega, by omega⟩ ?_
  refine mm_sld C X (mm_dec dk_law16 4 rfl) (by omega) (by omega) ?_
  refine mm_aload_n C (mm_dec dk_law16 5 rfl) rfl ?_
  refine mm_iload C (mm_dec dk_law16 6 rfl) rfl ?_
  refine mm_iconst C (mm_dec dk_law16 7 rfl) ⟨by decide, by decide⟩ ?_
  refine mm_iadd C (mm_dec dk_law16 8 rfl) ⟨by omega, by omega⟩ ?_
  refine mm_sld C X (mm_dec dk_law16 9 rfl) (by omega) (by omega) ?_
  refine mm_aload_n C (mm_dec dk_law16 10 rfl) rfl ?_
  by_cases hf : h.1 58 5 = 1
  · refine mm_cHi (d := 59) (rest := []) C mh_L_best ml_L_204 sm_L_best (mm_dec dk_law16 11 rfl) (c_L_best_tq x.2.1 hl 59 (by decide) h i0 (mm_sc xs (i + 1)) (mm_sc xs (i + 2)) hf) rfl (Nat.le_of_ble_eq_true rfl) ⟨by omega, by omega⟩ rfl (fun r1 h1 hp1 => ?_)
    obtain ⟨b1, i1, g1, y1_0, y1_1⟩ := hp1
    have q1_1_5 : h1.1 1 5 = h.1 1 5 := g1.1 1 5 (by decide)
    have q1_66_1 : h1.1 66 1 = h.1 66 1 := g1.1 66 1 (by decide)
    have q1_1_6 : h1.1 1 6 = h.1 1 6 := g1.1 1 6 (by decide)
    have q1_66_2 : h1.1 66 2 = h.1 66 2 := g1.1 66 2 (by decide)
    have q1_14_8 : h1.1 14 8 = h.1 14 8 := g1.1 14 8 (by decide)
    have q1_66_22 : h1.1 66 22 = h.1 66 22 := g1.1 66 22 (by decide)
    have q1_22_8 : h1.1 22 8 = h.1 22 8 := g1.1 22 8 (by decide)
    have q1_66_23 : h1.1 66 23 = h.1 66 23 := g1.1 66 23 (by decide)
    have q1_14_7 : h1.1 14 7 = h.1 14 7 := g1.1 14 7 (by decide)
    have q1_66_21 : h1.1 66 21 = h.1 66 21 := g1.1 66 21 (by decide)
    have q1_22_9 : h1.1 22 9 = h.1 22 9 := g1.1 22 9 (by decide)
    have q1_66_24 : h1.1 66 24 = h.1 66 24 := g1.1 66 24 (by decide)
    have q1_0_12 : h1.1 0 12 = h.1 0 12 := g1.1 0 12 (by decide)
    have q1_66_56 : h1.1 66 56 = h.1 66 56 := g1.1 66 56 (by decide)
    have q1_66_95 : h1.1 66 95 = h.1 66 95 := g1.1 66 95 (by decide)
    have q1_66_96 : h1.1 66 96 = h.1 66 96 := g1.1 66 96 (by decide)
    have q1_66_97 : h1.1 66 97 = h.1 66 97 := g1.1 66 97 (by decide)
    have q1_1_7 : h1.1 1 7 = h.1 1 7 := g1.1 1 7 (by decide)
    have q1_66_3 : h1.1 66 3 = h.1 66 3 := g1.1 66 3 (by decide)
    have q1_66_9 : h1.1 66 9 = h.1 66 9 := g1.1 66 9 (by decide)
    have q1_66_10 : h1.1 66 10 = h.1 66 10 := g1.1 66 10 (by decide)
    have q1_1_8 : h1.1 1 8 = h.1 1 8 := g1.1 1 8 (by decide)
    have q1_66_11 : h1.1 66 11 = h.1 66 11 := g1.1 66 11 (by decide)
    have q1_66_12 : h1.1 66 12 = h.1 66 12 := g1.1 66 12 (by decide)
    refine mm_istoreL (ls2 := [mR 3000, mR 0, mR 66, mR 124, mI i, mI r1, mU, mU]) C (mm_dec dk_law16 12 rfl) (by decide) rfl ?_
    refine mm_aload_n C (mm_dec dk_law16 13 rfl) rfl ?_
    refine mm_aload_n C (mm_dec dk_law16 14 rfl) rfl ?_
    refine mm_iload C (mm_dec dk_law16 15 rfl) rfl ?_
    refine mm_iconst C (mm_dec dk_law16 16 rfl) ⟨by decide, by decide⟩ ?_
    refine mm_iadd C (mm_dec dk_law16 17 rfl) ⟨by omega, by omega⟩ ?_
    refine mm_sld C X (mm_dec dk_law16 18 rfl) (by omega) (by omega) ?_
    refine mm_aload_n C (mm_dec dk_law16 19 rfl) rfl ?_
    refine mm_iload C (mm_dec dk_law16 20 rfl) rfl ?_
    refine mm_iconst C (mm_dec dk_law16 21 rfl) ⟨by decide, by decide⟩ ?_
    refine mm_iadd C (mm_dec dk_law16 22 rfl) ⟨by omega, by omega⟩ ?_
    refine mm_sld C X (mm_dec dk_law16 23 rfl) (by omega) (by omega) ?_
    refine mm_cVi (d := 59) (rest := []) C ev_L_206 (mm_dec dk_law16 24 rfl) (c_X12_best_q x.2.1 hl 59 (by decide) h1 i1 (mm_sc xs (i + 1)) (mm_sc xs (i + 2))) rfl rfl (Nat.le_of_ble_eq_true rfl) ⟨by omega, by omega⟩ rfl (fun r11 h11 hp11 => ?_) (fun _ _ q => q.elim)
    obtain ⟨b11, i11, g11, y11_0, y11_1, y11_2⟩ := hp11
    have q11_1_5 : h11.1 1 5 = h1.1 1 5 := g11.1 1 5 (by decide)
    have q11_66_1 : h11.1 66 1 = h1.1 66 1 := g11.1 66 1 (by decide)
    have q11_1_6 : h11.1 1 6 = h1.1 1 6 := g11.1 1 6 (by decide)
    have q11_66_2 : h11.1 66 2 = h1.1 66 2 := g11.1 66 2 (by decide)
    have q11_14_8 : h11.1 14 8 = h1.1 14 8 := g11.1 14 8 (by decide)
    have q11_66_22 : h11.1 66 22 = h1.1 66 22 := g11.1 66 22 (by decide)
    have q11_22_8 : h11.1 22 8 = h1.1 22 8 := g11.1 22 8 (by decide)
    have q11_66_23 : h11.1 66 23 = h1.1 66 23 := g11.1 66 23 (by decide)
    have q11_14_7 : h11.1 14 7 = h1.1 14 7 := g11.1 14 7 (by decide)
    have q11_66_21 : h11.1 66 21 = h1.1 66 21 := g11.1 66 21 (by decide)
    have q11_22_9 : h11.1 22 9 = h1.1 22 9 := g11.1 22 9 (by decide)
    have q11_66_24 : h11.1 66 24 = h1.1 66 24 := g11.1 66 24 (by decide)
    have q11_0_12 : h11.1 0 12 = h1.1 0 12 := g11.1 0 12 (by decide)
    have q11_66_56 : h11.1 66 56 = h1.1 66 56 := g11.1 66 56 (by decide)
    have q11_58_10 : h11.1 58 10 = h1.1 58 10 := g11.1 58 10 (by decide)
    have q11_58_9 : h11.1 58 9 = h1.1 58 9 := g11.1 58 9 (by decide)
    have q11_58_8 : h11.1 58 8 = h1.1 58 8 := g11.1 58 8 (by decide)
    have q11_1_7 : h11.1 1 7 = h1.1 1 7 := g11.1 1 7 (by decide)
    have q11_66_3 : h11.1 66 3 = h1.1 66 3 := g11.1 66 3 (by decide)
    have q11_66_9 : h11.1 66 9 = h1.1 66 9 := g11.1 66 9 (by decide)
    have q11_66_10 : h11.1 66 10 = h1.1 66 10 := g11.1 66 10 (by decide)
    have q11_1_8 : h11.1 1 8 = h1.1 1 8 := g11.1 1 8 (by decide)
    have q11_66_11 : h11.1 66 11 = h1.1 66 11 := g11.1 66 11 (by decide)
    have q11_66_12 : h11.1 66 12 = h1.1 66 12 := g11.1 66 12 (by decide)
    have R : mm_RW h := ⟨i0, by omega, by omega, by omega, by omega, ra0, ra1, ra9, ra10, ra11, ra13, ra18, ra19, ra20, ra17, ra7, ra2, ra4, ra14, ra15⟩
    have y9 : mm_hd _ := y1_1
    have y8 : mm_hd _ := y11_1
    clear y1_1 y11_1
    have eW : r1 ≠ 0 ∨ (h1.2.1 124 0 = r11 ∧ h11.1 66 95 = h1.1 58 10 ∧ h11.1 66 96 = h1.1 58 9 ∧ h11.1 66 97 = h1.1 58 8) := by
      by_cases q : r1 = 0
      · have z0 : h11.1 66 0 = 0 := by omega
        exact Or.inr (mm_best_law R ra3 ra21 (by omega) (by omega) ((mm_hd_x y9).2 q) (mm_hd_x y8 z0) (mm_lnd_fr g1 (by decide)) (fun j => g1.2 78 (by decide) j) (fun j => g1.2 79 (by decide) j) (fun j => g1.2 80 (by decide) j) (fun j => g1.2 82 (by decide) j) (fun j => g1.2 83 (by decide) j) (g1.1 66 9 (by decide)) (g1.1 66 10 (by decide)) (g1.1 66 11 (by decide)) (g1.1 66 12 (by decide)) (by omega) (by omega) (by omega))
      · exact Or.inl q
    have qa11 : h11.2.1 124 0 = h1.2.1 124 0 := g11.2 124 (by decide) 0
    refine mm_istoreL (ls2 := [mR 3000, mR 0, mR 66, mR 124, mI i, mI r1, mI r11, mU]) C (mm_dec dk_law16 25 rfl) (by decide) rfl ?_
    refine mm_goto (tgt := 1668) C (mm_dec dk_law16 26 rfl) (by decide) ?_
    refine mm_fgt 5 ?_
    refine mm_fgt 6 ?_
    have ze := mm_zf_eq (show h11.1 58 5 = h.1 58 5 from (g11.1 58 5 (by decide)).trans (y1_0.2.trans (hf.symm.trans (rfl))))
    refine mm_widen (k := mm_aA (i + 6) h11) (n := mm_bB (i + 6) h11) (by rw [show mm_aA (i + 6) h11 = 200 + (i + 6).toNat + (mm_zf h).1 from by unfold mm_aA; rw [ze]]; omega) (by rw [show mm_bB (i + 6) h11 = 90000 + 6 * (i + 6).toNat + (mm_zf h).2 from by unfold mm_bB; rw [ze]]; omega) ?_
    exact K h11 i11 (mm_RO_fr (mm_RO_fr (r0) g1 (by decide)) g11 (by decide)) (by unfold mm_Rl; exact ⟨by omega, by omega, by omega, by omega, by omega, by omega, by omega, by omega, by omega, by omega, mm_eq_fr (mm_eq_fr (ra0) g1 (by decide) (by decide)) g11 (by decide) (by decide), mm_eq_fr (mm_eq_fr (ra1) g1 (by decide) (by decide)) g11 (by decide) (by decide), mm_eq_le (mm_eq_fr (mm_eq_fr (ra2) g1 (by decide) (by decide)) g11 (by decide) (by decide)) (by omega), mm_eq_le (mm_eq_fr (mm_eq_fr (ra3) g1 (by decide) (by decide)) g11 (by decide) (by decide)) (by omega), mm_eq_le (mm_eq_fr (mm_eq_fr (ra4) g1 (by decide) (by decide)) g11 (by decide) (by decide)) (by omega), mm_eq_le (mm_eq_fr (mm_eq_fr (ra5) g1 (by decide) (by decide)) g11 (by decide) (by decide)) (by omega), mm_tk_sm (mm_tk_sm (ra6) (fun j => g1.2 18 (by decide) j) (fun j => g1.2 85 (by decide) j) (by omega) (by omega)) (fun j => g11.2 18 (by decide) j) (fun j => g11.2 85 (by decide) j) (by omega) (by omega), mm_cb_sm (mm_cb_sm (ra7) (fun j => g1.2 85 (by decide) j) (by omega) (by omega)) (fun j => g11.2 85 (by decide) j) (by omega) (by omega), mm_fb_sm (mm_fb_sm (ra8) (fun j => g1.2 20 (by decide) j) (by omega)) (fun j => g11.2 20 (by decide) j) (by omega), mm_eq_fr (mm_eq_fr (ra9) g1 (by decide) (by decide)) g11 (by decide) (by decide), mm_eq_fr (mm_eq_fr (ra10) g1 (by decide) (by decide)) g11 (by decide) (by decide), mm_eq_fr (mm_eq_fr (ra11) g1 (by decide) (by decide)) g11 (by decide) (by decide), mm_eq_le (mm_eq_fr (mm_eq_fr (ra12) g1 (by decide) (by decide)) g11 (by decide) (by decide)) (by omega), mm_go_sm (mm_go_sm (ra13) (fun j => g1.2 6 (by decide) j) (by omega) (by omega) (by omega) (by omega) (by omega) (by omega)) (fun j => g11.2 6 (by decide) j) (by omega) (by omega) (by omega) (by omega) (by omega) (by omega), mm_eq_le (mm_eq_fr (mm_eq_fr (ra14) g1 (by decide) (by decide)) g11 (by decide) (by decide)) (by omega), mm_eq_le (mm_eq_fr (mm_eq_fr (ra15) g1 (by decide) (by decide)) g11 (by decide) (by decide)) (by omega), mm_it_sm (mm_it_sm (ra16) (fun j => g1.2 28 (by decide) j) (fun j => g1.2 88 (by decide) j) (by omega)) (fun j => g11.2 28 (by decide) j) (fun j => g11.2 88 (by decide) j) (by omega), mm_br_sm (mm_br_sm (ra17) (fun j => g1.2 21 (by decide) j) (fun j => g1.2 82 (by decide) j) (fun j => g1.2 84 (by decide) j) (fun j => g1.2 19 (by decide) j) (by omega)) (fun j => g11.2 21 (by decide) j) (fun j => g11.2 82 (by decide) j) (fun j => g11.2 84 (by decide) j) (fun j => g11.2 19 (by decide) j) (by omega), mm_gn_sm (mm_gn_sm (ra18)  (by omega) (by omega) (by omega) (by omega) (by omega))  (by omega) (by omega) (by omega) (by omega) (by omega), mm_pc_sm (mm_pc_sm (ra19) (fun j => g1.2 15 (by decide) j) (by omega) (by omega) (by omega)) (fun j => g11.2 15 (by decide) j) (by omega) (by omega) (by omega), mm_bv_sm (mm_bv_sm (ra20) (fun j => g1.2 21 (by decide) j) (fun j => g1.2 19 (by decide) j) (by omega) (by omega)) (fun j => g11.2 21 (by decide) j) (fun j => g11.2 19 (by decide) j) (by omega) (by omega), mm_eq_le (mm_eq_fr (mm_eq_fr (ra21) g1 (by decide) (by decide)) g11 (by decide) (by decide)) (by omega)⟩)
  · have hf2 : 0 ≤ h.1 58 5 ∧ h.1 58 5 ≤ 1 := i0.1 58 5
    by_cases hb : (mm_sc xs (i + 1)) < 0 ∨ h.1 14 8 ≤ (mm_sc xs (i + 1)) ∨ (mm_sc xs (i + 2)) < 0
    · refine mm_cHi (d := 59) (rest := []) C mh_L_best ml_L_204 sm_L_best (mm_dec dk_law16 11 rfl) (c_L_best_xq x.2.1 hl 59 (by decide) h i0 (mm_sc xs (i + 1)) (mm_sc xs (i + 2)) hb) rfl (Nat.le_of_ble_eq_true rfl) ⟨by omega, by omega⟩ rfl (fun r2 h2 hp2 => ?_)
      obtain ⟨b2, i2, g2, y2_0, y2_1⟩ := hp2
      have q2_1_5 : h2.1 1 5 = h.1 1 5 := g2.1 1 5 (by decide)
      have q2_66_1 : h2.1 66 1 = h.1 66 1 := g2.1 66 1 (by decide)
      have q2_1_6 : h2.1 1 6 = h.1 1 6 := g2.1 1 6 (by decide)
      have q2_66_2 : h2.1 66 2 = h.1 66 2 := g2.1 66 2 (by decide)
      have q2_14_8 : h2.1 14 8 = h.1 14 8 := g2.1 14 8 (by decide)
      have q2_66_22 : h2.1 66 22 = h.1 66 22 := g2.1 66 22 (by decide)
      have q2_22_8 : h2.1 22 8 = h.1 22 8 := g2.1 22 8 (by decide)
      have q2_66_23 : h2.1 66 23 = h.1 66 23 := g2.1 66 23 (by decide)
      have q2_14_7 : h2.1 14 7 = h.1 14 7 := g2.1 14 7 (by decide)
      have q2_66_21 : h2.1 66 21 = h.1 66 21 := g2.1 66 21 (by decide)
      have q2_22_9 : h2.1 22 9 = h.1 22 9 := g2.1 22 9 (by decide)
      have q2_66_24 : h2.1 66 24 = h.1 66 24 := g2.1 66 24 (by decide)
      have q2_0_12 : h2.1 0 12 = h.1 0 12 := g2.1 0 12 (by decide)
      have q2_66_56 : h2.1 66 56 = h.1 66 56 := g2.1 66 56 (by decide)
      have q2_66_95 : h2.1 66 95 = h.1 66 95 := g2.1 66 95 (by decide)
      have q2_66_96 : h2.1 66 96 = h.1 66 96 := g2.1 66 96 (by decide)
      have q2_66_97 : h2.1 66 97 = h.1 66 97 := g2.1 66 97 (by decide)
      have q2_1_7 : h2.1 1 7 = h.1 1 7 := g2.1 1 7 (by decide)
      have q2_66_3 : h2.1 66 3 = h.1 66 3 := g2.1 66 3 (by decide)
      have q2_66_9 : h2.1 66 9 = h.1 66 9 := g2.1 66 9 (by decide)
      have q2_66_10 : h2.1 66 10 = h.1 66 10 := g2.1 66 10 (by decide)
      have q2_1_8 : h2.1 1 8 = h.1 1 8 := g2.1 1 8 (by decide)
      have q2_66_11 : h2.1 66 11 = h.1 66 11 := g2.1 66 11 (by decide)
      have q2_66_12 : h2.1 66 12 = h.1 66 12 := g2.1 66 12 (by decide)
      refine mm_istoreL (ls2 := [mR 3000, mR 0, mR 66, mR 124, mI i, mI r2, mU, mU]) C (mm_dec dk_law16 12 rfl) (by decide) rfl ?_
      refine mm_aload_n C (mm_dec dk_law16 13 rfl) rfl ?_
      refine mm_aload_n C (mm_dec dk_law16 14 rfl) rfl ?_
      refine mm_iload C (mm_dec dk_law16 15 rfl) rfl ?_
      refine mm_iconst C (mm_dec dk_law16 16 rfl) ⟨by decide, by decide⟩ ?_
      refine mm_iadd C (mm_dec dk_law16 17 rfl) ⟨by omega, by omega⟩ ?_
      refine mm_sld C X (mm_dec dk_law16 18 rfl) (by omega) (by omega) ?_
      refine mm_aload_n C (mm_dec dk_law16 19 rfl) rfl ?_
      refine mm_iload C (mm_dec dk_law16 20 rfl) rfl ?_
      refine mm_iconst C (mm_dec dk_law16 21 rfl) ⟨by decide, by decide⟩ ?_
      refine mm_iadd C (mm_dec dk_law16 22 rfl) ⟨by omega, by omega⟩ ?_
      refine mm_sld C X (mm_dec dk_law16 23 rfl) (by omega) (by omega) ?_
      refine mm_cVi (d := 59) (rest := []) C ev_L_206 (mm_dec dk_law16 24 rfl) (c_X12_best_q x.2.1 hl 59 (by decide) h2 i2 (mm_sc xs (i + 1)) (mm_sc xs (i + 2))) rfl rfl (Nat.le_of_ble_eq_true rfl) ⟨by omega, by omega⟩ rfl (fun r21 h21 hp21 => ?_) (fun _ _ q => q.elim)
      obtain ⟨b21, i21, g21, y21_0, y21_1, y21_2⟩ := hp21
      have q21_1_5 : h21.1 1 5 = h2.1 1 5 := g21.1 1 5 (by decide)
      have q21_66_1 : h21.1 66 1 = h2.1 66 1 := g21.1 66 1 (by decide)
      have q21_1_6 : h21.1 1 6 = h2.1 1 6 := g21.1 1 6 (by decide)
      have q21_66_2 : h21.1 66 2 = h2.1 66 2 := g21.1 66 2 (by decide)
      have q21_14_8 : h21.1 14 8 = h2.1 14 8 := g21.1 14 8 (by decide)
      have q21_66_22 : h21.1 66 22 = h2.1 66 22 := g21.1 66 22 (by decide)
      have q21_22_8 : h21.1 22 8 = h2.1 22 8 := g21.1 22 8 (by decide)
      have q21_66_23 : h21.1 66 23 = h2.1 66 23 := g21.1 66 23 (by decide)
      have q21_14_7 : h21.1 14 7 = h2.1 14 7 := g21.1 14 7 (by decide)
      have q21_66_21 : h21.1 66 21 = h2.1 66 21 := g21.1 66 21 (by decide)
      have q21_22_9 : h21.1 22 9 = h2.1 22 9 := g21.1 22 9 (by decide)
      have q21_66_24 : h21.1 66 24 = h2.1 66 24 := g21.1 66 24 (by decide)
      have q21_0_12 : h21.1 0 12 = h2.1 0 12 := g21.1 0 12 (by decide)
      have q21_66_56 : h21.1 66 56 = h2.1 66 56 := g21.1 66 56 (by decide)
      have q21_58_10 : h21.1 58 10 = h2.1 58 10 := g21.1 58 10 (by decide)
      have q21_58_9 : h21.1 58 9 = h2.1 58 9 := g21.1 58 9 (by decide)
      have q21_58_8 : h21.1 58 8 = h2.1 58 8 := g21.1 58 8 (by decide)
      have q21_1_7 : h21.1 1 7 = h2.1 1 7 := g21.1 1 7 (by decide)
      have q21_66_3 : h21.1 66 3 = h2.1 66 3 := g21.1 66 3 (by decide)
      have q21_66_9 : h21.1 66 9 = h2.1 66 9 := g21.1 66 9 (by decide)
      have q21_66_10 : h21.1 66 10 = h2.1 66 10 := g21.1 66 10 (by decide)
      have q21_1_8 : h21.1 1 8 = h2.1 1 8 := g21.1 1 8 (by decide)
      have q21_66_11 : h21.1 66 11 = h2.1 66 11 := g21.1 66 11 (by decide)
      have q21_66_12 : h21.1 66 12 = h2.1 66 12 := g21.1 66 12 (by decide)
      have R : mm_RW h := ⟨i0, by omega, by omega, by omega, by omega, ra0, ra1, ra9, ra10, ra11, ra13, ra18, ra19, ra20, ra17, ra7, ra2, ra4, ra14, ra15⟩
      have y9 : mm_hd _ := y2_1
      have y8 : mm_hd _ := y21_1
      clear y2_1 y21_1
      have eW : r2 ≠ 0 ∨ (h2.2.1 124 0 = r21 ∧ h21.1 66 95 = h2.1 58 10 ∧ h21.1 66 96 = h2.1 58 9 ∧ h21.1 66 97 = h2.1 58 8) := by
        by_cases q : r2 = 0
        · have z0 : h21.1 66 0 = 0 := by omega
          exact Or.inr (mm_best_law R ra3 ra21 (by omega) (by omega) ((mm_hd_x y9).2 q) (mm_hd_x y8 z0) (mm_lnd_fr g2 (by decide)) (fun j => g2.2 78 (by decide) j) (fun j => g2.2 79 (by decide) j) (fun j => g2.2 80 (by decide) j) (fun j => g2.2 82 (by decide) j) (fun j => g2.2 83 (by decide) j) (g2.1 66 9 (by decide)) (g2.1 66 10 (by decide)) (g2.1 66 11 (by decide)) (g2.1 66 12 (by decide)) (by omega) (by omega) (by omega))
        · exact Or.inl q
      have qa21 : h21.2.1 124 0 = h2.2.1 124 0 := g21.2 124 (by decide) 0
      refine mm_istoreL (ls2 := [mR 3000, mR 0, mR 66, mR 124, mI i, mI r2, mI r21, mU]) C (mm_dec dk_law16 25 rfl) (by decide) rfl ?_
      refine mm_goto (tgt := 1668) C (mm_dec dk_law16 26 rfl) (by decide) ?_
      refine mm_fgt 5 ?_
      refine mm_fgt 6 ?_
      have ze := mm_zf_eq (show h21.1 58 5 = h.1 58 5 from (g21.1 58 5 (by decide)).trans ((g2.1 58 5 (by decide)).trans (rfl)))
      refine mm_widen (k := mm_aA (i + 6) h21) (n := mm_bB (i + 6) h21) (by rw [show mm_aA (i + 6) h21 = 200 + (i + 6).toNat + (mm_zf h).1 from by unfold mm_aA; rw [ze]]; omega) (by rw [show mm_bB (i + 6) h21 = 90000 + 6 * (i + 6).toNat + (mm_zf h).2 from by unfold mm_bB; rw [ze]]; omega) ?_
      exact K h21 i21 (mm_RO_fr (mm_RO_fr (r0) g2 (by decide)) g21 (by decide)) (by unfold mm_Rl; exact ⟨by omega, by omega, by omega, by omega, by omega, by omega, by omega, by omega, by omega, by omega, mm_eq_fr (mm_eq_fr (ra0) g2 (by decide) (by decide)) g21 (by decide) (by decide), mm_eq_fr (mm_eq_fr (ra1) g2 (by decide) (by decide)) g21 (by decide) (by decide), mm_eq_le (mm_eq_fr (mm_eq_fr (ra2) g2 (by decide) (by decide)) g21 (by decide) (by decide)) (by omega), mm_eq_le (mm_eq_fr (mm_eq_fr (ra3) g2 (by decide) (by decide)) g21 (by decide) (by decide)) (by omega), mm_eq_le (mm_eq_fr (mm_eq_fr (ra4) g2 (by decide) (by decide)) g21 (by decide) (by decide)) (by omega), mm_eq_le (mm_eq_fr (mm_eq_fr (ra5) g2 (by decide) (by decide)) g21 (by decide) (by decide)) (by omega), mm_tk_sm (mm_tk_sm (ra6) (fun j => g2.2 18 (by decide) j) (fun j => g2.2 85 (by decide) j) (by omega) (by omega)) (fun j => g21.2 18 (by decide) j) (fun j => g21.2 85 (by decide) j) (by omega) (by omega), mm_cb_sm (mm_cb_sm (ra7) (fun j => g2.2 85 (by decide) j) (by omega) (by omega)) (fun j => g21.2 85 (by decide) j) (by omega) (by omega), mm_fb_sm (mm_fb_sm (ra8) (fun j => g2.2 20 (by decide) j) (by omega)) (fun j => g21.2 20 (by decide) j) (by omega), mm_eq_fr (mm_eq_fr (ra9) g2 (by decide) (by decide)) g21 (by decide) (by decide), mm_eq_fr (mm_eq_fr (ra10) g2 (by decide) (by decide)) g21 (by decide) (by decide), mm_eq_fr (mm_eq_fr (ra11) g2 (by decide) (by decide)) g21 (by decide) (by decide), mm_eq_le (mm_eq_fr (mm_eq_fr (ra12) g2 (by decide) (by decide)) g21 (by decide) (by decide)) (by omega), mm_go_sm (mm_go_sm (ra13) (fun j => g2.2 6 (by decide) j) (by omega) (by omega) (by omega) (by omega) (by omega) (by omega)) (fun j => g21.2 6 (by decide) j) (by omega) (by omega) (by omega) (by omega) (by omega) (by omega), mm_eq_le (mm_eq_fr (mm_eq_fr (ra14) g2 (by decide) (by decide)) g21 (by decide) (by decide)) (by omega), mm_eq_le (mm_eq_fr (mm_eq_fr (ra15) g2 (by decide) (by decide)) g21 (by decide) (by decide)) (by omega), mm_it_sm (mm_it_sm (ra16) (fun j => g2.2 28 (by decide) j) (fun j => g2.2 88 (by decide) j) (by omega)) (fun j => g21.2 28 (by decide) j) (fun j => g21.2 88 (by decide) j) (by omega), mm_br_sm (mm_br_sm (ra17) (fun j => g2.2 21 (by decide) j) (fun j => g2.2 82 (by decide) j) (fun j => g2.2 84 (by decide) j) (fun j => g2.2 19 (by decide) j) (by omega)) (fun j => g21.2 21 (by decide) j) (fun j => g21.2 82 (by decide) j) (fun j => g21.2 84 (by decide) j) (fun j => g21.2 19 (by decide) j) (by omega), mm_gn_sm (mm_gn_sm (ra18)  (by omega) (by omega) (by omega) (by omega) (by omega))  (by omega) (by omega) (by omega) (by omega) (by omega), mm_pc_sm (mm_pc_sm (ra19) (fun j => g2.2 15 (by decide) j) (by omega) (by omega) (by omega)) (fun j => g21.2 15 (by decide) j) (by omega) (by omega) (by omega), mm_bv_sm (mm_bv_sm (ra20) (fun j => g2.2 21 (by decide) j) (fun j => g2.2 19 (by decide) j) (by omega) (by omega)) (fun j => g21.2 21 (by decide) j) (fun j => g21.2 19 (by decide) j) (by omega) (by omega), mm_eq_le (mm_eq_fr (mm_eq_fr (ra21) g2 (by decide) (by decide)) g21 (by decide) (by decide)) (by omega)⟩)
    · have hz := mm_zf_0 (h := h) (by omega)
      refine mm_cHiZ (d := 59) (rest := []) C mh_L_best ml_L_204 sm_L_best (mm_dec dk_law16 11 rfl) (c_L_best_okq x.2.1 hl 59 (by decide) h i0 (mm_sc xs (i + 1)) (mm_sc xs (i + 2)) (by omega) (by omega) (by omega)) rfl (Nat.le_of_ble_eq_true rfl) ⟨by omega, by omega⟩ rfl (fun r3 h3 hp3 => ?_)
      obtain ⟨b3, i3, g3, y3_0, y3_1⟩ := hp3
      have q3_1_5 : h3.1 1 5 = h.1 1 5 := g3.1 1 5 (by decide)
      have q3_66_1 : h3.1 66 1 = h.1 66 1 := g3.1 66 1 (by decide)
      have q3_1_6 : h3.1 1 6 = h.1 1 6 := g3.1 1 6 (by decide)
      have q3_66_2 : h3.1 66 2 = h.1 66 2 := g3.1 66 2 (by decide)
      have q3_14_8 : h3.1 14 8 = h.1 14 8 := g3.1 14 8 (by decide)
      have q3_66_22 : h3.1 66 22 = h.1 66 22 := g3.1 66 22 (by decide)
      have q3_22_8 : h3.1 22 8 = h.1 22 8 := g3.1 22 8 (by decide)
      have q3_66_23 : h3.1 66 23 = h.1 66 23 := g3.1 66 23 (by decide)
      have q3_14_7 : h3.1 14 7 = h.1 14 7 := g3.1 14 7 (by decide)
      have q3_66_21 : h3.1 66 21 = h.1 66 21 := g3.1 66 21 (by decide)
      have q3_22_9 : h3.1 22 9 = h.1 22 9 := g3.1 22 9 (by decide)
      have q3_66_24 : h3.1 66 24 = h.1 66 24 := g3.1 66 24 (by decide)
      have q3_0_12 : h3.1 0 12 = h.1 0 12 := g3.1 0 12 (by decide)
      have q3_66_56 : h3.1 66 56 = h.1 66 56 := g3.1 66 56 (by decide)
      have q3_66_95 : h3.1 66 95 = h.1 66 95 := g3.1 66 95 (by decide)
      have q3_66_96 : h3.1 66 96 = h.1 66 96 := g3.1 66 96 (by decide)
      have q3_66_97 : h3.1 66 97 = h.1 66 97 := g3.1 66 97 (by decide)
      have q3_1_7 : h3.1 1 7 = h.1 1 7 := g3.1 1 7 (by decide)
      have q3_66_3 : h3.1 66 3 = h.1 66 3 := g3.1 66 3 (by decide)
      have q3_66_9 : h3.1 66 9 = h.1 66 9 := g3.1 66 9 (by decide)
      have q3_66_10 : h3.1 66 10 = h.1 66 10 := g3.1 66 10 (by decide)
      have q3_1_8 : h3.1 1 8 = h.1 1 8 := g3.1 1 8 (by decide)
      have q3_66_11 : h3.1 66 11 = h.1 66 11 := g3.1 66 11 (by decide)
      have q3_66_12 : h3.1 66 12 = h.1 66 12 := g3.1 66 12 (by decide)
      rw [show mm_aA i h = 200 + i.toNat from by unfold mm_aA; rw [hz]; rfl, show mm_bB i h = 90000 + 6 * i.toNat from by unfold mm_bB; rw [hz]; rfl]
      have zl := mm_zf_le h3
      refine mm_istoreL (ls2 := [mR 3000, mR 0, mR 66, mR 124, mI i, mI r3, mU, mU]) C (mm_dec dk_law16 12 rfl) (by decide) rfl ?_
      refine mm_aload_n C (mm_dec dk_law16 13 rfl) rfl ?_
      refine mm_aload_n C (mm_dec dk_law16 14 rfl) rfl ?_
      refine mm_iload C (mm_dec dk_law16 15 rfl) rfl ?_
      refine mm_iconst C (mm_dec dk_law16 16 rfl) ⟨by decide, by decide⟩ ?_
      refine mm_iadd C (mm_dec dk_law16 17 rfl) ⟨by omega, by omega⟩ ?_
      refine mm_sld C X (mm_dec dk_law16 18 rfl) (by omega) (by omega) ?_
      refine mm_aload_n C (mm_dec dk_law16 19 rfl) rfl ?_
      refine mm_iload C (mm_dec dk_law16 20 rfl) rfl ?_
      refine mm_iconst C (mm_dec dk_law16 21 rfl) ⟨by decide, by decide⟩ ?_
      refine mm_iadd C (mm_dec dk_law16 22 rfl) ⟨by omega, by omega⟩ ?_
      refine mm_sld C X (mm_dec dk_law16 23 rfl) (by omega) (by omega) ?_
      refine mm_cVi (d := 59) (rest := []) C ev_L_206 (mm_dec dk_law16 24 rfl) (c_X12_best_q x.2.1 hl 59 (by decide) h3 i3 (mm_sc xs (i + 1)) (mm_sc xs (i + 2))) rfl rfl (Nat.le_of_ble_eq_true rfl) ⟨by omega, by omega⟩ rfl (fun r31 h31 hp31 => ?_) (fun _ _ q => q.elim)
      obtain ⟨b31, i31, g31, y31_0, y31_1, y31_2⟩ := hp31
      have q31_1_5 : h31.1 1 5 = h3.1 1 5 := g31.1 1 5 (by decide)
      have q31_66_1 : h31.1 66 1 = h3.1 66 1 := g31.1 66 1 (by decide)
      have q31_1_6 : h31.1 1 6 = h3.1 1 6 := g31.1 1 6 (by decide)
      have q31_66_2 : h31.1 66 2 = h3.1 66 2 := g31.1 66 2 (by decide)
      have q31_14_8 : h31.1 14 8 = h3.1 14 8 := g31.1 14 8 (by decide)
      have q31_66_22 : h31.1 66 22 = h3.1 66 22 := g31.1 66 22 (by decide)
      have q31_22_8 : h31.1 22 8 = h3.1 22 8 := g31.1 22 8 (by decide)
      have q31_66_23 : h31.1 66 23 = h3.1 66 23 := g31.1 66 23 (by decide)
      have q31_14_7 : h31.1 14 7 = h3.1 14 7 := g31.1 14 7 (by decide)
      have q31_66_21 : h31.1 66 21 = h3.1 66 21 := g31.1 66 21 (by decide)
      have q31_22_9 : h31.1 22 9 = h3.1 22 9 := g31.1 22 9 (by decide)
      have q31_66_24 : h31.1 66 24 = h3.1 66 24 := g31.1 66 24 (by decide)
      have q31_0_12 : h31.1 0 12 = h3.1 0 12 := g31.1 0 12 (by decide)
      have q31_66_56 : h31.1 66 56 = h3.1 66 56 := g31.1 66 56 (by decide)
      have q31_58_10 : h31.1 58 10 = h3.1 58 10 := g31.1 58 10 (by decide)
      have q31_58_9 : h31.1 58 9 = h3.1 58 9 := g31.1 58 9 (by decide)
      have q31_58_8 : h31.1 58 8 = h3.1 58 8 := g31.1 58 8 (by decide)
      have q31_1_7 : h31.1 1 7 = h3.1 1 7 := g31.1 1 7 (by decide)
      have q31_66_3 : h31.1 66 3 = h3.1 66 3 := g31.1 66 3 (by decide)
      have q31_66_9 : h31.1 66 9 = h3.1 66 9 := g31.1 66 9 (by decide)
      have q31_66_10 : h31.1 66 10 = h3.1 66 10 := g31.1 66 10 (by decide)
      have q31_1_8 : h31.1 1 8 = h3.1 1 8 := g31.1 1 8 (by decide)
      have q31_66_11 : h31.1 66 11 = h3.1 66 11 := g31.1 66 11 (by decide)
      have q31_66_12 : h31.1 66 12 = h3.1 66 12 := g31.1 66 12 (by decide)
      have R : mm_RW h := ⟨i0, by omega, by omega, by omega, by omega, ra0, ra1, ra9, ra10, ra11, ra13, ra18, ra19, ra20, ra17, ra7, ra2, ra4, ra14, ra15⟩
      have y9 : mm_hd _ := y3_1
      have y8 : mm_hd _ := y31_1
      clear y3_1 y31_1
      have eW : r3 ≠ 0 ∨ (h3.2.1 124 0 = r31 ∧ h31.1 66 95 = h3.1 58 10 ∧ h31.1 66 96 = h3.1 58 9 ∧ h31.1 66 97 = h3.1 58 8) := by
        by_cases q : r3 = 0
        · have z0 : h31.1 66 0 = 0 := by omega
          exact Or.inr (mm_best_law R ra3 ra21 (by omega) (by omega) ((mm_hd_x y9).2 q) (mm_hd_x y8 z0) (mm_lnd_fr g3 (by decide)) (fun j => g3.2 78 (by decide) j) (fun j => g3.2 79 (by decide) j) (fun j => g3.2 80 (by decide) j) (fun j => g3.2 82 (by decide) j) (fun j => g3.2 83 (by decide) j) (g3.1 66 9 (by decide)) (g3.1 66 10 (by decide)) (g3.1 66 11 (by decide)) (g3.1 66 12 (by decide)) (by omega) (by omega) (by omega))
        · exact Or.inl q
      have qa31 : h31.2.1 124 0 = h3.2.1 124 0 := g31.2 124 (by decide) 0
      refine mm_istoreL (ls2 := [mR 3000, mR 0, mR 66, mR 124, mI i, mI r3, mI r31, mU]) C (mm_dec dk_law16 25 rfl) (by decide) rfl ?_
      refine mm_goto (tgt := 1668) C (mm_dec dk_law16 26 rfl) (by decide) ?_
      refine mm_fgt 5 ?_
      refine mm_fgt 6 ?_
      have ze := mm_zf_eq (show h31.1 58 5 = h3.1 58 5 from (g31.1 58 5 (by decide)).trans (rfl))
      refine mm_widen (k := mm_aA (i + 6) h31) (n := mm_bB (i + 6) h31) (by rw [show mm_aA (i + 6) h31 = 200 + (i + 6).toNat + (mm_zf h3).1 from by unfold mm_aA; rw [ze]]; omega) (by rw [show mm_bB (i + 6) h31 = 90000 + 6 * (i + 6).toNat + (mm_zf h3).2 from by unfold mm_bB; rw [ze]]; omega) ?_
      exact K h31 i31 (mm_RO_fr (mm_RO_fr (r0) g3 (by decide)) g31 (by decide)) (by unfold mm_Rl; exact ⟨by omega, by omega, by omega, by omega, by omega, by omega, by omega, by omega, by omega, by omega, mm_eq_fr (mm_eq_fr (ra0) g3 (by decide) (by decide)) g31 (by decide) (by decide), mm_eq_fr (mm_eq_fr (ra1) g3 (by decide) (by decide)) g31 (by decide) (by decide), mm_eq_le (mm_eq_fr (mm_eq_fr (ra2) g3 (by decide) (by decide)) g31 (by decide) (by decide)) (by omega), mm_eq_le (mm_eq_fr (mm_eq_fr (ra3) g3 (by decide) (by decide)) g31 (by decide) (by decide)) (by omega), mm_eq_le (mm_eq_fr (mm_eq_fr (ra4) g3 (by decide) (by decide)) g31 (by decide) (by decide)) (by omega), mm_eq_le (mm_eq_fr (mm_eq_fr (ra5) g3 (by decide) (by decide)) g31 (by decide) (by decide)) (by omega), mm_tk_sm (mm_tk_sm (ra6) (fun j => g3.2 18 (by decide) j) (fun j => g3.2 85 (by decide) j) (by omega) (by omega)) (fun j => g31.2 18 (by decide) j) (fun j => g31.2 85 (by decide) j) (by omega) (by omega), mm_cb_sm (mm_cb_sm (ra7) (fun j => g3.2 85 (by decide) j) (by omega) (by omega)) (fun j => g31.2 85 (by decide) j) (by omega) (by omega), mm_fb_sm (mm_fb_sm (ra8) (fun j => g3.2 20 (by decide) j) (by omega)) (fun j => g31.2 20 (by decide) j) (by omega), mm_eq_fr (mm_eq_fr (ra9) g3 (by decide) (by decide)) g31 (by decide) (by decide), mm_eq_fr (mm_eq_fr (ra10) g3 (by decide) (by decide)) g31 (by decide) (by decide), mm_eq_fr (mm_eq_fr (ra11) g3 (by decide) (by decide)) g31 (by decide) (by decide), mm_eq_le (mm_eq_fr (mm_eq_fr (ra12) g3 (by decide) (by decide)) g31 (by decide) (by decide)) (by omega), mm_go_sm (mm_go_sm (ra13) (fun j => g3.2 6 (by decide) j) (by omega) (by omega) (by omega) (by omega) (by omega) (by omega)) (fun j => g31.2 6 (by decide) j) (by omega) (by omega) (by omega) (by omega) (by omega) (by omega), mm_eq_le (mm_eq_fr (mm_eq_fr (ra14) g3 (by decide) (by decide)) g31 (by decide) (by decide)) (by omega), mm_eq_le (mm_eq_fr (mm_eq_fr (ra15) g3 (by decide) (by decide)) g31 (by decide) (by decide)) (by omega), mm_it_sm (mm_it_sm (ra16) (fun j => g3.2 28 (by decide) j) (fun j => g3.2 88 (by decide) j) (by omega)) (fun j => g31.2 28 (by decide) j) (fun j => g31.2 88 (by decide) j) (by omega), mm_br_sm (mm_br_sm (ra17) (fun j => g3.2 21 (by decide) j) (fun j => g3.2 82 (by decide) j) (fun j => g3.2 84 (by decide) j) (fun j => g3.2 19 (by decide) j) (by omega)) (fun j => g31.2 21 (by decide) j) (fun j => g31.2 82 (by decide) j) (fun j => g31.2 84 (by decide) j) (fun j => g31.2 19 (by decide) j) (by omega), mm_gn_sm (mm_gn_sm (ra18)  (by omega) (by omega) (by omega) (by omega) (by omega))  (by omega) (by omega) (by omega) (by omega) (by omega), mm_pc_sm (mm_pc_sm (ra19) (fun j => g3.2 15 (by decide) j) (by omega) (by omega) (by omega)) (fun j => g31.2 15 (by decide) j) (by omega) (by omega) (by omega), mm_bv_sm (mm_bv_sm (ra20) (fun j => g3.2 21 (by decide) j) (fun j => g3.2 19 (by decide) j) (by omega) (by omega)) (fun j => g31.2 21 (by decide) j) (fun j => g31.2 19 (by decide) j) (by omega) (by omega), mm_eq_le (mm_eq_fr (mm_eq_fr (ra21) g3 (by decide) (by decide)) g31 (by decide) (by decide)) (by omega)⟩)
set_option maxRecDepth 100000 in
set_option maxHeartbeats 4000000 in
theorem lw_c27 {x : mX} {L : Nat} {xs : Nat → Int32} (C : mm_OK 60 1082649 5848156 code RL 8 ret x) (X : mm_scr x L xs) (hl : x.2.1.stackTraces = false) (hL : L ≤ 3072) (i : Int) (hi : 0 ≤ i ∧ i + 6 ≤ L) (h : mH) (i0 : mm_inv h) (r0 : mm_RO h) (rl0 : mm_Rl h) (K : mm_K x i) : mm_W x (mm_aA i h) (mm_bB i h) 1516 (mm_lls i) [] h := by
  have zl := mm_zf_le h
  have ea : mm_aA i h = 200 + i.toNat + (mm_zf h).1 := rfl
  have eb : mm_bB i h = 90000 + 6 * i.toNat + (mm_zf h).2 := rfl
  obtain ⟨rs0, rs1, rs2, rs3, rs4, rs5, rs6, rs7, rs8, rs9, ra0, ra1, ra2, ra3, ra4, ra5, ra6, ra7, ra8, ra9, ra10, ra11, ra12, ra13, ra14, ra15, ra16, ra17, ra18, ra19, ra20, ra21⟩ := rl0
  refine mm_aload_n C (mm_dec dk_law16 27 rfl) rfl ?_
  refine mm_aload_n C (mm_dec dk_law16 28 rfl) rfl ?_
  refine mm_iload C (mm_dec dk_law16 29 rfl) rfl ?_
  refine mm_iconst C (mm_dec dk_law16 30 rfl) ⟨by decide, by decide⟩ ?_
  refine mm_iadd C (mm_dec dk_law16 31 rfl) ⟨by omega, by omega⟩ ?_
  refine mm_sld C X (mm_dec dk_law16 32 rfl) (by omega) (by omega) ?_
  refine mm_aload_n C (mm_dec dk_law16 33 rfl) rfl ?_
  refine mm_cHi (d := 59) (rest := []) C mh_L_bestOf ml_L_207 sm_L_bestOf (mm_dec dk_law16 34 rfl) (c_L_bestOf_q x.2.1 hl 59 (by decide) h i0 (mm_sc xs (i + 1))) rfl (Nat.le_of_ble_eq_true rfl) ⟨by omega, by omega⟩ rfl (fun r1 h1 hp1 => ?_)
  obtain ⟨b1, i1, g1, y1_0⟩ := hp1
  have q1_1_5 : h1.1 1 5 = h.1 1 5 := g1.1 1 5 (by decide)
  have q1_66_1 : h1.1 66 1 = h.1 66 1 := g1.1 66 1 (by decide)
  have q1_1_6 : h1.1 1 6 = h.1 1 6 := g1.1 1 6 (by decide)
  have q1_66_2 : h1.1 66 2 = h.1 66 2 := g1.1 66 2 (by decide)
  have q1_14_8 : h1.1 14 8 = h.1 14 8 := g1.1 14 8 (by decide)
  have q1_66_22 : h1.1 66 22 = h.1 66 22 := g1.1 66 22 (by decide)
  have q1_22_8 : h1.1 22 8 = h.1 22 8 := g1.1 22 8 (by decide)
  have q1_66_23 : h1.1 66 23 = h.1 66 23 := g1.1 66 23 (by decide)
  have q1_14_7 : h1.1 14 7 = h.1 14 7 := g1.1 14 7 (by decide)
  have q1_66_21 : h1.1 66 21 = h.1 66 21 := g1.1 66 21 (by decide)
  have q1_22_9 : h1.1 22 9 = h.1 22 9 := g1.1 22 9 (by decide)
  have q1_66_24 : h1.1 66 24 = h.1 66 24 := g1.1 66 24 (by decide)
  have q1_0_12 : h1.1 0 12 = h.1 0 12 := g1.1 0 12 (by decide)
  have q1_66_56 : h1.1 66 56 = h.1 66 56 := g1.1 66 56 (by decide)
  have q1_58_10 : h1.1 58 10 = h.1 58 10 := g1.1 58 10 (by decide)
  have q1_66_95 : h1.1 66 95 = h.1 66 95 := g1.1 66 95 (by decide)
  have q1_58_9 : h1.1 58 9 = h.1 58 9 := g1.1 58 9 (by decide)
  have q1_66_96 : h1.1 66 96 = h.1 66 96 := g1.1 66 96 (by decide)
  have q1_58_8 : h1.1 58 8 = h.1 58 8 := g1.1 58 8 (by decide)
  have q1_66_97 : h1.1 66 97 = h.1 66 97 := g1.1 66 97 (by decide)
  have q1_1_7 : h1.1 1 7 = h.1 1 7 := g1.1 1 7 (by decide)
  have q1_66_3 : h1.1 66 3 = h.1 66 3 := g1.1 66 3 (by decide)
  have q1_66_9 : h1.1 66 9 = h.1 66 9 := g1.1 66 9 (by decide)
  have q1_66_10 : h1.1 66 10 = h.1 66 10 := g1.1 66 10 (by decide)
  have q1_1_8 : h1.1 1 8 = h.1 1 8 := g1.1 1 8 (by decide)
  have q1_66_11 : h1.1 66 11 = h.1 66 11 := g1.1 66 11 (by decide)
  have q1_66_12 : h1.1 66 12 = h.1 66 12 := g1.1 66 12 (by decide)
  refine mm_istoreL (ls2 := [mR 3000, mR 0, mR 66, mR 124, mI i, mI r1, mU, mU]) C (mm_dec dk_law16 35 rfl) (by decide) rfl ?_
  refine mm_aload_n C (mm_dec dk_law16 36 rfl) rfl ?_
  refine mm_aload_n C (mm_dec dk_law16 37 rfl) rfl ?_
  refine mm_iload C (mm_dec dk_law16 38 rfl) rfl ?_
  refine mm_iconst C (mm_dec dk_law16 39 rfl) ⟨by decide, by decide⟩ ?_
  refine mm_iadd C (mm_dec dk_law16 40 rfl) ⟨by omega, by omega⟩ ?_
  refine mm_sld C X (mm_dec dk_law16 41 rfl) (by omega) (by omega) ?_
  refine mm_cVi (d := 59) (rest := []) C ev_L_209 (mm_dec dk_law16 42 rfl) (c_X12_bestOf_q x.2.1 hl 59 (by decide) h1 i1 (mm_sc xs (i + 1))) rfl rfl (Nat.le_of_ble_eq_true rfl) ⟨by omega, by omega⟩ rfl (fun r2 h2 hp2 => ?_) (fun _ _ q => q.elim)
  obtain ⟨b2, i2, g2, y2_0⟩ := hp2
  have q2_1_5 : h2.1 1 5 = h1.1 1 5 := g2.1 1 5 (by decide)
  have q2_66_1 : h2.1 66 1 = h1.1 66 1 := g2.1 66 1 (by decide)
  have q2_1_6 : h2.1 1 6 = h1.1 1 6 := g2.1 1 6 (by decide)
  have q2_66_2 : h2.1 66 2 = h1.1 66 2 := g2.1 66 2 (by decide)
  have q2_14_8 : h2.1 14 8 = h1.1 14 8 := g2.1 14 8 (by decide)
  have q2_66_22 : h2.1 66 22 = h1.1 66 22 := g2.1 66 22 (by decide)
  have q2_22_8 : h2.1 22 8 = h1.1 22 8 := g2.1 22 8 (by decide)
  have q2_66_23 : h2.1 66 23 = h1.1 66 23 := g2.1 66 23 (by decide)
  have q2_14_7 : h2.1 14 7 = h1.1 14 7 := g2.1 14 7 (by decide)
  have q2_66_21 : h2.1 66 21 = h1.1 66 21 := g2.1 66 21 (by decide)
  have q2_22_9 : h2.1 22 9 = h1.1 22 9 := g2.1 22 9 (by decide)
  have q2_66_24 : h2.1 66 24 = h1.1 66 24 := g2.1 66 24 (by decide)
  have q2_0_12 : h2.1 0 12 = h1.1 0 12 := g2.1 0 12 (by decide)
  have q2_66_56 : h2.1 66 56 = h1.1 66 56 := g2.1 66 56 (by decide)
  have q2_58_10 : h2.1 58 10 = h1.1 58 10 := g2.1 58 10 (by decide)
  have q2_66_95 : h2.1 66 95 = h1.1 66 95 := g2.1 66 95 (by decide)
  have q2_58_9 : h2.1 58 9 = h1.1 58 9 := g2.1 58 9 (by decide)
  have q2_66_96 : h2.1 66 96 = h1.1 66 96 := g2.1 66 96 (by decide)
  have q2_58_8 : h2.1 58 8 = h1.1 58 8 := g2.1 58 8 (by decide)
  have q2_66_97 : h2.1 66 97 = h1.1 66 97 := g2.1 66 97 (by decide)
  have q2_1_7 : h2.1 1 7 = h1.1 1 7 := g2.1 1 7 (by decide)
  have q2_66_3 : h2.1 66 3 = h1.1 66 3 := g2.1 66 3 (by decide)
  have q2_66_9 : h2.1 66 9 = h1.1 66 9 := g2.1 66 9 (by decide)
  have q2_66_10 : h2.1 66 10 = h1.1 66 10 := g2.1 66 10 (by decide)
  have q2_1_8 : h2.1 1 8 = h1.1 1 8 := g2.1 1 8 (by decide)
  have q2_66_11 : h2.1 66 11 = h1.1 66 11 := g2.1 66 11 (by decide)
  have q2_66_12 : h2.1 66 12 = h1.1 66 12 := g2.1 66 12 (by decide)
  have qa2 : h2.2.1 124 0 = h1.2.1 124 0 := g2.2 124 (by decide) 0
  refine mm_istoreL (ls2 := [mR 3000, mR 0, mR 66, mR 124, mI i, mI r1, mI r2, mU]) C (mm_dec dk_law16 43 rfl) (by decide) rfl ?_
  refine mm_aload_n C (mm_dec dk_law16 44 rfl) rfl ?_
  refine mm_cVi (d := 59) (rest := []) C ev_L_210 (mm_dec dk_law16 45 rfl) (c_X12_thrown_q x.2.1 hl 59 (by decide) h2 i2 ) rfl rfl (Nat.le_of_ble_eq_true rfl) ⟨by omega, by omega⟩ rfl (fun r3 h3 hp3 => ?_) (fun _ _ q => q.elim)
  have z3 := hp3.1
  have w3 := hp3.2
  rw [z3]
  refine mm_iload C (mm_dec dk_law16 46 rfl) rfl ?_
  refine mm_icmp_eq (tgt := 1552) C (mm_dec dk_law16 47 rfl) (by decide) (fun ca1 => ?_) (fun ca1 => ?_)
  · skip
    refine mm_iload C (mm_dec dk_law16 50 rfl) rfl ?_
    refine mm_if_ne (tgt := 1569) C (mm_dec dk_law16 51 rfl) (by decide) (fun ca2 => ?_) (fun ca2 => ?_)
    · skip
      refine mm_goto (tgt := 1668) C (mm_dec dk_law17 1 rfl) (by decide) ?_
      refine mm_fgt 5 ?_
      refine mm_fgt 6 ?_
      have ze := mm_zf_eq (show h2.1 58 5 = h.1 58 5 from (g2.1 58 5 (by decide)).trans ((g1.1 58 5 (by decide)).trans (rfl)))
      refine mm_widen (k := mm_aA (i + 6) h2) (n := mm_bB (i + 6) h2) (by rw [show mm_aA (i + 6) h2 = 200 + (i + 6).toNat + (mm_zf h).1 from by unfold mm_aA; rw [ze]]; omega) (by rw [show mm_bB (i + 6) h2 = 90000 + 6 * (i + 6).toNat + (mm_zf h).2 from by unfold mm_bB; rw [ze]]; omega) ?_
      exact K h2 i2 (mm_RO_fr (mm_RO_fr (r0) g1 (by decide)) g2 (by decide)) (by unfold mm_Rl; exact ⟨by omega, by omega, by omega, by omega, by omega, by omega, by omega, by omega, by omega, by omega, mm_eq_fr (mm_eq_fr (ra0) g1 (by decide) (by decide)) g2 (by decide) (by decide), mm_eq_fr (mm_eq_fr (ra1) g1 (by decide) (by decide)) g2 (by decide) (by decide), mm_eq_le (mm_eq_fr (mm_eq_fr (ra2) g1 (by decide) (by decide)) g2 (by decide) (by decide)) (by omega), mm_eq_le (mm_eq_fr (mm_eq_fr (ra3) g1 (by decide) (by decide)) g2 (by decide) (by decide)) (by omega), mm_eq_le (mm_eq_fr (mm_eq_fr (ra4) g1 (by decide) (by decide)) g2 (by decide) (by decide)) (by omega), mm_eq_le (mm_eq_fr (mm_eq_fr (ra5) g1 (by decide) (by decide)) g2 (by decide) (by decide)) (by omega), mm_tk_sm (mm_tk_sm (ra6) (fun j => g1.2 18 (by decide) j) (fun j => g1.2 85 (by decide) j) (by omega) (by omega)) (fun j => g2.2 18 (by decide) j) (fun j => g2.2 85 (by decide) j) (by omega) (by omega), mm_cb_sm (mm_cb_sm (ra7) (fun j => g1.2 85 (by decide) j) (by omega) (by omega)) (fun j => g2.2 85 (by decide) j) (by omega) (by omega), mm_fb_sm (mm_fb_sm (ra8) (fun j => g1.2 20 (by decide) j) (by omega)) (fun j => g2.2 20 (by decide) j) (by omega), mm_eq_fr (mm_eq_fr (ra9) g1 (by decide) (by decide)) g2 (by decide) (by decide), mm_eq_fr (mm_eq_fr (ra10) g1 (by decide) (by decide)) g2 (by decide) (by decide), mm_eq_fr (mm_eq_fr (ra11) g1 (by decide) (by decide)) g2 (by decide) (by decide), mm_eq_le (mm_eq_fr (mm_eq_fr (ra12) g1 (by decide) (by decide)) g2 (by decide) (by decide)) (by omega), mm_go_sm (mm_go_sm (ra13) (fun j => g1.2 6 (by decide) j) (by omega) (by omega) (by omega) (by omega) (by omega) (by omega)) (fun j => g2.2 6 (by decide) j) (by omega) (by omega) (by omega) (by omega) (by omega) (by omega), mm_eq_le (mm_eq_fr (mm_eq_fr (ra14) g1 (by decide) (by decide)) g2 (by decide) (by decide)) (by omega), mm_eq_le (mm_eq_fr (mm_eq_fr (ra15) g1 (by decide) (by decide)) g2 (by decide) (by decide)) (by omega), mm_it_sm (mm_it_sm (ra16) (fun j => g1.2 28 (by decide) j) (fun j => g1.2 88 (by decide) j) (by omega)) (fun j => g2.2 28 (by decide) j) (fun j => g2.2 88 (by decide) j) (by omega), mm_br_sm (mm_br_sm (ra17) (fun j => g1.2 21 (by decide) j) (fun j => g1.2 82 (by decide) j) (fun j => g1.2 84 (by decide) j) (fun j => g1.2 19 (by decide) j) (by omega)) (fun j => g2.2 21 (by decide) j) (fun j => g2.2 82 (by decide) j) (fun j => g2.2 84 (by decide) j) (fun j => g2.2 19 (by decide) j) (by omega), mm_gn_sm (mm_gn_sm (ra18)  (by omega) (by omega) (by omega) (by omega) (by omega))  (by omega) (by omega) (by omega) (by omega) (by omega), mm_pc_sm (mm_pc_sm (ra19) (fun j => g1.2 15 (by decide) j) (by omega) (by omega) (by omega)) (fun j => g2.2 15 (by decide) j) (by omega) (by omega) (by omega), mm_bv_sm (mm_bv_sm (ra20) (fun j => g1.2 21 (by decide) j) (fun j => g1.2 19 (by decide) j) (by omega) (by omega)) (fun j => g2.2 21 (by decide) j) (fun j => g2.2 19 (by decide) j) (by omega) (by omega), mm_eq_le (mm_eq_fr (mm_eq_fr (ra21) g1 (by decide) (by decide)) g2 (by decide) (by decide)) (by omega)⟩)
    · skip
      refine mm_aload_n C (mm_dec dk_law16 52 rfl) rfl ?_
      refine mm_iconst C (mm_dec dk_law16 53 rfl) ⟨by decide, by decide⟩ ?_
      refine mm_lald C (mm_dec dk_law16 54 rfl) rfl (by decide) (by decide) ?_
      refine mm_iload C (mm_dec dk_law16 55 rfl) rfl ?_
      refine mm_i2l C (mm_dec dk_law16 56 rfl) ?_
      refine mm_lcmp C (mm_dec dk_law16 57 rfl) (fun cl3 => ?_) (fun _ => ?_) (fun cl3 => ?_)
      · exfalso; omega
      · skip
        refine mm_if_eq (tgt := 1569) C (mm_dec dk_law16 58 rfl) (by decide) (fun ca4 => ?_) (fun ca4 => ?_)
        · skip
          refine mm_goto (tgt := 1668) C (mm_dec dk_law17 1 rfl) (by decide) ?_
          refine mm_fgt 5 ?_
          refine mm_fgt 6 ?_
          have ze := mm_zf_eq (show h2.1 58 5 = h.1 58 5 from (g2.1 58 5 (by decide)).trans ((g1.1 58 5 (by decide)).trans (rfl)))
          refine mm_widen (k := mm_aA (i + 6) h2) (n := mm_bB (i + 6) h2) (by rw [show mm_aA (i + 6) h2 = 200 + (i + 6).toNat + (mm_zf h).1 from by unfold mm_aA; rw [ze]]; omega) (by rw [show mm_bB (i + 6) h2 = 90000 + 6 * (i + 6).toNat + (mm_zf h).2 from by unfold mm_bB; rw [ze]]; omega) ?_
          exact K h2 i2 (mm_RO_fr (mm_RO_fr (r0) g1 (by decide)) g2 (by decide)) (by unfold mm_Rl; exact ⟨by omega, by omega, by omega, by omega, by omega, by omega, by omega, by omega, by omega, by omega, mm_eq_fr (mm_eq_fr (ra0) g1 (by decide) (by decide)) g2 (by decide) (by decide), mm_eq_fr (mm_eq_fr (ra1) g1 (by decide) (by decide)) g2 (by decide) (by decide), mm_eq_le (mm_eq_fr (mm_eq_fr (ra2) g1 (by decide) (by decide)) g2 (by decide) (by decide)) (by omega), mm_eq_le (mm_eq_fr (mm_eq_fr (ra3) g1 (by decide) (by decide)) g2 (by decide) (by decide)) (by omega), mm_eq_le (mm_eq_fr (mm_eq_fr (ra4) g1 (by decide) (by decide)) g2 (by decide) (by decide)) (by omega), mm_eq_le (mm_eq_fr (mm_eq_fr (ra5) g1 (by decide) (by decide)) g2 (by decide) (by decide)) (by omega), mm_tk_sm (mm_tk_sm (ra6) (fun j => g1.2 18 (by decide) j) (fun j => g1.2 85 (by decide) j) (by omega) (by omega)) (fun j => g2.2 18 (by decide) j) (fun j => g2.2 85 (by decide) j) (by omega) (by omega), mm_cb_sm (mm_cb_sm (ra7) (fun j => g1.2 85 (by decide) j) (by omega) (by omega)) (fun j => g2.2 85 (by decide) j) (by omega) (by omega), mm_fb_sm (mm_fb_sm (ra8) (fun j => g1.2 20 (by decide) j) (by omega)) (fun j => g2.2 20 (by decide) j) (by omega), mm_eq_fr (mm_eq_fr (ra9) g1 (by decide) (by decide)) g2 (by decide) (by decide), mm_eq_fr (mm_eq_fr (ra10) g1 (by decide) (by decide)) g2 (by decide) (by decide), mm_eq_fr (mm_eq_fr (ra11) g1 (by decide) (by decide)) g2 (by decide) (by decide), mm_eq_le (mm_eq_fr (mm_eq_fr (ra12) g1 (by decide) (by decide)) g2 (by decide) (by decide)) (by omega), mm_go_sm (mm_go_sm (ra13) (fun j => g1.2 6 (by decide) j) (by omega) (by omega) (by omega) (by omega) (by omega) (by omega)) (fun j => g2.2 6 (by decide) j) (by omega) (by omega) (by omega) (by omega) (by omega) (by omega), mm_eq_le (mm_eq_fr (mm_eq_fr (ra14) g1 (by decide) (by decide)) g2 (by decide) (by decide)) (by omega), mm_eq_le (mm_eq_fr (mm_eq_fr (ra15) g1 (by decide) (by decide)) g2 (by decide) (by decide)) (by omega), mm_it_sm (mm_it_sm (ra16) (fun j => g1.2 28 (by decide) j) (fun j => g1.2 88 (by decide) j) (by omega)) (fun j => g2.2 28 (by decide) j) (fun j => g2.2 88 (by decide) j) (by omega), mm_br_sm (mm_br_sm (ra17) (fun j => g1.2 21 (by decide) j) (fun j => g1.2 82 (by decide) j) (fun j => g1.2 84 (by decide) j) (fun j => g1.2 19 (by decide) j) (by omega)) (fun j => g2.2 21 (by decide) j) (fun j => g2.2 82 (by decide) j) (fun j => g2.2 84 (by decide) j) (fun j => g2.2 19 (by decide) j) (by omega), mm_gn_sm (mm_gn_sm (ra18)  (by omega) (by omega) (by omega) (by omega) (by omega))  (by omega) (by omega) (by omega) (by omega) (by omega), mm_pc_sm (mm_pc_sm (ra19) (fun j => g1.2 15 (by decide) j) (by omega) (by omega) (by omega)) (fun j => g2.2 15 (by decide) j) (by omega) (by omega) (by omega), mm_bv_sm (mm_bv_sm (ra20) (fun j => g1.2 21 (by decide) j) (fun j => g1.2 19 (by decide) j) (by omega) (by omega)) (fun j => g2.2 21 (by decide) j) (fun j => g2.2 19 (by decide) j) (by omega) (by omega), mm_eq_le (mm_eq_fr (mm_eq_fr (ra21) g1 (by decide) (by decide)) g2 (by decide) (by decide)) (by omega)⟩)
        · exfalso; omega
      · exfalso; omega
  · exfalso; omega
set_option maxRecDepth 100000 in
set_option maxHeartbeats 4000000 in
theorem lw_c28 {x : mX} {L : Nat} {xs : Nat → Int32} (C : mm_OK 60 1082649 5848156 code RL 8 ret x) (X : mm_scr x L xs) (hl : x.2.1.stackTraces = false) (hL : L ≤ 3072) (i : Int) (hi : 0 ≤ i ∧ i + 6 ≤ L) (h : mH) (i0 : mm_inv h) (r0 : mm_RO h) (rl0 : mm_Rl h) (K : mm_K x i) : mm_W x (mm_aA i h) (mm_bB i h) 1572 (mm_lls i) [] h := by
  have zl := mm_zf_le h
  have ea : mm_aA i h = 200 + i.toNat + (mm_zf h).1 := rfl
  have eb : mm_bB i h = 90000 + 6 * i.toNat + (mm_zf h).2 := rfl
  obtain ⟨rs0, rs1, rs2, rs3, rs4, rs5, rs6, rs7, rs8, rs9, ra0, ra1, ra2, ra3, ra4, ra5, ra6, ra7, ra8, ra9, ra10, ra11, ra12, ra13, ra14, ra15, ra16, ra17, ra18, ra19, ra20, ra21⟩ := rl0
  refine mm_aload_n C (mm_dec dk_law17 2 rfl) rfl ?_
  refine mm_aload_n C (mm_dec dk_law17 3 rfl) rfl ?_
  refine mm_iload C (mm_dec dk_law17 4 rfl) rfl ?_
  refine mm_iconst C (mm_dec dk_law17 5 rfl) ⟨by decide, by decide⟩ ?_
  refine mm_iadd C (mm_dec dk_law17 6 rfl) ⟨by omega, by omega⟩ ?_
  refine mm_sld C X (mm_dec dk_law17 7 rfl) (by omega) (by omega) ?_
  refine mm_aload_n C (mm_dec dk_law17 8 rfl) rfl ?_
  refine mm_iload C (mm_dec dk_law17 9 rfl) rfl ?_
  refine mm_iconst C (mm_dec dk_law17 10 rfl) ⟨by decide, by decide⟩ ?_
  refine mm_iadd C (mm_dec dk_law17 11 rfl) ⟨by omega, by omega⟩ ?_
  refine mm_sld C X (mm_dec dk_law17 12 rfl) (by omega) (by omega) ?_
  refine mm_aload_n C (mm_dec dk_law17 13 rfl) rfl ?_
  refine mm_cHi (d := 59) (rest := []) C mh_L_track ml_L_213 sm_L_track (mm_dec dk_law17 14 rfl) (c_L_track_q x.2.1 hl 59 (by decide) h i0 (mm_sc xs (i + 1)) (mm_sc xs (i + 2))) rfl (Nat.le_of_ble_eq_true rfl) ⟨by omega, by omega⟩ rfl (fun r1 h1 hp1 => ?_)
  obtain ⟨b1, i1, g1, y1_0⟩ := hp1
  have q1_1_5 : h1.1 1 5 = h.1 1 5 := g1.1 1 5 (by decide)
  have q1_66_1 : h1.1 66 1 = h.1 66 1 := g1.1 66 1 (by decide)
  have q1_1_6 : h1.1 1 6 = h.1 1 6 := g1.1 1 6 (by decide)
  have q1_66_2 : h1.1 66 2 = h.1 66 2 := g1.1 66 2 (by decide)
  have q1_14_8 : h1.1 14 8 = h.1 14 8 := g1.1 14 8 (by decide)
  have q1_66_22 : h1.1 66 22 = h.1 66 22 := g1.1 66 22 (by decide)
  have q1_22_8 : h1.1 22 8 = h.1 22 8 := g1.1 22 8 (by decide)
  have q1_66_23 : h1.1 66 23 = h.1 66 23 := g1.1 66 23 (by decide)
  have q1_14_7 : h1.1 14 7 = h.1 14 7 := g1.1 14 7 (by decide)
  have q1_66_21 : h1.1 66 21 = h.1 66 21 := g1.1 66 21 (by decide)
  have q1_22_9 : h1.1 22 9 = h.1 22 9 := g1.1 22 9 (by decide)
  have q1_66_24 : h1.1 66 24 = h.1 66 24 := g1.1 66 24 (by decide)
  have q1_66_56 : h1.1 66 56 = h.1 66 56 := g1.1 66 56 (by decide)
  have q1_58_10 : h1.1 58 10 = h.1 58 10 := g1.1 58 10 (by decide)
  have q1_66_95 : h1.1 66 95 = h.1 66 95 := g1.1 66 95 (by decide)
  have q1_58_9 : h1.1 58 9 = h.1 58 9 := g1.1 58 9 (by decide)
  have q1_66_96 : h1.1 66 96 = h.1 66 96 := g1.1 66 96 (by decide)
  have q1_58_8 : h1.1 58 8 = h.1 58 8 := g1.1 58 8 (by decide)
  have q1_66_97 : h1.1 66 97 = h.1 66 97 := g1.1 66 97 (by decide)
  have q1_1_7 : h1.1 1 7 = h.1 1 7 := g1.1 1 7 (by decide)
  have q1_66_3 : h1.1 66 3 = h.1 66 3 := g1.1 66 3 (by decide)
  have q1_66_9 : h1.1 66 9 = h.1 66 9 := g1.1 66 9 (by decide)
  have q1_66_10 : h1.1 66 10 = h.1 66 10 := g1.1 66 10 (by decide)
  have q1_1_8 : h1.1 1 8 = h.1 1 8 := g1.1 1 8 (by decide)
  have q1_66_11 : h1.1 66 11 = h.1 66 11 := g1.1 66 11 (by decide)
  have q1_66_12 : h1.1 66 12 = h.1 66 12 := g1.1 66 12 (by decide)
  refine mm_istoreL (ls2 := [mR 3000, mR 0, mR 66, mR 124, mI i, mI r1, mU, mU]) C (mm_dec dk_law17 15 rfl) (by decide) rfl ?_
  refine mm_aload_n C (mm_dec dk_law17 16 rfl) rfl ?_
  refine mm_aload_n C (mm_dec dk_law17 17 rfl) rfl ?_
  refine mm_iload C (mm_dec dk_law17 18 rfl) rfl ?_
  refine mm_iconst C (mm_dec dk_law17 19 rfl) ⟨by decide, by decide⟩ ?_
  refine mm_iadd C (mm_dec dk_law17 20 rfl) ⟨by omega, by omega⟩ ?_
  refine mm_sld C X (mm_dec dk_law17 21 rfl) (by omega) (by omega) ?_
  refine mm_aload_n C (mm_dec dk_law17 22 rfl) rfl ?_
  refine mm_iload C (mm_dec dk_law17 23 rfl) rfl ?_
  refine mm_iconst C (mm_dec dk_law17 24 rfl) ⟨by decide, by decide⟩ ?_
  refine mm_iadd C (mm_dec dk_law17 25 rfl) ⟨by omega, by omega⟩ ?_
  refine mm_sld C X (mm_dec dk_law17 26 rfl) (by omega) (by omega) ?_
  refine mm_cVi (d := 59) (rest := []) C ev_L_215 (mm_dec dk_law17 27 rfl) (c_X12_track_q x.2.1 hl 59 (by decide) h1 i1 (mm_sc xs (i + 1)) (mm_sc xs (i + 2))) rfl rfl (Nat.le_of_ble_eq_true rfl) ⟨by omega, by omega⟩ rfl (fun r2 h2 hp2 => ?_) (fun _ _ q => q.elim)
  obtain ⟨b2, i2, g2, y2_0⟩ := hp2
  have q2_1_5 : h2.1 1 5 = h1.1 1 5 := g2.1 1 5 (by decide)
  have q2_66_1 : h2.1 66 1 = h1.1 66 1 := g2.1 66 1 (by decide)
  have q2_1_6 : h2.1 1 6 = h1.1 1 6 := g2.1 1 6 (by decide)
  have q2_66_2 : h2.1 66 2 = h1.1 66 2 := g2.1 66 2 (by decide)
  have q2_14_8 : h2.1 14 8 = h1.1 14 8 := g2.1 14 8 (by decide)
  have q2_66_22 : h2.1 66 22 = h1.1 66 22 := g2.1 66 22 (by decide)
  have q2_22_8 : h2.1 22 8 = h1.1 22 8 := g2.1 22 8 (by decide)
  have q2_66_23 : h2.1 66 23 = h1.1 66 23 := g2.1 66 23 (by decide)
  have q2_14_7 : h2.1 14 7 = h1.1 14 7 := g2.1 14 7 (by decide)
  have q2_66_21 : h2.1 66 21 = h1.1 66 21 := g2.1 66 21 (by decide)
  have q2_22_9 : h2.1 22 9 = h1.1 22 9 := g2.1 22 9 (by decide)
  have q2_66_24 : h2.1 66 24 = h1.1 66 24 := g2.1 66 24 (by decide)
  have q2_0_12 : h2.1 0 12 = h1.1 0 12 := g2.1 0 12 (by decide)
  have q2_58_10 : h2.1 58 10 = h1.1 58 10 := g2.1 58 10 (by decide)
  have q2_66_95 : h2.1 66 95 = h1.1 66 95 := g2.1 66 95 (by decide)
  have q2_58_9 : h2.1 58 9 = h1.1 58 9 := g2.1 58 9 (by decide)
  have q2_66_96 : h2.1 66 96 = h1.1 66 96 := g2.1 66 96 (by decide)
  have q2_58_8 : h2.1 58 8 = h1.1 58 8 := g2.1 58 8 (by decide)
  have q2_66_97 : h2.1 66 97 = h1.1 66 97 := g2.1 66 97 (by decide)
  have q2_1_7 : h2.1 1 7 = h1.1 1 7 := g2.1 1 7 (by decide)
  have q2_66_3 : h2.1 66 3 = h1.1 66 3 := g2.1 66 3 (by decide)
  have q2_66_9 : h2.1 66 9 = h1.1 66 9 := g2.1 66 9 (by decide)
  have q2_66_10 : h2.1 66 10 = h1.1 66 10 := g2.1 66 10 (by decide)
  have q2_1_8 : h2.1 1 8 = h1.1 1 8 := g2.1 1 8 (by decide)
  have q2_66_11 : h2.1 66 11 = h1.1 66 11 := g2.1 66 11 (by decide)
  have q2_66_12 : h2.1 66 12 = h1.1 66 12 := g2.1 66 12 (by decide)
  have bw : 1 ≤ h.1 1 5 ∧ h.1 1 5 ≤ 20 := i0.1 1 5
  have bh : 1 ≤ h.1 1 6 ∧ h.1 1 6 ≤ 20 := i0.1 1 6
  have bx : 0 ≤ h.1 66 9 ∧ h.1 66 9 ≤ 19 := i0.1 66 9
  have by9 : 0 ≤ h.1 66 10 ∧ h.1 66 10 ≤ 19 := i0.1 66 10
  have eW : h.1 0 12 < (mm_sc xs (i + 2)) ∨ mm_wY h1 (mm_sc xs (i + 2)) = mm_wX h (mm_sc xs (i + 2)) := by
    by_cases q : h.1 0 12 < (mm_sc xs (i + 2))
    · exact Or.inl q
    · exact Or.inr ((mm_wY_fr (mm_sc xs (i + 2)) (g1.1 66 1 (by decide)) (g1.1 66 2 (by decide)) (g1.1 66 3 (by decide)) (g1.1 66 9 (by decide)) (g1.1 66 10 (by decide)) (g1.2 67 (by decide)) (g1.2 68 (by decide)) (g1.2 69 (by decide)) (g1.2 70 (by decide)) (g1.2 71 (by decide)) (g1.2 101 (by decide))).trans (mm_wXY (h1 := h) (by omega) (by omega) (by omega) (by omega) (by omega) (by omega) (by omega) ra0 ra1 ra9 ra10 ra11 ra12 ra13 (fun j => i0.2.1 2 j) (fun j => (i0.2.1 6 j).1)))
  have qa2 : h2.2.1 124 0 = h1.2.1 124 0 := g2.2 124 (by decide) 0
  refine mm_istoreL (ls2 := [mR 3000, mR 0, mR 66, mR 124, mI i, mI r1, mI r2, mU]) C (mm_dec dk_law17 28 rfl) (by decide) rfl ?_
  refine mm_goto (tgt := 1668) C (mm_dec dk_law17 29 rfl) (by decide) ?_
  refine mm_fgt 5 ?_
  refine mm_fgt 6 ?_
  have ze := mm_zf_eq (show h2.1 58 5 = h.1 58 5 from (g2.1 58 5 (by decide)).trans ((g1.1 58 5 (by decide)).trans (rfl)))
  refine mm_widen (k := mm_aA (i + 6) h2) (n := mm_bB (i + 6) h2) (by rw [show mm_aA (i + 6) h2 = 200 + (i + 6).toNat + (mm_zf h).1 from by unfold mm_aA; rw [ze]]; omega) (by rw [show mm_bB (i + 6) h2 = 90000 + 6 * (i + 6).toNat + (mm_zf h).2 from by unfold mm_bB; rw [ze]]; omega) ?_
  exact K h2 i2 (mm_RO_fr (mm_RO_fr (r0) g1 (by decide)) g2 (by decide)) (by unfold mm_Rl; exact ⟨by omega, by omega, by omega, by omega, by omega, by omega, by omega, by omega, by omega, by omega, mm_eq_fr (mm_eq_fr (ra0) g1 (by decide) (by decide)) g2 (by decide) (by decide), mm_eq_fr (mm_eq_fr (ra1) g1 (by decide) (by decide)) g2 (by decide) (by decide), mm_eq_le (mm_eq_fr (mm_eq_fr (ra2) g1 (by decide) (by decide)) g2 (by decide) (by decide)) (by omega), mm_eq_le (mm_eq_fr (mm_eq_fr (ra3) g1 (by decide) (by decide)) g2 (by decide) (by decide)) (by omega), mm_eq_le (mm_eq_fr (mm_eq_fr (ra4) g1 (by decide) (by decide)) g2 (by decide) (by decide)) (by omega), mm_eq_le (mm_eq_fr (mm_eq_fr (ra5) g1 (by decide) (by decide)) g2 (by decide) (by decide)) (by omega), mm_tk_sm (mm_tk_sm (ra6) (fun j => g1.2 18 (by decide) j) (fun j => g1.2 85 (by decide) j) (by omega) (by omega)) (fun j => g2.2 18 (by decide) j) (fun j => g2.2 85 (by decide) j) (by omega) (by omega), mm_cb_sm (mm_cb_sm (ra7) (fun j => g1.2 85 (by decide) j) (by omega) (by omega)) (fun j => g2.2 85 (by decide) j) (by omega) (by omega), mm_fb_sm (mm_fb_sm (ra8) (fun j => g1.2 20 (by decide) j) (by omega)) (fun j => g2.2 20 (by decide) j) (by omega), mm_eq_fr (mm_eq_fr (ra9) g1 (by decide) (by decide)) g2 (by decide) (by decide), mm_eq_fr (mm_eq_fr (ra10) g1 (by decide) (by decide)) g2 (by decide) (by decide), mm_eq_fr (mm_eq_fr (ra11) g1 (by decide) (by decide)) g2 (by decide) (by decide), mm_eq_le (mm_eq_fr (mm_eq_fr (ra12) g1 (by decide) (by decide)) g2 (by decide) (by decide)) (by omega), mm_go_sm (mm_go_sm (ra13) (fun j => g1.2 6 (by decide) j) (by omega) (by omega) (by omega) (by omega) (by omega) (by omega)) (fun j => g2.2 6 (by decide) j) (by omega) (by omega) (by omega) (by omega) (by omega) (by omega), mm_eq_le (mm_eq_fr (mm_eq_fr (ra14) g1 (by decide) (by decide)) g2 (by decide) (by decide)) (by omega), mm_eq_le (mm_eq_fr (mm_eq_fr (ra15) g1 (by decide) (by decide)) g2 (by decide) (by decide)) (by omega), mm_it_sm (mm_it_sm (ra16) (fun j => g1.2 28 (by decide) j) (fun j => g1.2 88 (by decide) j) (by omega)) (fun j => g2.2 28 (by decide) j) (fun j => g2.2 88 (by decide) j) (by omega), mm_br_sm (mm_br_sm (ra17) (fun j => g1.2 21 (by decide) j) (fun j => g1.2 82 (by decide) j) (fun j => g1.2 84 (by decide) j) (fun j => g1.2 19 (by decide) j) (by omega)) (fun j => g2.2 21 (by decide) j) (fun j => g2.2 82 (by decide) j) (fun j => g2.2 84 (by decide) j) (fun j => g2.2 19 (by decide) j) (by omega), mm_gn_sm (mm_gn_sm (ra18)  (by omega) (by omega) (by omega) (by omega) (by omega))  (by omega) (by omega) (by omega) (by omega) (by omega), mm_pc_sm (mm_pc_sm (ra19) (fun j => g1.2 15 (by decide) j) (by omega) (by omega) (by omega)) (fun j => g2.2 15 (by decide) j) (by omega) (by omega) (by omega), mm_bv_sm (mm_bv_sm (ra20) (fun j => g1.2 21 (by decide) j) (fun j => g1.2 19 (by decide) j) (by omega) (by omega)) (fun j => g2.2 21 (by decide) j) (fun j => g2.2 19 (by decide) j) (by omega) (by omega), mm_eq_le (mm_eq_fr (mm_eq_fr (ra21) g1 (by decide) (by decide)) g2 (by decide) (by decide)) (by omega)⟩)
set_option maxRecDepth 100000 in
set_option maxHeartbeats 4000000 in
theorem lw_c29 {x : mX} {L : Nat} {xs : Nat → Int32} (C : mm_OK 60 1082649 5848156 code RL 8 ret x) (X : mm_scr x L xs) (hl : x.2.1.stackTraces = false) (hL : L ≤ 3072) (i : Int) (hi : 0 ≤ i ∧ i + 6 ≤ L) (h : mH) (i0 : mm_inv h) (r0 : mm_RO h) (rl0 : mm_Rl h) (K : mm_K x i) : mm_W x (mm_aA i h) (mm_bB i h) 1612 (mm_lls i) [] h := by
  have zl := mm_zf_le h
  have ea : mm_aA i h = 200 + i.toNat + (mm_zf h).1 := rfl
  have eb : mm_bB i h = 90000 + 6 * i.toNat + (mm_zf h).2 := rfl
  obtain ⟨rs0, rs1, rs2, rs3, rs4, rs5, rs6, rs7, rs8, rs9, ra0, ra1, ra2, ra3, ra4, ra5, ra6, ra7, ra8, ra9, ra10, ra11, ra12, ra13, ra14, ra15, ra16, ra17, ra18, ra19, ra20, ra21⟩ := rl0
  refine mm_aload_n C (mm_dec dk_law17 30 rfl) rfl ?_
  refine mm_aload_n C (mm_dec dk_law17 31 rfl) rfl ?_
  refine mm_iload C (mm_dec dk_law17 32 rfl) rfl ?_
  refine mm_iconst C (mm_dec dk_law17 33 rfl) ⟨by decide, by decide⟩ ?_
  refine mm_iadd C (mm_dec dk_law17 34 rfl) ⟨by omega, by omega⟩ ?_
  refine mm_sld C X (mm_dec dk_law17 35 rfl) (by omega) (by omega) ?_
  refine mm_aload_n C (mm_dec dk_law17 36 rfl) rfl ?_
  refine mm_cHi (d := 59) (rest := []) C mh_L_lost ml_L_216 sm_L_lost (mm_dec dk_law17 37 rfl) (c_L_lost x.2.1 hl 59 (by decide) h i0 (mm_sc xs (i + 1))) rfl (Nat.le_of_ble_eq_true rfl) ⟨by omega, by omega⟩ rfl (fun r1 h1 hp1 => ?_)
  obtain ⟨b1, i1, g1⟩ := hp1
  have q1_1_5 : h1.1 1 5 = h.1 1 5 := g1.1 1 5 (by decide)
  have q1_66_1 : h1.1 66 1 = h.1 66 1 := g1.1 66 1 (by decide)
  have q1_1_6 : h1.1 1 6 = h.1 1 6 := g1.1 1 6 (by decide)
  have q1_66_2 : h1.1 66 2 = h.1 66 2 := g1.1 66 2 (by decide)
  have q1_14_8 : h1.1 14 8 = h.1 14 8 := g1.1 14 8 (by decide)
  have q1_66_22 : h1.1 66 22 = h.1 66 22 := g1.1 66 22 (by decide)
  have q1_22_8 : h1.1 22 8 = h.1 22 8 := g1.1 22 8 (by decide)
  have q1_66_23 : h1.1 66 23 = h.1 66 23 := g1.1 66 23 (by decide)
  have q1_14_7 : h1.1 14 7 = h.1 14 7 := g1.1 14 7 (by decide)
  have q1_66_21 : h1.1 66 21 = h.1 66 21 := g1.1 66 21 (by decide)
  have q1_22_9 : h1.1 22 9 = h.1 22 9 := g1.1 22 9 (by decide)
  have q1_66_24 : h1.1 66 24 = h.1 66 24 := g1.1 66 24 (by decide)
  have q1_0_12 : h1.1 0 12 = h.1 0 12 := g1.1 0 12 (by decide)
  have q1_66_56 : h1.1 66 56 = h.1 66 56 := g1.1 66 56 (by decide)
  have q1_58_10 : h1.1 58 10 = h.1 58 10 := g1.1 58 10 (by decide)
  have q1_66_95 : h1.1 66 95 = h.1 66 95 := g1.1 66 95 (by decide)
  have q1_58_9 : h1.1 58 9 = h.1 58 9 := g1.1 58 9 (by decide)
  have q1_66_96 : h1.1 66 96 = h.1 66 96 := g1.1 66 96 (by decide)
  have q1_58_8 : h1.1 58 8 = h.1 58 8 := g1.1 58 8 (by decide)
  have q1_66_97 : h1.1 66 97 = h.1 66 97 := g1.1 66 97 (by decide)
  have q1_1_7 : h1.1 1 7 = h.1 1 7 := g1.1 1 7 (by decide)
  have q1_66_3 : h1.1 66 3 = h.1 66 3 := g1.1 66 3 (by decide)
  have q1_66_9 : h1.1 66 9 = h.1 66 9 := g1.1 66 9 (by decide)
  have q1_66_10 : h1.1 66 10 = h.1 66 10 := g1.1 66 10 (by decide)
  have q1_1_8 : h1.1 1 8 = h.1 1 8 := g1.1 1 8 (by decide)
  have q1_66_11 : h1.1 66 11 = h.1 66 11 := g1.1 66 11 (by decide)
  have q1_66_12 : h1.1 66 12 = h.1 66 12 := g1.1 66 12 (by decide)
  refine mm_istoreL (ls2 := [mR 3000, mR 0, mR 66, mR 124, mI i, mI r1, mU, mU]) C (mm_dec dk_law17 38 rfl) (by decide) rfl ?_
  refine mm_aload_n C (mm_dec dk_law17 39 rfl) rfl ?_
  refine mm_aload_n C (mm_dec dk_law17 40 rfl) rfl ?_
  refine mm_iload C (mm_dec dk_law17 41 rfl) rfl ?_
  refine mm_iconst C (mm_dec dk_law17 42 rfl) ⟨by decide, by decide⟩ ?_
  refine mm_iadd C (mm_dec dk_law17 43 rfl) ⟨by omega, by omega⟩ ?_
  refine mm_sld C X (mm_dec dk_law17 44 rfl) (by omega) (by omega) ?_
  refine mm_cVi (d := 59) (rest := []) C ev_L_218 (mm_dec dk_law17 45 rfl) (c_X12_lost x.2.1 hl 59 (by decide) h1 i1 (mm_sc xs (i + 1))) rfl rfl (Nat.le_of_ble_eq_true rfl) ⟨by omega, by omega⟩ rfl (fun r2 h2 hp2 => ?_) (fun _ _ q => q.elim)
  obtain ⟨b2, i2, g2⟩ := hp2
  have q2_1_5 : h2.1 1 5 = h1.1 1 5 := g2.1 1 5 (by decide)
  have q2_66_1 : h2.1 66 1 = h1.1 66 1 := g2.1 66 1 (by decide)
  have q2_1_6 : h2.1 1 6 = h1.1 1 6 := g2.1 1 6 (by decide)
  have q2_66_2 : h2.1 66 2 = h1.1 66 2 := g2.1 66 2 (by decide)
  have q2_14_8 : h2.1 14 8 = h1.1 14 8 := g2.1 14 8 (by decide)
  have q2_66_22 : h2.1 66 22 = h1.1 66 22 := g2.1 66 22 (by decide)
  have q2_22_8 : h2.1 22 8 = h1.1 22 8 := g2.1 22 8 (by decide)
  have q2_66_23 : h2.1 66 23 = h1.1 66 23 := g2.1 66 23 (by decide)
  have q2_14_7 : h2.1 14 7 = h1.1 14 7 := g2.1 14 7 (by decide)
  have q2_66_21 : h2.1 66 21 = h1.1 66 21 := g2.1 66 21 (by decide)
  have q2_22_9 : h2.1 22 9 = h1.1 22 9 := g2.1 22 9 (by decide)
  have q2_66_24 : h2.1 66 24 = h1.1 66 24 := g2.1 66 24 (by decide)
  have q2_0_12 : h2.1 0 12 = h1.1 0 12 := g2.1 0 12 (by decide)
  have q2_66_56 : h2.1 66 56 = h1.1 66 56 := g2.1 66 56 (by decide)
  have q2_58_10 : h2.1 58 10 = h1.1 58 10 := g2.1 58 10 (by decide)
  have q2_66_95 : h2.1 66 95 = h1.1 66 95 := g2.1 66 95 (by decide)
  have q2_58_9 : h2.1 58 9 = h1.1 58 9 := g2.1 58 9 (by decide)
  have q2_66_96 : h2.1 66 96 = h1.1 66 96 := g2.1 66 96 (by decide)
  have q2_58_8 : h2.1 58 8 = h1.1 58 8 := g2.1 58 8 (by decide)
  have q2_66_97 : h2.1 66 97 = h1.1 66 97 := g2.1 66 97 (by decide)
  have q2_1_7 : h2.1 1 7 = h1.1 1 7 := g2.1 1 7 (by decide)
  have q2_66_3 : h2.1 66 3 = h1.1 66 3 := g2.1 66 3 (by decide)
  have q2_66_9 : h2.1 66 9 = h1.1 66 9 := g2.1 66 9 (by decide)
  have q2_66_10 : h2.1 66 10 = h1.1 66 10 := g2.1 66 10 (by decide)
  have q2_1_8 : h2.1 1 8 = h1.1 1 8 := g2.1 1 8 (by decide)
  have q2_66_11 : h2.1 66 11 = h1.1 66 11 := g2.1 66 11 (by decide)
  have q2_66_12 : h2.1 66 12 = h1.1 66 12 := g2.1 66 12 (by decide)
  have qa2 : h2.2.1 124 0 = h1.2.1 124 0 := g2.2 124 (by decide) 0
  refine mm_istoreL (ls2 := [mR 3000, mR 0, mR 66, mR 124, mI i, mI r1, mI r2, mU]) C (mm_dec dk_law17 46 rfl) (by decide) rfl ?_
  refine mm_goto (tgt := 1668) C (mm_dec dk_law17 47 rfl) (by decide) ?_
  refine mm_fgt 5 ?_
  refine mm_fgt 6 ?_
  have ze := mm_zf_eq (show h2.1 58 5 = h.1 58 5 from (g2.1 58 5 (by decide)).trans ((g1.1 58 5 (by decide)).trans (rfl)))
  refine mm_widen (k := mm_aA (i + 6) h2) (n := mm_bB (i + 6) h2) (by rw [show mm_aA (i + 6) h2 = 200 + (i + 6).toNat + (mm_zf h).1 from by unfold mm_aA; rw [ze]]; omega) (by rw [show mm_bB (i + 6) h2 = 90000 + 6 * (i + 6).toNat + (mm_zf h).2 from by unfold mm_bB; rw [ze]]; omega) ?_
  exact K h2 i2 (mm_RO_fr (mm_RO_fr (r0) g1 (by decide)) g2 (by decide)) (by unfold mm_Rl; exact ⟨by omega, by omega, by omega, by omega, by omega, by omega, by omega, by omega, by omega, by omega, mm_eq_fr (mm_eq_fr (ra0) g1 (by decide) (by decide)) g2 (by decide) (by decide), mm_eq_fr (mm_eq_fr (ra1) g1 (by decide) (by decide)) g2 (by decide) (by decide), mm_eq_le (mm_eq_fr (mm_eq_fr (ra2) g1 (by decide) (by decide)) g2 (by decide) (by decide)) (by omega), mm_eq_le (mm_eq_fr (mm_eq_fr (ra3) g1 (by decide) (by decide)) g2 (by decide) (by decide)) (by omega), mm_eq_le (mm_eq_fr (mm_eq_fr (ra4) g1 (by decide) (by decide)) g2 (by decide) (by decide)) (by omega), mm_eq_le (mm_eq_fr (mm_eq_fr (ra5) g1 (by decide) (by decide)) g2 (by decide) (by decide)) (by omega), mm_tk_sm (mm_tk_sm (ra6) (fun j => g1.2 18 (by decide) j) (fun j => g1.2 85 (by decide) j) (by omega) (by omega)) (fun j => g2.2 18 (by decide) j) (fun j => g2.2 85 (by decide) j) (by omega) (by omega), mm_cb_sm (mm_cb_sm (ra7) (fun j => g1.2 85 (by decide) j) (by omega) (by omega)) (fun j => g2.2 85 (by decide) j) (by omega) (by omega), mm_fb_sm (mm_fb_sm (ra8) (fun j => g1.2 20 (by decide) j) (by omega)) (fun j => g2.2 20 (by decide) j) (by omega), mm_eq_fr (mm_eq_fr (ra9) g1 (by decide) (by decide)) g2 (by decide) (by decide), mm_eq_fr (mm_eq_fr (ra10) g1 (by decide) (by decide)) g2 (by decide) (by decide), mm_eq_fr (mm_eq_fr (ra11) g1 (by decide) (by decide)) g2 (by decide) (by decide), mm_eq_le (mm_eq_fr (mm_eq_fr (ra12) g1 (by decide) (by decide)) g2 (by decide) (by decide)) (by omega), mm_go_sm (mm_go_sm (ra13) (fun j => g1.2 6 (by decide) j) (by omega) (by omega) (by omega) (by omega) (by omega) (by omega)) (fun j => g2.2 6 (by decide) j) (by omega) (by omega) (by omega) (by omega) (by omega) (by omega), mm_eq_le (mm_eq_fr (mm_eq_fr (ra14) g1 (by decide) (by decide)) g2 (by decide) (by decide)) (by omega), mm_eq_le (mm_eq_fr (mm_eq_fr (ra15) g1 (by decide) (by decide)) g2 (by decide) (by decide)) (by omega), mm_it_sm (mm_it_sm (ra16) (fun j => g1.2 28 (by decide) j) (fun j => g1.2 88 (by decide) j) (by omega)) (fun j => g2.2 28 (by decide) j) (fun j => g2.2 88 (by decide) j) (by omega), mm_br_sm (mm_br_sm (ra17) (fun j => g1.2 21 (by decide) j) (fun j => g1.2 82 (by decide) j) (fun j => g1.2 84 (by decide) j) (fun j => g1.2 19 (by decide) j) (by omega)) (fun j => g2.2 21 (by decide) j) (fun j => g2.2 82 (by decide) j) (fun j => g2.2 84 (by decide) j) (fun j => g2.2 19 (by decide) j) (by omega), mm_gn_sm (mm_gn_sm (ra18)  (by omega) (by omega) (by omega) (by omega) (by omega))  (by omega) (by omega) (by omega) (by omega) (by omega), mm_pc_sm (mm_pc_sm (ra19) (fun j => g1.2 15 (by decide) j) (by omega) (by omega) (by omega)) (fun j => g2.2 15 (by decide) j) (by omega) (by omega) (by omega), mm_bv_sm (mm_bv_sm (ra20) (fun j => g1.2 21 (by decide) j) (fun j => g1.2 19 (by decide) j) (by omega) (by omega)) (fun j => g2.2 21 (by decide) j) (fun j => g2.2 19 (by decide) j) (by omega) (by omega), mm_eq_le (mm_eq_fr (mm_eq_fr (ra21) g1 (by decide) (by decide)) g2 (by decide) (by decide)) (by omega)⟩)
set_option maxRecDepth 100000 in
set_option maxHeartbeats 4000000 in
theorem lw_c30 {x : mX} {L : Nat} {xs : Nat → Int32} (C : mm_OK 60 1082649 5848156 code RL 8 ret x) (X : mm_scr x L xs) (hl : x.2.1.stackTraces = false) (hL : L ≤ 3072) (i : Int) (hi : 0 ≤ i ∧ i + 6 ≤ L) (h : mH) (i0 : mm_inv h) (r0 : mm_RO h) (rl0 : mm_Rl h) (K : mm_K x i) : mm_W x (mm_aA i h) (mm_bB i h) 1640 (mm_lls i) [] h := by
  have zl := mm_zf_le h
  have ea : mm_aA i h = 200 + i.toNat + (mm_zf h).1 := rfl
  have eb : mm_bB i h = 90000 + 6 * i.toNat + (mm_zf h).2 := rfl
  obtain ⟨rs0, rs1, rs2, rs3, rs4, rs5, rs6, rs7, rs8, rs9, ra0, ra1, ra2, ra3, ra4, ra5, ra6, ra7, ra8, ra9, ra10, ra11, ra12, ra13, ra14, ra15, ra16, ra17, ra18, ra19, ra20, ra21⟩ := rl0
  refine mm_aload_n C (mm_dec dk_law17 48 rfl) rfl ?_
  refine mm_aload_n C (mm_dec dk_law17 49 rfl) rfl ?_
  refine mm_iload C (mm_dec dk_law17 50 rfl) rfl ?_
  refine mm_iconst C (mm_dec dk_law17 51 rfl) ⟨by decide, by decide⟩ ?_
  refine mm_iadd C (mm_dec dk_law17 52 rfl) ⟨by omega, by omega⟩ ?_
  refine mm_sld C X (mm_dec dk_law17 53 rfl) (by omega) (by omega) ?_
  refine mm_aload_n C (mm_dec dk_law17 54 rfl) rfl ?_
  refine mm_cHi (d := 59) (rest := []) C mh_L_count ml_L_219 sm_L_count (mm_dec dk_law17 55 rfl) (c_L_count x.2.1 hl 59 (by decide) h i0 (mm_sc xs (i + 1))) rfl (Nat.le_of_ble_eq_true rfl) ⟨by omega, by omega⟩ rfl (fun r1 h1 hp1 => ?_)
  obtain ⟨b1, i1, g1⟩ := hp1
  have q1_1_5 : h1.1 1 5 = h.1 1 5 := g1.1 1 5 (by decide)
  have q1_66_1 : h1.1 66 1 = h.1 66 1 := g1.1 66 1 (by decide)
  have q1_1_6 : h1.1 1 6 = h.1 1 6 := g1.1 1 6 (by decide)
  have q1_66_2 : h1.1 66 2 = h.1 66 2 := g1.1 66 2 (by decide)
  have q1_14_8 : h1.1 14 8 = h.1 14 8 := g1.1 14 8 (by decide)
  have q1_66_22 : h1.1 66 22 = h.1 66 22 := g1.1 66 22 (by decide)
  have q1_22_8 : h1.1 22 8 = h.1 22 8 := g1.1 22 8 (by decide)
  have q1_66_23 : h1.1 66 23 = h.1 66 23 := g1.1 66 23 (by decide)
  have q1_14_7 : h1.1 14 7 = h.1 14 7 := g1.1 14 7 (by decide)
  have q1_66_21 : h1.1 66 21 = h.1 66 21 := g1.1 66 21 (by decide)
  have q1_22_9 : h1.1 22 9 = h.1 22 9 := g1.1 22 9 (by decide)
  have q1_66_24 : h1.1 66 24 = h.1 66 24 := g1.1 66 24 (by decide)
  have q1_0_12 : h1.1 0 12 = h.1 0 12 := g1.1 0 12 (by decide)
  have q1_66_56 : h1.1 66 56 = h.1 66 56 := g1.1 66 56 (by decide)
  have q1_58_10 : h1.1 58 10 = h.1 58 10 := g1.1 58 10 (by decide)
  have q1_66_95 : h1.1 66 95 = h.1 66 95 := g1.1 66 95 (by decide)
  have q1_58_9 : h1.1 58 9 = h.1 58 9 := g1.1 58 9 (by decide)
  have q1_66_96 : h1.1 66 96 = h.1 66 96 := g1.1 66 96 (by decide)
  have q1_58_8 : h1.1 58 8 = h.1 58 8 := g1.1 58 8 (by decide)
  have q1_66_97 : h1.1 66 97 = h.1 66 97 := g1.1 66 97 (by decide)
  have q1_1_7 : h1.1 1 7 = h.1 1 7 := g1.1 1 7 (by decide)
  have q1_66_3 : h1.1 66 3 = h.1 66 3 := g1.1 66 3 (by decide)
  have q1_66_9 : h1.1 66 9 = h.1 66 9 := g1.1 66 9 (by decide)
  have q1_66_10 : h1.1 66 10 = h.1 66 10 := g1.1 66 10 (by decide)
  have q1_1_8 : h1.1 1 8 = h.1 1 8 := g1.1 1 8 (by decide)
  have q1_66_11 : h1.1 66 11 = h.1 66 11 := g1.1 66 11 (by decide)
  have q1_66_12 : h1.1 66 12 = h.1 66 12 := g1.1 66 12 (by decide)
  refine mm_istoreL (ls2 := [mR 3000, mR 0, mR 66, mR 124, mI i, mI r1, mU, mU]) C (mm_dec dk_law17 56 rfl) (by decide) rfl ?_
  refine mm_aload_n C (mm_dec dk_law17 57 rfl) rfl ?_
  refine mm_aload_n C (mm_dec dk_law17 58 rfl) rfl ?_
  refine mm_iload C (mm_dec dk_law17 59 rfl) rfl ?_
  refine mm_iconst C (mm_dec dk_law18 0 rfl) ⟨by decide, by decide⟩ ?_
  refine mm_iadd C (mm_dec dk_law18 1 rfl) ⟨by omega, by omega⟩ ?_
  refine mm_sld C X (mm_dec dk_law18 2 rfl) (by omega) (by omega) ?_
  refine mm_cVi (d := 59) (rest := []) C ev_L_221 (mm_dec dk_law18 3 rfl) (c_X12_count x.2.1 hl 59 (by decide) h1 i1 (mm_sc xs (i + 1))) rfl rfl (Nat.le_of_ble_eq_true rfl) ⟨by omega, by omega⟩ rfl (fun r2 h2 hp2 => ?_) (fun _ _ q => q.elim)
  obtain ⟨b2, i2, g2⟩ := hp2
  have q2_1_5 : h2.1 1 5 = h1.1 1 5 := g2.1 1 5 (by decide)
  have q2_66_1 : h2.1 66 1 = h1.1 66 1 := g2.1 66 1 (by decide)
  have q2_1_6 : h2.1 1 6 = h1.1 1 6 := g2.1 1 6 (by decide)
  have q2_66_2 : h2.1 66 2 = h1.1 66 2 := g2.1 66 2 (by decide)
  have q2_14_8 : h2.1 14 8 = h1.1 14 8 := g2.1 14 8 (by decide)
  have q2_66_22 : h2.1 66 22 = h1.1 66 22 := g2.1 66 22 (by decide)
  have q2_22_8 : h2.1 22 8 = h1.1 22 8 := g2.1 22 8 (by decide)
  have q2_66_23 : h2.1 66 23 = h1.1 66 23 := g2.1 66 23 (by decide)
  have q2_14_7 : h2.1 14 7 = h1.1 14 7 := g2.1 14 7 (by decide)
  have q2_66_21 : h2.1 66 21 = h1.1 66 21 := g2.1 66 21 (by decide)
  have q2_22_9 : h2.1 22 9 = h1.1 22 9 := g2.1 22 9 (by decide)
  have q2_66_24 : h2.1 66 24 = h1.1 66 24 := g2.1 66 24 (by decide)
  have q2_0_12 : h2.1 0 12 = h1.1 0 12 := g2.1 0 12 (by decide)
  have q2_66_56 : h2.1 66 56 = h1.1 66 56 := g2.1 66 56 (by decide)
  have q2_58_10 : h2.1 58 10 = h1.1 58 10 := g2.1 58 10 (by decide)
  have q2_66_95 : h2.1 66 95 = h1.1 66 95 := g2.1 66 95 (by decide)
  have q2_58_9 : h2.1 58 9 = h1.1 58 9 := g2.1 58 9 (by decide)
  have q2_66_96 : h2.1 66 96 = h1.1 66 96 := g2.1 66 96 (by decide)
  have q2_58_8 : h2.1 58 8 = h1.1 58 8 := g2.1 58 8 (by decide)
  have q2_66_97 : h2.1 66 97 = h1.1 66 97 := g2.1 66 97 (by decide)
  have q2_1_7 : h2.1 1 7 = h1.1 1 7 := g2.1 1 7 (by decide)
  have q2_66_3 : h2.1 66 3 = h1.1 66 3 := g2.1 66 3 (by decide)
  have q2_66_9 : h2.1 66 9 = h1.1 66 9 := g2.1 66 9 (by decide)
  have q2_66_10 : h2.1 66 10 = h1.1 66 10 := g2.1 66 10 (by decide)
  have q2_1_8 : h2.1 1 8 = h1.1 1 8 := g2.1 1 8 (by decide)
  have q2_66_11 : h2.1 66 11 = h1.1 66 11 := g2.1 66 11 (by decide)
  have q2_66_12 : h2.1 66 12 = h1.1 66 12 := g2.1 66 12 (by decide)
  have qa2 : h2.2.1 124 0 = h1.2.1 124 0 := g2.2 124 (by decide) 0
  refine mm_istoreL (ls2 := [mR 3000, mR 0, mR 66, mR 124, mI i, mI r1, mI r2, mU]) C (mm_dec dk_law18 4 rfl) (by decide) rfl ?_
  refine mm_goto (tgt := 1668) C (mm_dec dk_law18 5 rfl) (by decide) ?_
  refine mm_fgt 5 ?_
  refine mm_fgt 6 ?_
  have ze := mm_zf_eq (show h2.1 58 5 = h.1 58 5 from (g2.1 58 5 (by decide)).trans ((g1.1 58 5 (by decide)).trans (rfl)))
  refine mm_widen (k := mm_aA (i + 6) h2) (n := mm_bB (i + 6) h2) (by rw [show mm_aA (i + 6) h2 = 200 + (i + 6).toNat + (mm_zf h).1 from by unfold mm_aA; rw [ze]]; omega) (by rw [show mm_bB (i + 6) h2 = 90000 + 6 * (i + 6).toNat + (mm_zf h).2 from by unfold mm_bB; rw [ze]]; omega) ?_
  exact K h2 i2 (mm_RO_fr (mm_RO_fr (r0) g1 (by decide)) g2 (by decide)) (by unfold mm_Rl; exact ⟨by omega, by omega, by omega, by omega, by omega, by omega, by omega, by omega, by omega, by omega, mm_eq_fr (mm_eq_fr (ra0) g1 (by decide) (by decide)) g2 (by decide) (by decide), mm_eq_fr (mm_eq_fr (ra1) g1 (by decide) (by decide)) g2 (by decide) (by decide), mm_eq_le (mm_eq_fr (mm_eq_fr (ra2) g1 (by decide) (by decide)) g2 (by decide) (by decide)) (by omega), mm_eq_le (mm_eq_fr (mm_eq_fr (ra3) g1 (by decide) (by decide)) g2 (by decide) (by decide)) (by omega), mm_eq_le (mm_eq_fr (mm_eq_fr (ra4) g1 (by decide) (by decide)) g2 (by decide) (by decide)) (by omega), mm_eq_le (mm_eq_fr (mm_eq_fr (ra5) g1 (by decide) (by decide)) g2 (by decide) (by decide)) (by omega), mm_tk_sm (mm_tk_sm (ra6) (fun j => g1.2 18 (by decide) j) (fun j => g1.2 85 (by decide) j) (by omega) (by omega)) (fun j => g2.2 18 (by decide) j) (fun j => g2.2 85 (by decide) j) (by omega) (by omega), mm_cb_sm (mm_cb_sm (ra7) (fun j => g1.2 85 (by decide) j) (by omega) (by omega)) (fun j => g2.2 85 (by decide) j) (by omega) (by omega), mm_fb_sm (mm_fb_sm (ra8) (fun j => g1.2 20 (by decide) j) (by omega)) (fun j => g2.2 20 (by decide) j) (by omega), mm_eq_fr (mm_eq_fr (ra9) g1 (by decide) (by decide)) g2 (by decide) (by decide), mm_eq_fr (mm_eq_fr (ra10) g1 (by decide) (by decide)) g2 (by decide) (by decide), mm_eq_fr (mm_eq_fr (ra11) g1 (by decide) (by decide)) g2 (by decide) (by decide), mm_eq_le (mm_eq_fr (mm_eq_fr (ra12) g1 (by decide) (by decide)) g2 (by decide) (by decide)) (by omega), mm_go_sm (mm_go_sm (ra13) (fun j => g1.2 6 (by decide) j) (by omega) (by omega) (by omega) (by omega) (by omega) (by omega)) (fun j => g2.2 6 (by decide) j) (by omega) (by omega) (by omega) (by omega) (by omega) (by omega), mm_eq_le (mm_eq_fr (mm_eq_fr (ra14) g1 (by decide) (by decide)) g2 (by decide) (by decide)) (by omega), mm_eq_le (mm_eq_fr (mm_eq_fr (ra15) g1 (by decide) (by decide)) g2 (by decide) (by decide)) (by omega), mm_it_sm (mm_it_sm (ra16) (fun j => g1.2 28 (by decide) j) (fun j => g1.2 88 (by decide) j) (by omega)) (fun j => g2.2 28 (by decide) j) (fun j => g2.2 88 (by decide) j) (by omega), mm_br_sm (mm_br_sm (ra17) (fun j => g1.2 21 (by decide) j) (fun j => g1.2 82 (by decide) j) (fun j => g1.2 84 (by decide) j) (fun j => g1.2 19 (by decide) j) (by omega)) (fun j => g2.2 21 (by decide) j) (fun j => g2.2 82 (by decide) j) (fun j => g2.2 84 (by decide) j) (fun j => g2.2 19 (by decide) j) (by omega), mm_gn_sm (mm_gn_sm (ra18)  (by omega) (by omega) (by omega) (by omega) (by omega))  (by omega) (by omega) (by omega) (by omega) (by omega), mm_pc_sm (mm_pc_sm (ra19) (fun j => g1.2 15 (by decide) j) (by omega) (by omega) (by omega)) (fun j => g2.2 15 (by decide) j) (by omega) (by omega) (by omega), mm_bv_sm (mm_bv_sm (ra20) (fun j => g1.2 21 (by decide) j) (fun j => g1.2 19 (by decide) j) (by omega) (by omega)) (fun j => g2.2 21 (by decide) j) (fun j => g2.2 19 (by decide) j) (by omega) (by omega), mm_eq_le (mm_eq_fr (mm_eq_fr (ra21) g1 (by decide) (by decide)) g2 (by decide) (by decide)) (by omega)⟩)
